theorem dX12_call_0 : decode cX12_call 0 = .ok (.aload_n 0, 1) := by decide +kernel
theorem dX12_call_1 : decode cX12_call 1 = .ok (.invokevirtual 879, 3) := by decide +kernel
theorem dX12_call_4 : decode cX12_call 4 = .ok (.iload_n 1, 1) := by decide +kernel
theorem dX12_call_5 : decode cX12_call 5 = .ok (.isub, 1) := by decide +kernel
theorem dX12_call_6 : decode cX12_call 6 = .ok (.iconst 2, 1) := by decide +kernel
theorem dX12_call_7 : decode cX12_call 7 = .ok (.isub, 1) := by decide +kernel
theorem dX12_call_8 : decode cX12_call 8 = .ok (.istore_n 2, 1) := by decide +kernel
theorem dX12_call_9 : decode cX12_call 9 = .ok (.aload_n 0, 1) := by decide +kernel
theorem dX12_call_10 : decode cX12_call 10 = .ok (.iload_n 2, 1) := by decide +kernel
theorem dX12_call_11 : decode cX12_call 11 = .ok (.iconst 2, 1) := by decide +kernel
theorem dX12_call_12 : decode cX12_call 12 = .ok (.iadd, 1) := by decide +kernel
theorem dX12_call_13 : decode cX12_call 13 = .ok (.putfield 998, 3) := by decide +kernel
theorem dX12_call_16 : decode cX12_call 16 = .ok (.aload_n 0, 1) := by decide +kernel
theorem dX12_call_17 : decode cX12_call 17 = .ok (.iload_n 1, 1) := by decide +kernel
theorem dX12_call_18 : decode cX12_call 18 = .ok (.putfield 995, 3) := by decide +kernel
theorem dX12_call_21 : decode cX12_call 21 = .ok (.aload_n 0, 1) := by decide +kernel
theorem dX12_call_22 : decode cX12_call 22 = .ok (.aload_n 0, 1) := by decide +kernel
theorem dX12_call_23 : decode cX12_call 23 = .ok (.getfield 200, 3) := by decide +kernel
theorem dX12_call_26 : decode cX12_call 26 = .ok (.iload_n 2, 1) := by decide +kernel
theorem dX12_call_27 : decode cX12_call 27 = .ok (.iconst 1, 1) := by decide +kernel
theorem dX12_call_28 : decode cX12_call 28 = .ok (.iadd, 1) := by decide +kernel
theorem dX12_call_29 : decode cX12_call 29 = .ok (.iaload, 1) := by decide +kernel
theorem dX12_call_30 : decode cX12_call 30 = .ok (.aload_n 0, 1) := by decide +kernel
theorem dX12_call_31 : decode cX12_call 31 = .ok (.getfield 203, 3) := by decide +kernel
theorem dX12_call_34 : decode cX12_call 34 = .ok (.iload_n 2, 1) := by decide +kernel
theorem dX12_call_35 : decode cX12_call 35 = .ok (.iconst 1, 1) := by decide +kernel
theorem dX12_call_36 : decode cX12_call 36 = .ok (.iadd, 1) := by decide +kernel
theorem dX12_call_37 : decode cX12_call 37 = .ok (.iaload, 1) := by decide +kernel
theorem dX12_call_38 : decode cX12_call 38 = .ok (.aload_n 0, 1) := by decide +kernel
theorem dX12_call_39 : decode cX12_call 39 = .ok (.getfield 200, 3) := by decide +kernel
theorem dX12_call_42 : decode cX12_call 42 = .ok (.iload_n 2, 1) := by decide +kernel
theorem dX12_call_43 : decode cX12_call 43 = .ok (.iaload, 1) := by decide +kernel
theorem dX12_call_44 : decode cX12_call 44 = .ok (.aload_n 0, 1) := by decide +kernel
theorem dX12_call_45 : decode cX12_call 45 = .ok (.getfield 203, 3) := by decide +kernel
theorem dX12_call_48 : decode cX12_call 48 = .ok (.iload_n 2, 1) := by decide +kernel
theorem dX12_call_49 : decode cX12_call 49 = .ok (.iaload, 1) := by decide +kernel
theorem dX12_call_50 : decode cX12_call 50 = .ok (.iload_n 1, 1) := by decide +kernel
theorem dX12_call_51 : decode cX12_call 51 = .ok (.iconst 2, 1) := by decide +kernel
theorem dX12_call_52 : decode cX12_call 52 = .ok (.iadd, 1) := by decide +kernel
theorem dX12_call_53 : decode cX12_call 53 = .ok (.iconst (-1), 1) := by decide +kernel
theorem dX12_call_54 : decode cX12_call 54 = .ok (.invokevirtual 1001, 3) := by decide +kernel
theorem dX12_call_57 : decode cX12_call 57 = .ok (.return_, 1) := by decide +kernel
theorem dX12_makeNew_0 : decode cX12_makeNew 0 = .ok (.aload_n 0, 1) := by decide +kernel
theorem dX12_makeNew_1 : decode cX12_makeNew 1 = .ok (.invokevirtual 879, 3) := by decide +kernel
theorem dX12_makeNew_4 : decode cX12_makeNew 4 = .ok (.iload_n 1, 1) := by decide +kernel
theorem dX12_makeNew_5 : decode cX12_makeNew 5 = .ok (.isub, 1) := by decide +kernel
theorem dX12_makeNew_6 : decode cX12_makeNew 6 = .ok (.iconst 1, 1) := by decide +kernel
theorem dX12_makeNew_7 : decode cX12_makeNew 7 = .ok (.isub, 1) := by decide +kernel
theorem dX12_makeNew_8 : decode cX12_makeNew 8 = .ok (.istore_n 3, 1) := by decide +kernel
theorem dX12_makeNew_9 : decode cX12_makeNew 9 = .ok (.aload_n 0, 1) := by decide +kernel
theorem dX12_makeNew_10 : decode cX12_makeNew 10 = .ok (.getfield 200, 3) := by decide +kernel
theorem dX12_makeNew_13 : decode cX12_makeNew 13 = .ok (.iload_n 3, 1) := by decide +kernel
theorem dX12_makeNew_14 : decode cX12_makeNew 14 = .ok (.iaload, 1) := by decide +kernel
theorem dX12_makeNew_15 : decode cX12_makeNew 15 = .ok (.istore 4, 2) := by decide +kernel
theorem dX12_makeNew_17 : decode cX12_makeNew 17 = .ok (.aload_n 0, 1) := by decide +kernel
theorem dX12_makeNew_18 : decode cX12_makeNew 18 = .ok (.getfield 203, 3) := by decide +kernel
theorem dX12_makeNew_21 : decode cX12_makeNew 21 = .ok (.iload_n 3, 1) := by decide +kernel
theorem dX12_makeNew_22 : decode cX12_makeNew 22 = .ok (.iaload, 1) := by decide +kernel
theorem dX12_makeNew_23 : decode cX12_makeNew 23 = .ok (.istore 5, 2) := by decide +kernel
theorem dX12_makeNew_25 : decode cX12_makeNew 25 = .ok (.aload_n 0, 1) := by decide +kernel
theorem dX12_makeNew_26 : decode cX12_makeNew 26 = .ok (.iload_n 3, 1) := by decide +kernel
theorem dX12_makeNew_27 : decode cX12_makeNew 27 = .ok (.iconst 1, 1) := by decide +kernel
theorem dX12_makeNew_28 : decode cX12_makeNew 28 = .ok (.iadd, 1) := by decide +kernel
theorem dX12_makeNew_29 : decode cX12_makeNew 29 = .ok (.putfield 998, 3) := by decide +kernel
theorem dX12_makeNew_32 : decode cX12_makeNew 32 = .ok (.aload_n 0, 1) := by decide +kernel
theorem dX12_makeNew_33 : decode cX12_makeNew 33 = .ok (.iload_n 1, 1) := by decide +kernel
theorem dX12_makeNew_34 : decode cX12_makeNew 34 = .ok (.putfield 995, 3) := by decide +kernel
theorem dX12_makeNew_37 : decode cX12_makeNew 37 = .ok (.aload_n 0, 1) := by decide +kernel
theorem dX12_makeNew_38 : decode cX12_makeNew 38 = .ok (.iload 4, 2) := by decide +kernel
theorem dX12_makeNew_40 : decode cX12_makeNew 40 = .ok (.iload 5, 2) := by decide +kernel
theorem dX12_makeNew_42 : decode cX12_makeNew 42 = .ok (.invokevirtual 992, 3) := by decide +kernel
theorem dX12_makeNew_45 : decode cX12_makeNew 45 = .ok (.ifCond .eq 38, 3) := by decide +kernel
theorem dX12_makeNew_48 : decode cX12_makeNew 48 = .ok (.aload_n 0, 1) := by decide +kernel
theorem dX12_makeNew_49 : decode cX12_makeNew 49 = .ok (.getfield 146, 3) := by decide +kernel
theorem dX12_makeNew_52 : decode cX12_makeNew 52 = .ok (.iload 5, 2) := by decide +kernel
theorem dX12_makeNew_54 : decode cX12_makeNew 54 = .ok (.iaload, 1) := by decide +kernel
theorem dX12_makeNew_55 : decode cX12_makeNew 55 = .ok (.ifCond .gt 24, 3) := by decide +kernel
theorem dX12_makeNew_58 : decode cX12_makeNew 58 = .ok (.iload 5, 2) := by decide +kernel
theorem dX12_makeNew_60 : decode cX12_makeNew 60 = .ok (.bipush 10, 2) := by decide +kernel
theorem dX12_makeNew_62 : decode cX12_makeNew 62 = .ok (.if_icmp .lt 21, 3) := by decide +kernel
theorem dX12_makeNew_65 : decode cX12_makeNew 65 = .ok (.iload 5, 2) := by decide +kernel
theorem dX12_makeNew_67 : decode cX12_makeNew 67 = .ok (.bipush 17, 2) := by decide +kernel
theorem dX12_makeNew_69 : decode cX12_makeNew 69 = .ok (.if_icmp .gt 14, 3) := by decide +kernel
theorem dX12_makeNew_72 : decode cX12_makeNew 72 = .ok (.iload 5, 2) := by decide +kernel
theorem dX12_makeNew_74 : decode cX12_makeNew 74 = .ok (.bipush 13, 2) := by decide +kernel
theorem dX12_makeNew_76 : decode cX12_makeNew 76 = .ok (.if_icmp .eq 7, 3) := by decide +kernel
theorem dX12_makeNew_79 : decode cX12_makeNew 79 = .ok (.iconst 1, 1) := by decide +kernel
theorem dX12_makeNew_80 : decode cX12_makeNew 80 = .ok (.goto 4, 3) := by decide +kernel
theorem dX12_makeNew_83 : decode cX12_makeNew 83 = .ok (.iconst 0, 1) := by decide +kernel
theorem dX12_makeNew_84 : decode cX12_makeNew 84 = .ok (.istore 6, 2) := by decide +kernel
theorem dX12_makeNew_86 : decode cX12_makeNew 86 = .ok (.iload 6, 2) := by decide +kernel
theorem dX12_makeNew_88 : decode cX12_makeNew 88 = .ok (.ifCond .ne 10, 3) := by decide +kernel
theorem dX12_makeNew_91 : decode cX12_makeNew 91 = .ok (.aload_n 0, 1) := by decide +kernel
theorem dX12_makeNew_92 : decode cX12_makeNew 92 = .ok (.bipush 6, 2) := by decide +kernel
theorem dX12_makeNew_94 : decode cX12_makeNew 94 = .ok (.invokevirtual 966, 3) := by decide +kernel
theorem dX12_makeNew_97 : decode cX12_makeNew 97 = .ok (.return_, 1) := by decide +kernel
theorem dX12_makeNew_98 : decode cX12_makeNew 98 = .ok (.aload_n 0, 1) := by decide +kernel
theorem dX12_makeNew_99 : decode cX12_makeNew 99 = .ok (.getfield 146, 3) := by decide +kernel
theorem dX12_makeNew_102 : decode cX12_makeNew 102 = .ok (.iload 5, 2) := by decide +kernel
theorem dX12_makeNew_104 : decode cX12_makeNew 104 = .ok (.iaload, 1) := by decide +kernel
theorem dX12_makeNew_105 : decode cX12_makeNew 105 = .ok (.ifCond .ne 15, 3) := by decide +kernel
theorem dX12_makeNew_108 : decode cX12_makeNew 108 = .ok (.aload_n 0, 1) := by decide +kernel
theorem dX12_makeNew_109 : decode cX12_makeNew 109 = .ok (.iload 5, 2) := by decide +kernel
theorem dX12_makeNew_111 : decode cX12_makeNew 111 = .ok (.iconst 0, 1) := by decide +kernel
theorem dX12_makeNew_112 : decode cX12_makeNew 112 = .ok (.iconst 0, 1) := by decide +kernel
theorem dX12_makeNew_113 : decode cX12_makeNew 113 = .ok (.iload_n 1, 1) := by decide +kernel
theorem dX12_makeNew_114 : decode cX12_makeNew 114 = .ok (.iconst 1, 1) := by decide +kernel
theorem dX12_makeNew_115 : decode cX12_makeNew 115 = .ok (.iadd, 1) := by decide +kernel
theorem dX12_makeNew_116 : decode cX12_makeNew 116 = .ok (.invokevirtual 1008, 3) := by decide +kernel
theorem dX12_makeNew_119 : decode cX12_makeNew 119 = .ok (.return_, 1) := by decide +kernel
theorem dX12_makeNew_120 : decode cX12_makeNew 120 = .ok (.aload_n 0, 1) := by decide +kernel
theorem dX12_makeNew_121 : decode cX12_makeNew 121 = .ok (.iload 5, 2) := by decide +kernel
theorem dX12_makeNew_123 : decode cX12_makeNew 123 = .ok (.iconst 1, 1) := by decide +kernel
theorem dX12_makeNew_124 : decode cX12_makeNew 124 = .ok (.invokevirtual 972, 3) := by decide +kernel
theorem dX12_makeNew_127 : decode cX12_makeNew 127 = .ok (.istore 7, 2) := by decide +kernel
theorem dX12_makeNew_129 : decode cX12_makeNew 129 = .ok (.aload_n 0, 1) := by decide +kernel
theorem dX12_makeNew_130 : decode cX12_makeNew 130 = .ok (.aload_n 0, 1) := by decide +kernel
theorem dX12_makeNew_131 : decode cX12_makeNew 131 = .ok (.getfield 788, 3) := by decide +kernel
theorem dX12_makeNew_134 : decode cX12_makeNew 134 = .ok (.bipush 7, 2) := by decide +kernel
theorem dX12_makeNew_136 : decode cX12_makeNew 136 = .ok (.if_icmp .ne 10, 3) := by decide +kernel
theorem dX12_makeNew_139 : decode cX12_makeNew 139 = .ok (.aload_n 0, 1) := by decide +kernel
theorem dX12_makeNew_140 : decode cX12_makeNew 140 = .ok (.getfield 791, 3) := by decide +kernel
theorem dX12_makeNew_143 : decode cX12_makeNew 143 = .ok (.goto 4, 3) := by decide +kernel
theorem dX12_makeNew_146 : decode cX12_makeNew 146 = .ok (.iconst 1, 1) := by decide +kernel
theorem dX12_makeNew_147 : decode cX12_makeNew 147 = .ok (.aload_n 0, 1) := by decide +kernel
theorem dX12_makeNew_148 : decode cX12_makeNew 148 = .ok (.iload_n 2, 1) := by decide +kernel
theorem dX12_makeNew_149 : decode cX12_makeNew 149 = .ok (.invokevirtual 920, 3) := by decide +kernel
theorem dX12_makeNew_152 : decode cX12_makeNew 152 = .ok (.iconst 0, 1) := by decide +kernel
theorem dX12_makeNew_153 : decode cX12_makeNew 153 = .ok (.invokevirtual 858, 3) := by decide +kernel
theorem dX12_makeNew_156 : decode cX12_makeNew 156 = .ok (.istore 8, 2) := by decide +kernel
theorem dX12_makeNew_158 : decode cX12_makeNew 158 = .ok (.aload_n 0, 1) := by decide +kernel
theorem dX12_makeNew_159 : decode cX12_makeNew 159 = .ok (.getfield 794, 3) := by decide +kernel
theorem dX12_makeNew_162 : decode cX12_makeNew 162 = .ok (.ifCond .ne 20, 3) := by decide +kernel
theorem dX12_makeNew_165 : decode cX12_makeNew 165 = .ok (.aload_n 0, 1) := by decide +kernel
theorem dX12_makeNew_166 : decode cX12_makeNew 166 = .ok (.bipush 7, 2) := by decide +kernel
theorem dX12_makeNew_168 : decode cX12_makeNew 168 = .ok (.iload 5, 2) := by decide +kernel
theorem dX12_makeNew_170 : decode cX12_makeNew 170 = .ok (.bipush 7, 2) := by decide +kernel
theorem dX12_makeNew_172 : decode cX12_makeNew 172 = .ok (.iload 8, 2) := by decide +kernel
theorem dX12_makeNew_174 : decode cX12_makeNew 174 = .ok (.iload_n 1, 1) := by decide +kernel
theorem dX12_makeNew_175 : decode cX12_makeNew 175 = .ok (.iconst 1, 1) := by decide +kernel
theorem dX12_makeNew_176 : decode cX12_makeNew 176 = .ok (.iadd, 1) := by decide +kernel
theorem dX12_makeNew_177 : decode cX12_makeNew 177 = .ok (.iload 8, 2) := by decide +kernel
theorem dX12_makeNew_179 : decode cX12_makeNew 179 = .ok (.invokevirtual 1001, 3) := by decide +kernel
theorem dX12_makeNew_182 : decode cX12_makeNew 182 = .ok (.return_, 1) := by decide +kernel
theorem dX12_step__0 : decode cX12_step_ 0 = .ok (.aload_n 0, 1) := by decide +kernel
theorem dX12_step__1 : decode cX12_step_ 1 = .ok (.getfield 182, 3) := by decide +kernel
theorem dX12_step__4 : decode cX12_step_ 4 = .ok (.aload_n 0, 1) := by decide +kernel
theorem dX12_step__5 : decode cX12_step_ 5 = .ok (.getfield 872, 3) := by decide +kernel
theorem dX12_step__8 : decode cX12_step_ 8 = .ok (.iconst 1, 1) := by decide +kernel
theorem dX12_step__9 : decode cX12_step_ 9 = .ok (.isub, 1) := by decide +kernel
theorem dX12_step__10 : decode cX12_step_ 10 = .ok (.iaload, 1) := by decide +kernel
theorem dX12_step__11 : decode cX12_step_ 11 = .ok (.istore_n 1, 1) := by decide +kernel
theorem dX12_step__12 : decode cX12_step_ 12 = .ok (.aload_n 0, 1) := by decide +kernel
theorem dX12_step__13 : decode cX12_step_ 13 = .ok (.getfield 92, 3) := by decide +kernel
theorem dX12_step__16 : decode cX12_step_ 16 = .ok (.iload_n 1, 1) := by decide +kernel
theorem dX12_step__17 : decode cX12_step_ 17 = .ok (.iaload, 1) := by decide +kernel
theorem dX12_step__18 : decode cX12_step_ 18 = .ok (.istore_n 2, 1) := by decide +kernel
theorem dX12_step__19 : decode cX12_step_ 19 = .ok (.aload_n 0, 1) := by decide +kernel
theorem dX12_step__20 : decode cX12_step_ 20 = .ok (.getfield 95, 3) := by decide +kernel
theorem dX12_step__23 : decode cX12_step_ 23 = .ok (.iload_n 1, 1) := by decide +kernel
theorem dX12_step__24 : decode cX12_step_ 24 = .ok (.iaload, 1) := by decide +kernel
theorem dX12_step__25 : decode cX12_step_ 25 = .ok (.istore_n 3, 1) := by decide +kernel
theorem dX12_step__26 : decode cX12_step_ 26 = .ok (.aload_n 0, 1) := by decide +kernel
theorem dX12_step__27 : decode cX12_step_ 27 = .ok (.getfield 89, 3) := by decide +kernel
theorem dX12_step__30 : decode cX12_step_ 30 = .ok (.iload_n 1, 1) := by decide +kernel
theorem dX12_step__31 : decode cX12_step_ 31 = .ok (.iaload, 1) := by decide +kernel
theorem dX12_step__32 : decode cX12_step_ 32 = .ok (.tableswitch 403 0 16 #[84, 98, 136, 163, 186, 163, 216, 250, 275, 298, 306, 313, 320, 327, 378, 386, 394], 84) := by decide +kernel
theorem dX12_step__116 : decode cX12_step_ 116 = .ok (.aload_n 0, 1) := by decide +kernel
theorem dX12_step__117 : decode cX12_step_ 117 = .ok (.iload_n 2, 1) := by decide +kernel
theorem dX12_step__118 : decode cX12_step_ 118 = .ok (.iload_n 3, 1) := by decide +kernel
theorem dX12_step__119 : decode cX12_step_ 119 = .ok (.invokevirtual 822, 3) := by decide +kernel
theorem dX12_step__122 : decode cX12_step_ 122 = .ok (.aload_n 0, 1) := by decide +kernel
theorem dX12_step__123 : decode cX12_step_ 123 = .ok (.iconst 0, 1) := by decide +kernel
theorem dX12_step__124 : decode cX12_step_ 124 = .ok (.invokevirtual 904, 3) := by decide +kernel
theorem dX12_step__127 : decode cX12_step_ 127 = .ok (.goto 319, 3) := by decide +kernel
theorem dX12_step__130 : decode cX12_step_ 130 = .ok (.aload_n 0, 1) := by decide +kernel
theorem dX12_step__131 : decode cX12_step_ 131 = .ok (.aload_n 0, 1) := by decide +kernel
theorem dX12_step__132 : decode cX12_step_ 132 = .ok (.iload_n 2, 1) := by decide +kernel
theorem dX12_step__133 : decode cX12_step_ 133 = .ok (.invokevirtual 907, 3) := by decide +kernel
theorem dX12_step__136 : decode cX12_step_ 136 = .ok (.iload_n 3, 1) := by decide +kernel
theorem dX12_step__137 : decode cX12_step_ 137 = .ok (.invokevirtual 846, 3) := by decide +kernel
theorem dX12_step__140 : decode cX12_step_ 140 = .ok (.istore 4, 2) := by decide +kernel
theorem dX12_step__142 : decode cX12_step_ 142 = .ok (.aload_n 0, 1) := by decide +kernel
theorem dX12_step__143 : decode cX12_step_ 143 = .ok (.aload_n 0, 1) := by decide +kernel
theorem dX12_step__144 : decode cX12_step_ 144 = .ok (.getfield 158, 3) := by decide +kernel
theorem dX12_step__147 : decode cX12_step_ 147 = .ok (.iload 4, 2) := by decide +kernel
theorem dX12_step__149 : decode cX12_step_ 149 = .ok (.iaload, 1) := by decide +kernel
theorem dX12_step__150 : decode cX12_step_ 150 = .ok (.aload_n 0, 1) := by decide +kernel
theorem dX12_step__151 : decode cX12_step_ 151 = .ok (.getfield 161, 3) := by decide +kernel
theorem dX12_step__154 : decode cX12_step_ 154 = .ok (.iload 4, 2) := by decide +kernel
theorem dX12_step__156 : decode cX12_step_ 156 = .ok (.iaload, 1) := by decide +kernel
theorem dX12_step__157 : decode cX12_step_ 157 = .ok (.invokevirtual 822, 3) := by decide +kernel
theorem dX12_step__160 : decode cX12_step_ 160 = .ok (.aload_n 0, 1) := by decide +kernel
theorem dX12_step__161 : decode cX12_step_ 161 = .ok (.iconst 0, 1) := by decide +kernel
theorem dX12_step__162 : decode cX12_step_ 162 = .ok (.invokevirtual 904, 3) := by decide +kernel
theorem dX12_step__165 : decode cX12_step_ 165 = .ok (.goto 281, 3) := by decide +kernel
theorem dX12_step__168 : decode cX12_step_ 168 = .ok (.aload_n 0, 1) := by decide +kernel
theorem dX12_step__169 : decode cX12_step_ 169 = .ok (.aload_n 0, 1) := by decide +kernel
theorem dX12_step__170 : decode cX12_step_ 170 = .ok (.iload_n 2, 1) := by decide +kernel
theorem dX12_step__171 : decode cX12_step_ 171 = .ok (.invokevirtual 907, 3) := by decide +kernel
theorem dX12_step__174 : decode cX12_step_ 174 = .ok (.iload_n 3, 1) := by decide +kernel
theorem dX12_step__175 : decode cX12_step_ 175 = .ok (.aload_n 0, 1) := by decide +kernel
theorem dX12_step__176 : decode cX12_step_ 176 = .ok (.iconst 0, 1) := by decide +kernel
theorem dX12_step__177 : decode cX12_step_ 177 = .ok (.invokevirtual 910, 3) := by decide +kernel
theorem dX12_step__180 : decode cX12_step_ 180 = .ok (.aload_n 0, 1) := by decide +kernel
theorem dX12_step__181 : decode cX12_step_ 181 = .ok (.iconst 0, 1) := by decide +kernel
theorem dX12_step__182 : decode cX12_step_ 182 = .ok (.invokevirtual 913, 3) := by decide +kernel
theorem dX12_step__185 : decode cX12_step_ 185 = .ok (.invokevirtual 870, 3) := by decide +kernel
theorem dX12_step__188 : decode cX12_step_ 188 = .ok (.aload_n 0, 1) := by decide +kernel
theorem dX12_step__189 : decode cX12_step_ 189 = .ok (.invokevirtual 888, 3) := by decide +kernel
theorem dX12_step__192 : decode cX12_step_ 192 = .ok (.goto 254, 3) := by decide +kernel
theorem dX12_step__195 : decode cX12_step_ 195 = .ok (.aload_n 0, 1) := by decide +kernel
theorem dX12_step__196 : decode cX12_step_ 196 = .ok (.aload_n 0, 1) := by decide +kernel
theorem dX12_step__197 : decode cX12_step_ 197 = .ok (.getfield 89, 3) := by decide +kernel
theorem dX12_step__200 : decode cX12_step_ 200 = .ok (.iload_n 1, 1) := by decide +kernel
theorem dX12_step__201 : decode cX12_step_ 201 = .ok (.iaload, 1) := by decide +kernel
theorem dX12_step__202 : decode cX12_step_ 202 = .ok (.iconst 3, 1) := by decide +kernel
theorem dX12_step__203 : decode cX12_step_ 203 = .ok (.if_icmp .ne 7, 3) := by decide +kernel
theorem dX12_step__206 : decode cX12_step_ 206 = .ok (.iconst 1, 1) := by decide +kernel
theorem dX12_step__207 : decode cX12_step_ 207 = .ok (.goto 4, 3) := by decide +kernel
theorem dX12_step__210 : decode cX12_step_ 210 = .ok (.iconst 0, 1) := by decide +kernel
theorem dX12_step__211 : decode cX12_step_ 211 = .ok (.iload_n 3, 1) := by decide +kernel
theorem dX12_step__212 : decode cX12_step_ 212 = .ok (.invokevirtual 916, 3) := by decide +kernel
theorem dX12_step__215 : decode cX12_step_ 215 = .ok (.goto 231, 3) := by decide +kernel
theorem dX12_step__218 : decode cX12_step_ 218 = .ok (.aload_n 0, 1) := by decide +kernel
theorem dX12_step__219 : decode cX12_step_ 219 = .ok (.iconst 0, 1) := by decide +kernel
theorem dX12_step__220 : decode cX12_step_ 220 = .ok (.iload_n 3, 1) := by decide +kernel
theorem dX12_step__221 : decode cX12_step_ 221 = .ok (.aload_n 0, 1) := by decide +kernel
theorem dX12_step__222 : decode cX12_step_ 222 = .ok (.iconst 0, 1) := by decide +kernel
theorem dX12_step__223 : decode cX12_step_ 223 = .ok (.invokevirtual 910, 3) := by decide +kernel
theorem dX12_step__226 : decode cX12_step_ 226 = .ok (.aload_n 0, 1) := by decide +kernel
theorem dX12_step__227 : decode cX12_step_ 227 = .ok (.iconst 0, 1) := by decide +kernel
theorem dX12_step__228 : decode cX12_step_ 228 = .ok (.invokevirtual 913, 3) := by decide +kernel
theorem dX12_step__231 : decode cX12_step_ 231 = .ok (.invokevirtual 870, 3) := by decide +kernel
theorem dX12_step__234 : decode cX12_step_ 234 = .ok (.aload_n 0, 1) := by decide +kernel
theorem dX12_step__235 : decode cX12_step_ 235 = .ok (.getfield 794, 3) := by decide +kernel
theorem dX12_step__238 : decode cX12_step_ 238 = .ok (.ifCond .ne 208, 3) := by decide +kernel
theorem dX12_step__241 : decode cX12_step_ 241 = .ok (.aload_n 0, 1) := by decide +kernel
theorem dX12_step__242 : decode cX12_step_ 242 = .ok (.invokevirtual 888, 3) := by decide +kernel
theorem dX12_step__245 : decode cX12_step_ 245 = .ok (.goto 201, 3) := by decide +kernel
theorem dX12_step__248 : decode cX12_step_ 248 = .ok (.aload_n 0, 1) := by decide +kernel
theorem dX12_step__249 : decode cX12_step_ 249 = .ok (.aload_n 0, 1) := by decide +kernel
theorem dX12_step__250 : decode cX12_step_ 250 = .ok (.getfield 176, 3) := by decide +kernel
theorem dX12_step__253 : decode cX12_step_ 253 = .ok (.aload_n 0, 1) := by decide +kernel
theorem dX12_step__254 : decode cX12_step_ 254 = .ok (.getfield 872, 3) := by decide +kernel
theorem dX12_step__257 : decode cX12_step_ 257 = .ok (.iconst 1, 1) := by decide +kernel
theorem dX12_step__258 : decode cX12_step_ 258 = .ok (.isub, 1) := by decide +kernel
theorem dX12_step__259 : decode cX12_step_ 259 = .ok (.iaload, 1) := by decide +kernel
theorem dX12_step__260 : decode cX12_step_ 260 = .ok (.aload_n 0, 1) := by decide +kernel
theorem dX12_step__261 : decode cX12_step_ 261 = .ok (.getfield 179, 3) := by decide +kernel
theorem dX12_step__264 : decode cX12_step_ 264 = .ok (.aload_n 0, 1) := by decide +kernel
theorem dX12_step__265 : decode cX12_step_ 265 = .ok (.getfield 872, 3) := by decide +kernel
theorem dX12_step__268 : decode cX12_step_ 268 = .ok (.iconst 1, 1) := by decide +kernel
theorem dX12_step__269 : decode cX12_step_ 269 = .ok (.isub, 1) := by decide +kernel
theorem dX12_step__270 : decode cX12_step_ 270 = .ok (.iaload, 1) := by decide +kernel
theorem dX12_step__271 : decode cX12_step_ 271 = .ok (.invokevirtual 822, 3) := by decide +kernel
theorem dX12_step__274 : decode cX12_step_ 274 = .ok (.aload_n 0, 1) := by decide +kernel
theorem dX12_step__275 : decode cX12_step_ 275 = .ok (.iconst 0, 1) := by decide +kernel
theorem dX12_step__276 : decode cX12_step_ 276 = .ok (.invokevirtual 904, 3) := by decide +kernel
theorem dX12_step__279 : decode cX12_step_ 279 = .ok (.goto 167, 3) := by decide +kernel
theorem dX12_step__282 : decode cX12_step_ 282 = .ok (.aload_n 0, 1) := by decide +kernel
theorem dX12_step__283 : decode cX12_step_ 283 = .ok (.bipush 7, 2) := by decide +kernel
theorem dX12_step__285 : decode cX12_step_ 285 = .ok (.aload_n 0, 1) := by decide +kernel
theorem dX12_step__286 : decode cX12_step_ 286 = .ok (.iconst 1, 1) := by decide +kernel
theorem dX12_step__287 : decode cX12_step_ 287 = .ok (.aload_n 0, 1) := by decide +kernel
theorem dX12_step__288 : decode cX12_step_ 288 = .ok (.iload_n 2, 1) := by decide +kernel
theorem dX12_step__289 : decode cX12_step_ 289 = .ok (.invokevirtual 920, 3) := by decide +kernel
theorem dX12_step__292 : decode cX12_step_ 292 = .ok (.iconst 0, 1) := by decide +kernel
theorem dX12_step__293 : decode cX12_step_ 293 = .ok (.invokevirtual 858, 3) := by decide +kernel
theorem dX12_step__296 : decode cX12_step_ 296 = .ok (.invokevirtual 822, 3) := by decide +kernel
theorem dX12_step__299 : decode cX12_step_ 299 = .ok (.aload_n 0, 1) := by decide +kernel
theorem dX12_step__300 : decode cX12_step_ 300 = .ok (.iconst 0, 1) := by decide +kernel
theorem dX12_step__301 : decode cX12_step_ 301 = .ok (.invokevirtual 904, 3) := by decide +kernel
theorem dX12_step__304 : decode cX12_step_ 304 = .ok (.goto 142, 3) := by decide +kernel
theorem dX12_step__307 : decode cX12_step_ 307 = .ok (.aload_n 0, 1) := by decide +kernel
theorem dX12_step__308 : decode cX12_step_ 308 = .ok (.bipush 7, 2) := by decide +kernel
theorem dX12_step__310 : decode cX12_step_ 310 = .ok (.aload_n 0, 1) := by decide +kernel
theorem dX12_step__311 : decode cX12_step_ 311 = .ok (.aload_n 0, 1) := by decide +kernel
theorem dX12_step__312 : decode cX12_step_ 312 = .ok (.iload_n 2, 1) := by decide +kernel
theorem dX12_step__313 : decode cX12_step_ 313 = .ok (.invokevirtual 920, 3) := by decide +kernel
theorem dX12_step__316 : decode cX12_step_ 316 = .ok (.invokevirtual 923, 3) := by decide +kernel
theorem dX12_step__319 : decode cX12_step_ 319 = .ok (.invokevirtual 822, 3) := by decide +kernel
theorem dX12_step__322 : decode cX12_step_ 322 = .ok (.aload_n 0, 1) := by decide +kernel
theorem dX12_step__323 : decode cX12_step_ 323 = .ok (.iconst 0, 1) := by decide +kernel
theorem dX12_step__324 : decode cX12_step_ 324 = .ok (.invokevirtual 904, 3) := by decide +kernel
theorem dX12_step__327 : decode cX12_step_ 327 = .ok (.goto 119, 3) := by decide +kernel
theorem dX12_step__330 : decode cX12_step_ 330 = .ok (.aload_n 0, 1) := by decide +kernel
theorem dX12_step__331 : decode cX12_step_ 331 = .ok (.iload_n 2, 1) := by decide +kernel
theorem dX12_step__332 : decode cX12_step_ 332 = .ok (.invokevirtual 926, 3) := by decide +kernel
theorem dX12_step__335 : decode cX12_step_ 335 = .ok (.goto 111, 3) := by decide +kernel
theorem dX12_step__338 : decode cX12_step_ 338 = .ok (.aload_n 0, 1) := by decide +kernel
theorem dX12_step__339 : decode cX12_step_ 339 = .ok (.invokevirtual 929, 3) := by decide +kernel
theorem dX12_step__342 : decode cX12_step_ 342 = .ok (.goto 104, 3) := by decide +kernel
theorem dX12_step__345 : decode cX12_step_ 345 = .ok (.aload_n 0, 1) := by decide +kernel
theorem dX12_step__346 : decode cX12_step_ 346 = .ok (.invokevirtual 931, 3) := by decide +kernel
theorem dX12_step__349 : decode cX12_step_ 349 = .ok (.goto 97, 3) := by decide +kernel
theorem dX12_step__352 : decode cX12_step_ 352 = .ok (.aload_n 0, 1) := by decide +kernel
theorem dX12_step__353 : decode cX12_step_ 353 = .ok (.invokevirtual 934, 3) := by decide +kernel
theorem dX12_step__356 : decode cX12_step_ 356 = .ok (.goto 90, 3) := by decide +kernel
theorem dX12_step__359 : decode cX12_step_ 359 = .ok (.iload_n 2, 1) := by decide +kernel
theorem dX12_step__360 : decode cX12_step_ 360 = .ok (.iconst 4, 1) := by decide +kernel
theorem dX12_step__361 : decode cX12_step_ 361 = .ok (.if_icmp .ne 26, 3) := by decide +kernel
theorem dX12_step__364 : decode cX12_step_ 364 = .ok (.aload_n 0, 1) := by decide +kernel
theorem dX12_step__365 : decode cX12_step_ 365 = .ok (.bipush 6, 2) := by decide +kernel
theorem dX12_step__367 : decode cX12_step_ 367 = .ok (.aload_n 0, 1) := by decide +kernel
theorem dX12_step__368 : decode cX12_step_ 368 = .ok (.aload_n 0, 1) := by decide +kernel
theorem dX12_step__369 : decode cX12_step_ 369 = .ok (.iconst 0, 1) := by decide +kernel
theorem dX12_step__370 : decode cX12_step_ 370 = .ok (.invokevirtual 910, 3) := by decide +kernel
theorem dX12_step__373 : decode cX12_step_ 373 = .ok (.aload_n 0, 1) := by decide +kernel
theorem dX12_step__374 : decode cX12_step_ 374 = .ok (.iconst 0, 1) := by decide +kernel
theorem dX12_step__375 : decode cX12_step_ 375 = .ok (.invokevirtual 913, 3) := by decide +kernel
theorem dX12_step__378 : decode cX12_step_ 378 = .ok (.invokevirtual 937, 3) := by decide +kernel
theorem dX12_step__381 : decode cX12_step_ 381 = .ok (.invokevirtual 822, 3) := by decide +kernel
theorem dX12_step__384 : decode cX12_step_ 384 = .ok (.goto 18, 3) := by decide +kernel
theorem dX12_step__387 : decode cX12_step_ 387 = .ok (.aload_n 0, 1) := by decide +kernel
theorem dX12_step__388 : decode cX12_step_ 388 = .ok (.iload_n 2, 1) := by decide +kernel
theorem dX12_step__389 : decode cX12_step_ 389 = .ok (.aload_n 0, 1) := by decide +kernel
theorem dX12_step__390 : decode cX12_step_ 390 = .ok (.iconst 0, 1) := by decide +kernel
theorem dX12_step__391 : decode cX12_step_ 391 = .ok (.invokevirtual 910, 3) := by decide +kernel
theorem dX12_step__394 : decode cX12_step_ 394 = .ok (.aload_n 0, 1) := by decide +kernel
theorem dX12_step__395 : decode cX12_step_ 395 = .ok (.iconst 0, 1) := by decide +kernel
theorem dX12_step__396 : decode cX12_step_ 396 = .ok (.invokevirtual 913, 3) := by decide +kernel
theorem dX12_step__399 : decode cX12_step_ 399 = .ok (.invokevirtual 940, 3) := by decide +kernel
theorem dX12_step__402 : decode cX12_step_ 402 = .ok (.aload_n 0, 1) := by decide +kernel
theorem dX12_step__403 : decode cX12_step_ 403 = .ok (.iconst 1, 1) := by decide +kernel
theorem dX12_step__404 : decode cX12_step_ 404 = .ok (.invokevirtual 904, 3) := by decide +kernel
theorem dX12_step__407 : decode cX12_step_ 407 = .ok (.goto 39, 3) := by decide +kernel
theorem dX12_step__410 : decode cX12_step_ 410 = .ok (.aload_n 0, 1) := by decide +kernel
theorem dX12_step__411 : decode cX12_step_ 411 = .ok (.iload_n 2, 1) := by decide +kernel
theorem dX12_step__412 : decode cX12_step_ 412 = .ok (.invokevirtual 943, 3) := by decide +kernel
theorem dX12_step__415 : decode cX12_step_ 415 = .ok (.goto 31, 3) := by decide +kernel
theorem dX12_step__418 : decode cX12_step_ 418 = .ok (.aload_n 0, 1) := by decide +kernel
theorem dX12_step__419 : decode cX12_step_ 419 = .ok (.iload_n 2, 1) := by decide +kernel
theorem dX12_step__420 : decode cX12_step_ 420 = .ok (.invokevirtual 945, 3) := by decide +kernel
theorem dX12_step__423 : decode cX12_step_ 423 = .ok (.goto 23, 3) := by decide +kernel
theorem dX12_step__426 : decode cX12_step_ 426 = .ok (.aload_n 0, 1) := by decide +kernel
theorem dX12_step__427 : decode cX12_step_ 427 = .ok (.iload_n 2, 1) := by decide +kernel
theorem dX12_step__428 : decode cX12_step_ 428 = .ok (.iload_n 3, 1) := by decide +kernel
theorem dX12_step__429 : decode cX12_step_ 429 = .ok (.invokevirtual 948, 3) := by decide +kernel
theorem dX12_step__432 : decode cX12_step_ 432 = .ok (.goto 14, 3) := by decide +kernel
theorem dX12_step__435 : decode cX12_step_ 435 = .ok (.aload_n 0, 1) := by decide +kernel
theorem dX12_step__436 : decode cX12_step_ 436 = .ok (.aload_n 0, 1) := by decide +kernel
theorem dX12_step__437 : decode cX12_step_ 437 = .ok (.getfield 89, 3) := by decide +kernel
theorem dX12_step__440 : decode cX12_step_ 440 = .ok (.iload_n 1, 1) := by decide +kernel
theorem dX12_step__441 : decode cX12_step_ 441 = .ok (.iaload, 1) := by decide +kernel
theorem dX12_step__442 : decode cX12_step_ 442 = .ok (.iload_n 2, 1) := by decide +kernel
theorem dX12_step__443 : decode cX12_step_ 443 = .ok (.invokevirtual 951, 3) := by decide +kernel
theorem dX12_step__446 : decode cX12_step_ 446 = .ok (.return_, 1) := by decide +kernel
/-! a TRY that is open lies below; values that an instruction wants -/
theorem sm_ct_tr {op a b fo Ht Tr Td Ls ar : Int → Int} {n nf ns si : Int} (h : sm_CT op a b fo Ht Tr Td Ls ar n nf ns si) (k : Int) (h0 : 0 ≤ k) (h1 : k < n) (ht : 0 ≤ Tr k) : Ht (Tr k) ≤ Ht k := by
  have c0 := sm_ct_0 h k h0 h1
  have hv : op k = 0 ∨ op k = 1 ∨ op k = 2 ∨ op k = 3 ∨ op k = 4 ∨ op k = 5 ∨ op k = 6 ∨ op k = 7 ∨ op k = 8 ∨ op k = 9 ∨ op k = 10 ∨ op k = 11 ∨ op k = 12 ∨ op k = 13 ∨ op k = 14 ∨ op k = 15 ∨ op k = 16 ∨ op k = 17 ∨ op k = 18 ∨ op k = 19 ∨ op k = 20 ∨ op k = 21 ∨ op k = 22 ∨ op k = 23 ∨ op k = 24 ∨ op k = 25 ∨ op k = 26 ∨ op k = 27 ∨ op k = 28 ∨ op k = 29 ∨ op k = 30 := by omega
  rcases hv with hv | hv | hv | hv | hv | hv | hv | hv | hv | hv | hv | hv | hv | hv | hv | hv | hv | hv | hv | hv | hv | hv | hv | hv | hv | hv | hv | hv | hv | hv | hv
  · have w := (sm_ct_4 h k h0 h1 (by omega)).2.1
    unfold sm_lo at w
    have q := w.2.1 ht
    omega
  · have w := (sm_ct_5 h k h0 h1 (by omega)).2.1
    unfold sm_lo at w
    have q := w.2.1 ht
    omega
  · have w := (sm_ct_6 h k h0 h1 (by omega)).2.1
    unfold sm_lo at w
    have q := w.2.1 ht
    omega
  · have w := (sm_ct_5 h k h0 h1 (by omega)).2.1
    unfold sm_lo at w
    have q := w.2.1 ht
    omega
  · have w := (sm_ct_6 h k h0 h1 (by omega)).2.1
    unfold sm_lo at w
    have q := w.2.1 ht
    omega
  · have w := (sm_ct_5 h k h0 h1 (by omega)).2.1
    unfold sm_lo at w
    have q := w.2.1 ht
    omega
  · have w := (sm_ct_7 h k h0 h1 (by omega)).1
    unfold sm_lo at w
    have q := w.2.1 ht
    omega
  · have w := (sm_ct_8 h k h0 h1 (by omega)).2.1
    unfold sm_lo at w
    have q := w.2.1 ht
    omega
  · have w := (sm_ct_8 h k h0 h1 (by omega)).2.1
    unfold sm_lo at w
    have q := w.2.1 ht
    omega
  · have w := (sm_ct_9 h k h0 h1 (by omega)).2.1
    unfold sm_lo at w
    have q := w.2.1 ht
    omega
  · have w := (sm_ct_10 h k h0 h1 (by omega)).1
    unfold sm_lo at w
    have q := w.2.1 ht
    omega
  · have w := (sm_ct_11 h k h0 h1 (by omega)).1
    unfold sm_lo at w
    have q := w.2.1 ht
    omega
  · have w := (sm_ct_10 h k h0 h1 (by omega)).1
    unfold sm_lo at w
    have q := w.2.1 ht
    omega
  · have w := (sm_ct_12 h k h0 h1 (by omega)).2.1
    unfold sm_lo at w
    have q := w.2.1 ht
    have e := (sm_ct_12 h k h0 h1 (by omega)).1
    omega
  · have w := (sm_ct_13 h k h0 h1 (by omega)).2.1
    unfold sm_lo at w
    have q := w.2.1 ht
    have e := (sm_ct_13 h k h0 h1 (by omega)).1
    omega
  · have w := (sm_ct_14 h k h0 h1 (by omega)).2.1
    unfold sm_lo at w
    have q := w.2.1 ht
    have e := (sm_ct_14 h k h0 h1 (by omega)).1
    omega
  · have w := (sm_ct_15 h k h0 h1 (by omega)).2.1
    unfold sm_lo at w
    have q := w.2.1 ht
    have e := (sm_ct_15 h k h0 h1 (by omega)).1
    omega
  · have q := (sm_ct_16 h k h0 h1 (by omega)).2.1 ht
    omega
  · have w := (sm_ct_17 h k h0 h1 (by omega)).1
    unfold sm_lo at w
    have q := w.2.1 ht
    omega
  · have w := (sm_ct_18 h k h0 h1 (by omega)).1
    unfold sm_lo at w
    have q := w.2.1 ht
    omega
  · have w := (sm_ct_19 h k h0 h1 (by omega)).1
    unfold sm_lo at w
    have q := w.2.1 ht
    omega
  · have w := (sm_ct_20 h k h0 h1 (by omega)).1
    unfold sm_lo at w
    have q := w.2.1 ht
    omega
  · have w := (sm_ct_21 h k h0 h1 (by omega)).1
    unfold sm_lo at w
    have q := w.2.1 ht
    omega
  · have w := (sm_ct_22 h k h0 h1 (by omega)).1
    unfold sm_lo at w
    have q := w.2.1 ht
    omega
  · have w := (sm_ct_22 h k h0 h1 (by omega)).1
    unfold sm_lo at w
    have q := w.2.1 ht
    omega
  · have w := (sm_ct_23 h k h0 h1 (by omega))
    unfold sm_lo at w
    have q := w.2.1 ht
    omega
  · have w := (sm_ct_23 h k h0 h1 (by omega))
    unfold sm_lo at w
    have q := w.2.1 ht
    omega
  · have w := (sm_ct_24 h k h0 h1 (by omega)).2.1
    unfold sm_lo at w
    have q := w.2.1 ht
    omega
  · have w := (sm_ct_25 h k h0 h1 (by omega)).2.1
    unfold sm_lo at w
    have q := w.2.1 ht
    omega
  · have w := (sm_ct_26 h k h0 h1 (by omega)).1
    unfold sm_lo at w
    have q := w.2.1 ht
    omega
  · have q := (sm_ct_27 h k h0 h1 (by omega)).2.2.2.1 ht
    omega
theorem sm_ct_h1 {op a b fo Ht Tr Td Ls ar : Int → Int} {n nf ns si : Int} (h : sm_CT op a b fo Ht Tr Td Ls ar n nf ns si) (k : Int) (h0 : 0 ≤ k) (h1 : k < n) (ho : 17 ≤ op k) : op k = 21 ∨ op k = 27 ∨ op k = 28 ∨ 1 ≤ Ht k := by
  have c0 := sm_ct_0 h k h0 h1
  have hv : op k = 17 ∨ op k = 18 ∨ op k = 19 ∨ op k = 20 ∨ op k = 21 ∨ op k = 22 ∨ op k = 23 ∨ op k = 24 ∨ op k = 25 ∨ op k = 26 ∨ op k = 27 ∨ op k = 28 ∨ op k = 29 ∨ op k = 30 := by omega
  rcases hv with hv | hv | hv | hv | hv | hv | hv | hv | hv | hv | hv | hv | hv | hv
  · have q := (sm_ct_16 h k h0 h1 (by omega)).1
    omega
  · have w := (sm_ct_17 h k h0 h1 (by omega)).1
    unfold sm_lo at w
    omega
  · have w := (sm_ct_18 h k h0 h1 (by omega)).1
    unfold sm_lo at w
    omega
  · have w := (sm_ct_19 h k h0 h1 (by omega)).1
    unfold sm_lo at w
    omega
  · omega
  · have w := (sm_ct_21 h k h0 h1 (by omega)).1
    unfold sm_lo at w
    omega
  · have w := (sm_ct_22 h k h0 h1 (by omega)).1
    unfold sm_lo at w
    omega
  · have w := (sm_ct_22 h k h0 h1 (by omega)).1
    unfold sm_lo at w
    omega
  · have w := (sm_ct_23 h k h0 h1 (by omega))
    unfold sm_lo at w
    omega
  · have w := (sm_ct_23 h k h0 h1 (by omega))
    unfold sm_lo at w
    omega
  · omega
  · omega
  · have w := (sm_ct_26 h k h0 h1 (by omega)).1
    unfold sm_lo at w
    omega
  · have q := (sm_ct_27 h k h0 h1 (by omega)).2.2.1
    omega

def q_call (p1 : Int) (S : sv_S) : Option Value → sv_S → Prop := fun v S' => v = none ∧ sm_ok S' ∧ sv_mod [1076, 41, 42, 43, 44, 45, 46, 47, 1075, 1100029, 1084, 1085, 48, 1086, 51, 52, 49, 50, 1100020, 1100021, 1100022, 58, 63, 64, 57, 1092, 53, 54, 55, 56, 59, 60, 1073, 1109, 1110, 1111, 1112, 5, 1011, 3, 4, 1007, 1113, 1107, 67, 1100032, 1114, 1115] S S' ∧ (sm_PL (S' 1100020) (S' 51) (S' 52) (S' 46) (S' 47) (S' 1076 0) (S' 1086 0) ∧ sm_FR (S' 1100020) (S' 52) (S' 1100021) (S' 1100022) (3000 - (S' 1084 0)) (S' 1085 0) ∧ sm_PV (S' 1100020) (S' 48) (S' 49) (S' 50) (S' 44) (S' 1076 0) (S' 1007 0) ∧ sm_AL (S' 1100020) (S' 48) (S' 49) (S' 50) (S' 44) (S' 1076 0) (S' 1100032 0) ∧ sm_SV (S' 1100020) (S' 48) (S' 1100029) (S' 32) (S' 33) (S' 1076 0) (S' 1032 0) ∧ 0 ≤ (S' 1076 0) ∧ (S' 1076 0) ≤ 300 ∧ 0 ≤ (S' 1084 0) ∧ (S' 1084 0) ≤ 3000 ∧ 0 ≤ (S' 1086 0) ∧ sm_SC (S' 1100029) (S' 44) (S' 45) (S' 43) (S' 21) (S' 1076 0) (S' 1032 0) ∧ sm_PO (S' 42) (S' 1076 0) ∧ ((S' 1075 0) = 0 → (S' 1100032 0) = -1 ∧ sm_FO (S' 44) (S' 45) (S' 1076 0)) ∧ 23 ≤ (S' 1076 0) ∧ 31 ≤ (S' 1007 0) ∧ (S' 1007 0) ≤ 400 ∧ sm_LN (S' 4) 400 (S' 1007 0) ∧ (S' 1008 0) ≤ (S' 1007 0) ∧ ((S 1075 0) = 1 → (S' 1075 0) = 1) ∧ 0 ≤ (S' 1092 0) ∧ (S' 1092 0) ≤ 24 ∧ (S 1007 0) ≤ (S' 1007 0) ∧ (¬ (S' 1075 0) = 0 → sm_LX (S' 58) (S' 63) (S' 64) (S' 1092 0) (S' 1076 0)) ∧ ((S' 1075 0) = 0 → (S' 1073 0) = 1 → 1 ≤ (S' 1092 0) ∧ (S' 1092 0) ≤ 24 ∧ 0 ≤ (S' 57 ((S' 1092 0) - 1)) ∧ (S' 57 ((S' 1092 0) - 1)) < (S' 1046 0) ∧ (S' 29 (S' 57 ((S' 1092 0) - 1))) = (S' 53 ((S' 1092 0) - 1)) ∧ 0 ≤ (S' 53 ((S' 1092 0) - 1)) ∧ (S' 53 ((S' 1092 0) - 1)) < (S' 1032 0) ∧ (S' 60 ((S' 1092 0) - 1)) = sm_dp (S' 1100024) (S' 1100023 (S' 57 ((S' 1092 0) - 1))) ∧ sm_TC (S' 61) (S' 62) (S' 27) (S' 1100007) (S' 1100023) (S' 1100024) (40 * ((S' 1092 0) - 1)) (S' 1100023 (S' 57 ((S' 1092 0) - 1))) ∧ sm_LK (S' 1100029) (S' 1076 0) (S' 54 ((S' 1092 0) - 1)) (S' 53 ((S' 1092 0) - 1)) ∧ sm_VO (S' 44) (S' 1076 0) (S' 1007 0) ((S' 55 ((S' 1092 0) - 1))) ((S' 56 ((S' 1092 0) - 1))) ∧ sm_FW (S' 44) (S' 1076 0) (S' 59 ((S' 1092 0) - 1)) ∧ sm_FL (S' 53) (S' 54) (S' 55) (S' 56) (S' 57) (S' 58) (S' 59) (S' 60) (S' 61) (S' 62) (S' 63) (S' 64) (S' 27) (S' 29) (S' 1100007) (S' 1100023) (S' 1100024) (S' 1100025) (S' 26) (S' 1100029) (S' 44) (S' 1046 0) (S' 1032 0) (S' 1076 0) (S' 1007 0) (((S' 1092 0) - 1)) ∧ (S' 58 ((S' 1092 0) - 1)) = (S' 1100007 (S' 57 ((S' 1092 0) - 1))) ∧ sm_SK (S' 63) (S' 64) (S' 44) (S' 1100007) (S' 1100025) (S' 1076 0) (S' 1007 0) (400 * ((S' 1092 0) - 1)) ((S' 58 ((S' 1092 0) - 1))) ((S' 1100025 (S' 57 ((S' 1092 0) - 1))))) ∧ ((S' 1073 0) = 1 ∨ (S' 1092 0) = 0 ∧ (S' 1075 0) = 0 ∧ ((S' 1073 0) = 2 ∨ (S' 1073 0) = 3)) ∧ (S 1086 0) ≤ (S' 1086 0) ∧ (S' 1086 0) ≤ (S 1086 0) + 110 ∧ 0 ≤ (S' 1107 0) ∧ (S' 1107 0) ≤ 100 ∧ sm_PT (S' 67) (S' 1107 0) (S' 1007 0))
theorem la_call_0 {x0 x1 : Int} (h0 : x0 + 2 ≤ x1) : 0 ≤ x1 - (x0 + 1) := by omega
theorem la_call_1 {x0 x1 : Int} (h0 : 0 ≤ x0) : x1 - (x0 + 1) < x1 := by omega
theorem la_call_2 {x0 x1 : Int} (h0 : x0 + 2 ≤ x1) : 0 ≤ x1 - (x0 + 2) := by omega
theorem la_call_3 {x0 x1 : Int} (h0 : 0 ≤ x0) : x1 - (x0 + 2) < x1 := by omega
theorem la_call_4 {x0 x1 x2 : Int} (h0 : 0 ≤ x0) (h1 : 1 ≤ x1) (h2 : x1 ≤ 24) (h3 : x2 ≤ 396) (h4 : x0 + 2 ≤ x2) : 1 ≤ x1 ∧ x1 ≤ 24 ∧ 0 ≤ x2 ∧ x2 ≤ 400 := by omega
theorem la_call_5 {x0 x1 x2 x3 : Int} (h0 : 0 ≤ x0) (h1 : 1 ≤ x1) (h2 : x1 ≤ 24) (h3 : x2 ≤ 396) (h4 : x0 + 2 ≤ x2) (h5 : 400 * (x1 - 1) + x2 - x0 - 2 = x3) : sv_R (x3 + 2) := by omega
theorem la_call_6 {x0 x1 x2 x3 : Int} (h0 : 0 ≤ x0) (h1 : 1 ≤ x1) (h2 : x1 ≤ 24) (h3 : x2 ≤ 396) (h4 : x0 + 2 ≤ x2) (h5 : 400 * (x1 - 1) + x2 - x0 - 2 = x3) : 0 ≤ x3 + 1 ∧ x3 + 1 < 9600 := by omega
theorem la_call_7 {x0 x1 x2 x3 : Int} (h0 : 0 ≤ x0) (h1 : 1 ≤ x1) (h2 : x1 ≤ 24) (h3 : x2 ≤ 396) (h4 : x0 + 2 ≤ x2) (h5 : 400 * (x1 - 1) + x2 - x0 - 2 = x3) : 0 ≤ x3 ∧ x3 < 9600 := by omega
theorem la_call_8 {x0 : Int} (h0 : 0 ≤ x0) (h1 : x0 ≤ 8) : sv_R (x0 + 2) := by omega
theorem la_call_9 {x0 : Int} : x0 ≤ x0 + 2 - 1 := by omega
theorem la_call_10 {x0 x1 x2 x3 : Int} (h0 : 400 * (x0 - 1) + x1 - x2 - 2 = x3) : x3 + 2 + x2 = 400 * (x0 - 1) + x1 := by omega
theorem la_call_11 {x0 x1 x2 x3 : Int} (h0 : 400 * (x0 - 1) + x1 - x2 - 2 = x3) : x3 + 1 = 400 * (x0 - 1) + (x1 - (x2 + 1)) := by omega
theorem la_call_12 {x0 x1 x2 x3 : Int} (h0 : 400 * (x0 - 1) + x1 - x2 - 2 = x3) : x3 = 400 * (x0 - 1) + (x1 - (x2 + 2)) := by omega
theorem la_call_13 : ((-1) : Int) = (-1) := by omega
theorem la_call_14 {x0 x1 x2 : Int} (h0 : 0 ≤ x0) (h1 : 0 ≤ x1) (h2 : 0 ≤ x2) : 0 ≤ 2 * (4 * x0 + x1 + x2) := by omega
theorem la_call_15 {x0 x1 x2 : Int} (h0 : 0 ≤ x0) (h1 : 0 ≤ x1) (h2 : 0 ≤ x2) : 0 ≤ 2 * (4 * x0 + x1 + x2) + 20 := by omega
theorem la_call_16 {x0 x1 x2 : Int} (h0 : x0 ≤ 8) (h1 : x1 ≤ 1) (h2 : x2 ≤ 1) : 2 * (4 * x0 + x1 + x2) + 20 + 1 ≤ 100 := by omega
theorem la_call_17 {x0 : Int} (h0 : x0 = 0) : ¬ x0 = 1 := by omega
set_option maxHeartbeats 8000000 in
theorem f_call : ∀ (p1 : Int) (S : sv_S), sm_ok S → sv_R p1 → (0 ≤ p1 ∧ p1 ≤ 8 ∧ (S 1075 0) = 0 ∧ (S 1073 0) = 1 ∧ sm_LX (S 58) (S 63) (S 64) (S 1092 0) (S 1076 0) ∧ sm_PL (S 1100020) (S 51) (S 52) (S 46) (S 47) (S 1076 0) (S 1086 0) ∧ sm_FR (S 1100020) (S 52) (S 1100021) (S 1100022) (3000 - (S 1084 0)) (S 1085 0) ∧ sm_PV (S 1100020) (S 48) (S 49) (S 50) (S 44) (S 1076 0) (S 1007 0) ∧ sm_AL (S 1100020) (S 48) (S 49) (S 50) (S 44) (S 1076 0) (S 1100032 0) ∧ sm_SV (S 1100020) (S 48) (S 1100029) (S 32) (S 33) (S 1076 0) (S 1032 0) ∧ 0 ≤ (S 1076 0) ∧ (S 1076 0) ≤ 300 ∧ 0 ≤ (S 1084 0) ∧ (S 1084 0) ≤ 3000 ∧ 0 ≤ (S 1086 0) ∧ sm_SC (S 1100029) (S 44) (S 45) (S 43) (S 21) (S 1076 0) (S 1032 0) ∧ sm_PO (S 42) (S 1076 0) ∧ (S 1100032 0) = -1 ∧ sm_FO (S 44) (S 45) (S 1076 0) ∧ 23 ≤ (S 1076 0) ∧ 31 ≤ (S 1007 0) ∧ (S 1007 0) ≤ 400 ∧ sm_LN (S 4) 400 (S 1007 0) ∧ sm_CT (S 26) (S 27) (S 28) (S 29) (S 1100007) (S 1100023) (S 1100024) (S 1100025) (S 21) (S 1046 0) (S 1032 0) (S 1008 0) (S 1055 0) ∧ sm_LS (S 26) (S 1100007) (S 1100025) (S 1046 0) ∧ sm_CL (S 1100007) (S 1100023) (S 1100025) (S 1046 0) ∧ 1 ≤ (S 1032 0) ∧ (S 1032 0) ≤ 11 ∧ 0 ≤ (S 1046 0) ∧ (S 1046 0) ≤ 600 ∧ 31 ≤ (S 1008 0) ∧ (S 1008 0) ≤ (S 1007 0) ∧ 0 ≤ (S 1055 0) ∧ (S 1055 0) ≤ 19 ∧ 1 ≤ (S 1092 0) ∧ (S 1092 0) ≤ 24 ∧ 0 ≤ (S 1100033 0) ∧ (S 1100033 0) < (S 1046 0) ∧ (S 29 (S 1100033 0)) = (S 53 ((S 1092 0) - 1)) ∧ 0 ≤ (S 53 ((S 1092 0) - 1)) ∧ (S 53 ((S 1092 0) - 1)) < (S 1032 0) ∧ (S 60 ((S 1092 0) - 1)) = sm_dp (S 1100024) (S 1100023 (S 1100033 0)) ∧ sm_TC (S 61) (S 62) (S 27) (S 1100007) (S 1100023) (S 1100024) (40 * ((S 1092 0) - 1)) (S 1100023 (S 1100033 0)) ∧ sm_LK (S 1100029) (S 1076 0) (S 54 ((S 1092 0) - 1)) (S 53 ((S 1092 0) - 1)) ∧ sm_VO (S 44) (S 1076 0) (S 1007 0) ((S 55 ((S 1092 0) - 1))) ((S 56 ((S 1092 0) - 1))) ∧ sm_FW (S 44) (S 1076 0) (S 59 ((S 1092 0) - 1)) ∧ sm_FL (S 53) (S 54) (S 55) (S 56) (S 57) (S 58) (S 59) (S 60) (S 61) (S 62) (S 63) (S 64) (S 27) (S 29) (S 1100007) (S 1100023) (S 1100024) (S 1100025) (S 26) (S 1100029) (S 44) (S 1046 0) (S 1032 0) (S 1076 0) (S 1007 0) (((S 1092 0) - 1)) ∧ (S 57 ((S 1092 0) - 1)) = (S 1100033 0) ∧ 0 ≤ (S 58 ((S 1092 0) - 1)) ∧ (S 58 ((S 1092 0) - 1)) ≤ 400 ∧ sm_SK (S 63) (S 64) (S 44) (S 1100007) (S 1100025) (S 1076 0) (S 1007 0) (400 * ((S 1092 0) - 1)) ((S 58 ((S 1092 0) - 1))) ((S 1100034 0)) ∧ -1 ≤ (S 1100034 0) ∧ (S 1100034 0) < (S 1046 0) ∧ (0 ≤ (S 1100034 0) → (S 26 (S 1100034 0)) = 29) ∧ (S 58 ((S 1092 0) - 1)) = (S 1100007 (S 1100033 0)) ∧ (S 1100034 0) = (S 1100025 (S 1100033 0)) ∧ (0 ≤ (S 1100023 (S 1100033 0)) → (S 1100007 (S 1100023 (S 1100033 0))) ≤ (S 58 ((S 1092 0) - 1))) ∧ (S 58 ((S 1092 0) - 1)) ≤ 396 ∧ 1 ≤ (p1 + 2) ∧ (p1 + 2) ≤ (S 58 ((S 1092 0) - 1)) ∧ (0 ≤ (S 1100034 0) → (S 1100007 (S 1100034 0)) ≤ (S 58 ((S 1092 0) - 1)) - (p1 + 2)) ∧ (S 1100033 0) + 1 < (S 1046 0) ∧ (S 29 ((S 1100033 0) + 1)) = (S 29 (S 1100033 0)) ∧ (S 1100007 ((S 1100033 0) + 1)) = (S 58 ((S 1092 0) - 1)) + 1 - (p1 + 2) ∧ (S 1100023 ((S 1100033 0) + 1)) = (S 1100023 (S 1100033 0)) ∧ (S 1100025 ((S 1100033 0) + 1)) = (S 1100034 0) ∧ (0 ≤ (S 1100023 (S 1100033 0)) → (S 1100007 (S 1100023 (S 1100033 0))) ≤ (S 58 ((S 1092 0) - 1)) - (p1 + 2)) ∧ (∀ g : Int, 0 ≤ g → g < (S 1032 0) → 0 ≤ (S 30 g) ∧ (S 30 g) < (S 1046 0) ∧ (S 1100007 (S 30 g)) = 0 ∧ (S 1100023 (S 30 g)) = -1 ∧ 0 ≤ (S 33 g) ∧ (S 33 g) ≤ 100 ∧ 0 ≤ (S 20 g) ∧ (S 20 g) ≤ 8) ∧ sm_VN (S 32) (S 33) (S 1032 0) (S 1008 0) ∧ (∀ f : Int, 0 ≤ f → f < (S 1032 0) → 0 ≤ (S 30 f) ∧ (S 30 f) < (S 1046 0) ∧ (S 29 (S 30 f)) = f ∧ (S 1100007 (S 30 f)) = 0 ∧ (S 1100023 (S 30 f)) = -1 ∧ (S 1100025 (S 30 f)) = -1) ∧ (S 1086 0) ≤ 1900000000 ∧ 0 ≤ (S 1107 0) ∧ (S 1107 0) ≤ 100 ∧ sm_PT (S 67) (S 1107 0) (S 1007 0)) → ((sm_SK (S 63) (S 64) (S 44) (S 1100007) (S 1100025) (S 1076 0) (S 1007 0) (400 * ((S 1092 0) - 1)) ((S 58 ((S 1092 0) - 1))) ((S 1100034 0)) → sm_LS (S 26) (S 1100007) (S 1100025) (S 1046 0) → 0 ≤ (S 58 ((S 1092 0) - 1)) - (p1 + 1) → (S 58 ((S 1092 0) - 1)) - (p1 + 1) < (S 58 ((S 1092 0) - 1)) → (S 1100034 0) < (S 1046 0) → (0 ≤ (S 1100034 0) → (S 26 (S 1100034 0)) = 29) → (0 ≤ (S 1100034 0) → (S 1100007 (S 1100034 0)) ≤ (S 58 ((S 1092 0) - 1)) - (p1 + 2)) → sm_VO (S 44) (S 1076 0) (S 1007 0) ((S 63 (400 * ((S 1092 0) - 1) + ((S 58 ((S 1092 0) - 1)) - (p1 + 1))))) ((S 64 (400 * ((S 1092 0) - 1) + ((S 58 ((S 1092 0) - 1)) - (p1 + 1)))))) → ((sm_SK (S 63) (S 64) (S 44) (S 1100007) (S 1100025) (S 1076 0) (S 1007 0) (400 * ((S 1092 0) - 1)) ((S 58 ((S 1092 0) - 1))) ((S 1100034 0)) → sm_LS (S 26) (S 1100007) (S 1100025) (S 1046 0) → 0 ≤ (S 58 ((S 1092 0) - 1)) - (p1 + 2) → (S 58 ((S 1092 0) - 1)) - (p1 + 2) < (S 58 ((S 1092 0) - 1)) → (S 1100034 0) < (S 1046 0) → (0 ≤ (S 1100034 0) → (S 26 (S 1100034 0)) = 29) → (0 ≤ (S 1100034 0) → (S 1100007 (S 1100034 0)) ≤ (S 58 ((S 1092 0) - 1)) - (p1 + 2)) → sm_VO (S 44) (S 1076 0) (S 1007 0) ((S 63 (400 * ((S 1092 0) - 1) + ((S 58 ((S 1092 0) - 1)) - (p1 + 2))))) ((S 64 (400 * ((S 1092 0) - 1) + ((S 58 ((S 1092 0) - 1)) - (p1 + 2)))))) → (1 ≤ (S 1092 0) ∧ (S 1092 0) ≤ 24 ∧ 0 ≤ (S 58 ((S 1092 0) - 1)) ∧ (S 58 ((S 1092 0) - 1)) ≤ 400) ∧ (∀ x4 : Int, ((((400 * ((S 1092 0) - 1) + (S 58 ((S 1092 0) - 1)))) - p1) - (2 : Int)) = x4 → (sv_R (x4 + (2 : Int))) ∧ (0 ≤ (x4 + (1 : Int)) ∧ (x4 + (1 : Int)) < 9600) ∧ (sv_R (S 63 (x4 + (1 : Int))) → (sv_R (S 64 (x4 + (1 : Int))) → (0 ≤ x4 ∧ x4 < 9600) ∧ (sv_R (S 63 x4) → (sv_R (S 64 x4) → (sv_R (p1 + (2 : Int))) ∧ ((S 1075 0) = 0 ∧ (S 1073 0) = 1 ∧ sm_LX (S 58) (S 63) (S 64) (S 1092 0) (S 1076 0) ∧ sm_PL (S 1100020) (S 51) (S 52) (S 46) (S 47) (S 1076 0) (S 1086 0) ∧ sm_FR (S 1100020) (S 52) (S 1100021) (S 1100022) (3000 - (S 1084 0)) (S 1085 0) ∧ sm_PV (S 1100020) (S 48) (S 49) (S 50) (S 44) (S 1076 0) (S 1007 0) ∧ sm_AL (S 1100020) (S 48) (S 49) (S 50) (S 44) (S 1076 0) (S 1100032 0) ∧ sm_SV (S 1100020) (S 48) (S 1100029) (S 32) (S 33) (S 1076 0) (S 1032 0) ∧ 0 ≤ (S 1076 0) ∧ (S 1076 0) ≤ 300 ∧ 0 ≤ (S 1084 0) ∧ (S 1084 0) ≤ 3000 ∧ 0 ≤ (S 1086 0) ∧ sm_SC (S 1100029) (S 44) (S 45) (S 43) (S 21) (S 1076 0) (S 1032 0) ∧ sm_PO (S 42) (S 1076 0) ∧ (S 1100032 0) = -1 ∧ sm_FO (S 44) (S 45) (S 1076 0) ∧ 23 ≤ (S 1076 0) ∧ 31 ≤ (S 1007 0) ∧ (S 1007 0) ≤ 400 ∧ sm_LN (S 4) 400 (S 1007 0) ∧ sm_CT (S 26) (S 27) (S 28) (S 29) (S 1100007) (S 1100023) (S 1100024) (S 1100025) (S 21) (S 1046 0) (S 1032 0) (S 1008 0) (S 1055 0) ∧ sm_LS (S 26) (S 1100007) (S 1100025) (S 1046 0) ∧ sm_CL (S 1100007) (S 1100023) (S 1100025) (S 1046 0) ∧ 1 ≤ (S 1032 0) ∧ (S 1032 0) ≤ 11 ∧ 0 ≤ (S 1046 0) ∧ (S 1046 0) ≤ 600 ∧ 31 ≤ (S 1008 0) ∧ (S 1008 0) ≤ (S 1007 0) ∧ 0 ≤ (S 1055 0) ∧ (S 1055 0) ≤ 19 ∧ 1 ≤ (S 1092 0) ∧ (S 1092 0) ≤ 24 ∧ 0 ≤ (S 1100033 0) ∧ (S 1100033 0) < (S 1046 0) ∧ (S 29 (S 1100033 0)) = (S 53 ((S 1092 0) - 1)) ∧ 0 ≤ (S 53 ((S 1092 0) - 1)) ∧ (S 53 ((S 1092 0) - 1)) < (S 1032 0) ∧ (S 60 ((S 1092 0) - 1)) = sm_dp (S 1100024) (S 1100023 (S 1100033 0)) ∧ sm_TC (S 61) (S 62) (S 27) (S 1100007) (S 1100023) (S 1100024) (40 * ((S 1092 0) - 1)) (S 1100023 (S 1100033 0)) ∧ sm_LK (S 1100029) (S 1076 0) (S 54 ((S 1092 0) - 1)) (S 53 ((S 1092 0) - 1)) ∧ sm_VO (S 44) (S 1076 0) (S 1007 0) ((S 55 ((S 1092 0) - 1))) ((S 56 ((S 1092 0) - 1))) ∧ sm_FW (S 44) (S 1076 0) (S 59 ((S 1092 0) - 1)) ∧ sm_FL (S 53) (S 54) (S 55) (S 56) (S 57) (S 58) (S 59) (S 60) (S 61) (S 62) (S 63) (S 64) (S 27) (S 29) (S 1100007) (S 1100023) (S 1100024) (S 1100025) (S 26) (S 1100029) (S 44) (S 1046 0) (S 1032 0) (S 1076 0) (S 1007 0) (((S 1092 0) - 1)) ∧ (S 57 ((S 1092 0) - 1)) = (S 1100033 0) ∧ 0 ≤ (S 58 ((S 1092 0) - 1)) ∧ (S 58 ((S 1092 0) - 1)) ≤ 400 ∧ sm_SK (S 63) (S 64) (S 44) (S 1100007) (S 1100025) (S 1076 0) (S 1007 0) (400 * ((S 1092 0) - 1)) ((S 58 ((S 1092 0) - 1))) ((S 1100034 0)) ∧ -1 ≤ (S 1100034 0) ∧ (S 1100034 0) < (S 1046 0) ∧ (0 ≤ (S 1100034 0) → (S 26 (S 1100034 0)) = 29) ∧ (S 58 ((S 1092 0) - 1)) = (S 1100007 (S 1100033 0)) ∧ (S 1100034 0) = (S 1100025 (S 1100033 0)) ∧ (0 ≤ (S 1100023 (S 1100033 0)) → (S 1100007 (S 1100023 (S 1100033 0))) ≤ (S 58 ((S 1092 0) - 1))) ∧ (S 58 ((S 1092 0) - 1)) ≤ 396 ∧ 1 ≤ (p1 + (2 : Int)) ∧ (p1 + (2 : Int)) ≤ (S 58 ((S 1092 0) - 1)) ∧ (0 ≤ (S 1100034 0) → (S 1100007 (S 1100034 0)) ≤ (S 58 ((S 1092 0) - 1)) - (p1 + (2 : Int))) ∧ (S 1100033 0) + 1 < (S 1046 0) ∧ (S 29 ((S 1100033 0) + 1)) = (S 29 (S 1100033 0)) ∧ (S 1100007 ((S 1100033 0) + 1)) = (S 58 ((S 1092 0) - 1)) + 1 - (p1 + (2 : Int)) ∧ (S 1100023 ((S 1100033 0) + 1)) = (S 1100023 (S 1100033 0)) ∧ (S 1100025 ((S 1100033 0) + 1)) = (S 1100034 0) ∧ (0 ≤ (S 1100023 (S 1100033 0)) → (S 1100007 (S 1100023 (S 1100033 0))) ≤ (S 58 ((S 1092 0) - 1)) - (p1 + (2 : Int))) ∧ 0 ≤ p1 ∧ p1 ≤ (p1 + (2 : Int)) - 1 ∧ (x4 + (2 : Int)) + p1 = (400 * ((S 1092 0) - 1) + (S 58 ((S 1092 0) - 1))) ∧ (∀ g : Int, 0 ≤ g → g < (S 1032 0) → 0 ≤ (S 30 g) ∧ (S 30 g) < (S 1046 0) ∧ (S 1100007 (S 30 g)) = 0 ∧ (S 1100023 (S 30 g)) = -1 ∧ 0 ≤ (S 33 g) ∧ (S 33 g) ≤ 100 ∧ 0 ≤ (S 20 g) ∧ (S 20 g) ≤ 8) ∧ sm_VN (S 32) (S 33) (S 1032 0) (S 1008 0) ∧ (∀ f : Int, 0 ≤ f → f < (S 1032 0) → 0 ≤ (S 30 f) ∧ (S 30 f) < (S 1046 0) ∧ (S 29 (S 30 f)) = f ∧ (S 1100007 (S 30 f)) = 0 ∧ (S 1100023 (S 30 f)) = -1 ∧ (S 1100025 (S 30 f)) = -1) ∧ (S 1086 0) ≤ 1900000000 ∧ 0 ≤ (S 1107 0) ∧ (S 1107 0) ≤ 100 ∧ sm_PT (S 67) (S 1107 0) (S 1007 0) ∧ sm_VO (S 44) (S 1076 0) (S 1007 0) ((S 63 (x4 + (1 : Int)))) ((S 64 (x4 + (1 : Int)))) ∧ sm_VO (S 44) (S 1076 0) (S 1007 0) ((S 63 x4)) ((S 64 x4)) ∧ sm_FW (S 44) (S 1076 0) (-1 : Int)) ∧ (0 ≤ (2 * (4 * p1 + (if (S 63 (x4 + (1 : Int))) = 7 then 1 else 0) + (if (S 63 x4) = 7 then 1 else 0)))) ∧ (0 ≤ (2 * (4 * p1 + (if (S 63 (x4 + (1 : Int))) = 7 then 1 else 0) + (if (S 63 x4) = 7 then 1 else 0)) + 20) ∧ (2 * (4 * p1 + (if (S 63 (x4 + (1 : Int))) = 7 then 1 else 0) + (if (S 63 x4) = 7 then 1 else 0)) + 20) + 1 ≤ (100 : Int)) ∧ (∀ g21 : sv_S, (sm_PL (g21 1100020) (g21 51) (g21 52) (g21 46) (g21 47) (g21 1076 0) (g21 1086 0) ∧ sm_FR (g21 1100020) (g21 52) (g21 1100021) (g21 1100022) (3000 - (g21 1084 0)) (g21 1085 0) ∧ sm_PV (g21 1100020) (g21 48) (g21 49) (g21 50) (g21 44) (g21 1076 0) (g21 1007 0) ∧ sm_AL (g21 1100020) (g21 48) (g21 49) (g21 50) (g21 44) (g21 1076 0) (g21 1100032 0) ∧ sm_SV (g21 1100020) (g21 48) (g21 1100029) (S 32) (S 33) (g21 1076 0) (S 1032 0) ∧ 0 ≤ (g21 1076 0) ∧ (g21 1076 0) ≤ 300 ∧ 0 ≤ (g21 1084 0) ∧ (g21 1084 0) ≤ 3000 ∧ 0 ≤ (g21 1086 0) ∧ sm_SC (g21 1100029) (g21 44) (g21 45) (g21 43) (S 21) (g21 1076 0) (S 1032 0) ∧ sm_PO (g21 42) (g21 1076 0) ∧ ((g21 1075 0) = 0 → (g21 1100032 0) = -1 ∧ sm_FO (g21 44) (g21 45) (g21 1076 0)) ∧ 23 ≤ (g21 1076 0) ∧ 31 ≤ (g21 1007 0) ∧ (g21 1007 0) ≤ 400 ∧ sm_LN (g21 4) 400 (g21 1007 0) ∧ (S 1008 0) ≤ (g21 1007 0) ∧ ((S 1075 0) = 1 → (g21 1075 0) = 1) ∧ 0 ≤ (g21 1092 0) ∧ (g21 1092 0) ≤ 24 ∧ (S 1007 0) ≤ (g21 1007 0) ∧ (¬ (g21 1075 0) = 0 → sm_LX (g21 58) (g21 63) (g21 64) (g21 1092 0) (g21 1076 0)) ∧ ((g21 1075 0) = 0 → (g21 1073 0) = 1 → 1 ≤ (g21 1092 0) ∧ (g21 1092 0) ≤ 24 ∧ 0 ≤ (g21 57 ((g21 1092 0) - 1)) ∧ (g21 57 ((g21 1092 0) - 1)) < (S 1046 0) ∧ (S 29 (g21 57 ((g21 1092 0) - 1))) = (g21 53 ((g21 1092 0) - 1)) ∧ 0 ≤ (g21 53 ((g21 1092 0) - 1)) ∧ (g21 53 ((g21 1092 0) - 1)) < (S 1032 0) ∧ (g21 60 ((g21 1092 0) - 1)) = sm_dp (S 1100024) (S 1100023 (g21 57 ((g21 1092 0) - 1))) ∧ sm_TC (S 61) (S 62) (S 27) (S 1100007) (S 1100023) (S 1100024) (40 * ((g21 1092 0) - 1)) (S 1100023 (g21 57 ((g21 1092 0) - 1))) ∧ sm_LK (g21 1100029) (g21 1076 0) (g21 54 ((g21 1092 0) - 1)) (g21 53 ((g21 1092 0) - 1)) ∧ sm_VO (g21 44) (g21 1076 0) (g21 1007 0) ((g21 55 ((g21 1092 0) - 1))) ((g21 56 ((g21 1092 0) - 1))) ∧ sm_FW (g21 44) (g21 1076 0) (g21 59 ((g21 1092 0) - 1)) ∧ sm_FL (g21 53) (g21 54) (g21 55) (g21 56) (g21 57) (g21 58) (g21 59) (g21 60) (S 61) (S 62) (g21 63) (g21 64) (S 27) (S 29) (S 1100007) (S 1100023) (S 1100024) (S 1100025) (S 26) (g21 1100029) (g21 44) (S 1046 0) (S 1032 0) (g21 1076 0) (g21 1007 0) (((g21 1092 0) - 1)) ∧ (g21 58 ((g21 1092 0) - 1)) = (S 1100007 (g21 57 ((g21 1092 0) - 1))) ∧ sm_SK (g21 63) (g21 64) (g21 44) (S 1100007) (S 1100025) (g21 1076 0) (g21 1007 0) (400 * ((g21 1092 0) - 1)) ((g21 58 ((g21 1092 0) - 1))) ((S 1100025 (g21 57 ((g21 1092 0) - 1))))) ∧ ((g21 1073 0) = 1 ∨ (g21 1092 0) = 0 ∧ (g21 1075 0) = 0 ∧ ((g21 1073 0) = 2 ∨ (g21 1073 0) = 3)) ∧ (S 1086 0) ≤ (g21 1086 0) ∧ (g21 1086 0) ≤ (S 1086 0) + 110 ∧ 0 ≤ (g21 1107 0) ∧ (g21 1107 0) ≤ 100 ∧ sm_PT (g21 67) (g21 1107 0) (g21 1007 0)) → (sm_PL (g21 1100020) (g21 51) (g21 52) (g21 46) (g21 47) (g21 1076 0) (g21 1086 0) ∧ sm_FR (g21 1100020) (g21 52) (g21 1100021) (g21 1100022) (3000 - (g21 1084 0)) (g21 1085 0) ∧ sm_PV (g21 1100020) (g21 48) (g21 49) (g21 50) (g21 44) (g21 1076 0) (g21 1007 0) ∧ sm_AL (g21 1100020) (g21 48) (g21 49) (g21 50) (g21 44) (g21 1076 0) (g21 1100032 0) ∧ sm_SV (g21 1100020) (g21 48) (g21 1100029) (S 32) (S 33) (g21 1076 0) (S 1032 0) ∧ 0 ≤ (g21 1076 0) ∧ (g21 1076 0) ≤ 300 ∧ 0 ≤ (g21 1084 0) ∧ (g21 1084 0) ≤ 3000 ∧ 0 ≤ (g21 1086 0) ∧ sm_SC (g21 1100029) (g21 44) (g21 45) (g21 43) (S 21) (g21 1076 0) (S 1032 0) ∧ sm_PO (g21 42) (g21 1076 0) ∧ ((g21 1075 0) = 0 → (g21 1100032 0) = -1 ∧ sm_FO (g21 44) (g21 45) (g21 1076 0)) ∧ 23 ≤ (g21 1076 0) ∧ 31 ≤ (g21 1007 0) ∧ (g21 1007 0) ≤ 400 ∧ sm_LN (g21 4) 400 (g21 1007 0) ∧ (S 1008 0) ≤ (g21 1007 0) ∧ ((S 1075 0) = 1 → (g21 1075 0) = 1) ∧ 0 ≤ (g21 1092 0) ∧ (g21 1092 0) ≤ 24 ∧ (S 1007 0) ≤ (g21 1007 0) ∧ (¬ (g21 1075 0) = 0 → sm_LX (g21 58) (g21 63) (g21 64) (g21 1092 0) (g21 1076 0)) ∧ ((g21 1075 0) = 0 → (g21 1073 0) = 1 → 1 ≤ (g21 1092 0) ∧ (g21 1092 0) ≤ 24 ∧ 0 ≤ (g21 57 ((g21 1092 0) - 1)) ∧ (g21 57 ((g21 1092 0) - 1)) < (S 1046 0) ∧ (S 29 (g21 57 ((g21 1092 0) - 1))) = (g21 53 ((g21 1092 0) - 1)) ∧ 0 ≤ (g21 53 ((g21 1092 0) - 1)) ∧ (g21 53 ((g21 1092 0) - 1)) < (S 1032 0) ∧ (g21 60 ((g21 1092 0) - 1)) = sm_dp (S 1100024) (S 1100023 (g21 57 ((g21 1092 0) - 1))) ∧ sm_TC (S 61) (S 62) (S 27) (S 1100007) (S 1100023) (S 1100024) (40 * ((g21 1092 0) - 1)) (S 1100023 (g21 57 ((g21 1092 0) - 1))) ∧ sm_LK (g21 1100029) (g21 1076 0) (g21 54 ((g21 1092 0) - 1)) (g21 53 ((g21 1092 0) - 1)) ∧ sm_VO (g21 44) (g21 1076 0) (g21 1007 0) ((g21 55 ((g21 1092 0) - 1))) ((g21 56 ((g21 1092 0) - 1))) ∧ sm_FW (g21 44) (g21 1076 0) (g21 59 ((g21 1092 0) - 1)) ∧ sm_FL (g21 53) (g21 54) (g21 55) (g21 56) (g21 57) (g21 58) (g21 59) (g21 60) (S 61) (S 62) (g21 63) (g21 64) (S 27) (S 29) (S 1100007) (S 1100023) (S 1100024) (S 1100025) (S 26) (g21 1100029) (g21 44) (S 1046 0) (S 1032 0) (g21 1076 0) (g21 1007 0) (((g21 1092 0) - 1)) ∧ (g21 58 ((g21 1092 0) - 1)) = (S 1100007 (g21 57 ((g21 1092 0) - 1))) ∧ sm_SK (g21 63) (g21 64) (g21 44) (S 1100007) (S 1100025) (g21 1076 0) (g21 1007 0) (400 * ((g21 1092 0) - 1)) ((g21 58 ((g21 1092 0) - 1))) ((S 1100025 (g21 57 ((g21 1092 0) - 1))))) ∧ ((g21 1073 0) = 1 ∨ (g21 1092 0) = 0 ∧ (g21 1075 0) = 0 ∧ ((g21 1073 0) = 2 ∨ (g21 1073 0) = 3)) ∧ (S 1086 0) ≤ (g21 1086 0) ∧ (g21 1086 0) ≤ (S 1086 0) + 110 ∧ 0 ≤ (g21 1107 0) ∧ (g21 1107 0) ≤ 100 ∧ sm_PT (g21 67) (g21 1107 0) (g21 1007 0)))))))))) := by
  intro p1
  intro S
  intro h1_
  intro h2_
  rintro ⟨h3_, ⟨h4_, ⟨h5_, ⟨h6_, ⟨h7_, ⟨h8_, ⟨h9_, ⟨h10_, ⟨h11_, ⟨h12_, ⟨h13_, ⟨h14_, ⟨h15_, ⟨h16_, ⟨h17_, ⟨h18_, ⟨h19_, ⟨h20_, ⟨h21_, ⟨h22_, ⟨h23_, ⟨h24_, ⟨h25_, ⟨h26_, ⟨h27_, ⟨h28_, ⟨h29_, ⟨h30_, ⟨h31_, ⟨h32_, ⟨h33_, ⟨h34_, ⟨h35_, ⟨h36_, ⟨h37_, ⟨h38_, ⟨h39_, ⟨h40_, ⟨h41_, ⟨h42_, ⟨h43_, ⟨h44_, ⟨h45_, ⟨h46_, ⟨h47_, ⟨h48_, ⟨h49_, ⟨h50_, ⟨h51_, ⟨h52_, ⟨h53_, ⟨h54_, ⟨h55_, ⟨h56_, ⟨h57_, ⟨h58_, ⟨h59_, ⟨h60_, ⟨h61_, ⟨h62_, ⟨h63_, ⟨h64_, ⟨h65_, ⟨h66_, ⟨h67_, ⟨h68_, ⟨h69_, ⟨h70_, ⟨h71_, ⟨h72_, ⟨h73_, ⟨h74_, ⟨h75_, h76_⟩⟩⟩⟩⟩⟩⟩⟩⟩⟩⟩⟩⟩⟩⟩⟩⟩⟩⟩⟩⟩⟩⟩⟩⟩⟩⟩⟩⟩⟩⟩⟩⟩⟩⟩⟩⟩⟩⟩⟩⟩⟩⟩⟩⟩⟩⟩⟩⟩⟩⟩⟩⟩⟩⟩⟩⟩⟩⟩⟩⟩⟩⟩⟩⟩⟩⟩⟩⟩⟩⟩⟩⟩
  intro h77_
  have h78_ := (h77_ h53_)
  have h79_ := (h78_ h27_)
  have h80_ := (h79_ (la_call_0 h62_))
  have h81_ := (h80_ (la_call_1 h3_))
  have h82_ := (h81_ h55_)
  have h83_ := (h82_ h56_)
  have h84_ := (h83_ h63_)
  intro h85_
  have h86_ := (h85_ h53_)
  have h87_ := (h86_ h27_)
  have h88_ := (h87_ (la_call_2 h62_))
  have h89_ := (h88_ (la_call_3 h3_))
  have h90_ := (h89_ h55_)
  have h91_ := (h90_ h56_)
  have h92_ := (h91_ h63_)
  refine ⟨(la_call_4 h3_ h37_ h38_ h60_ h62_), ?_⟩
  intro x4
  intro h93_
  refine ⟨(la_call_5 h3_ h37_ h38_ h60_ h62_ h93_), ?_⟩
  refine ⟨(la_call_6 h3_ h37_ h38_ h60_ h62_ h93_), ?_⟩
  intro h94_
  intro h95_
  refine ⟨(la_call_7 h3_ h37_ h38_ h60_ h62_ h93_), ?_⟩
  intro h96_
  intro h97_
  refine ⟨(la_call_8 h3_ h4_), ?_⟩
  refine ⟨?_, ?_⟩
  · skip
    refine ⟨h5_, ?_⟩
    refine ⟨h6_, ?_⟩
    refine ⟨h7_, ?_⟩
    refine ⟨h8_, ?_⟩
    refine ⟨h9_, ?_⟩
    refine ⟨h10_, ?_⟩
    refine ⟨h11_, ?_⟩
    refine ⟨h12_, ?_⟩
    refine ⟨h13_, ?_⟩
    refine ⟨h14_, ?_⟩
    refine ⟨h15_, ?_⟩
    refine ⟨h16_, ?_⟩
    refine ⟨h17_, ?_⟩
    refine ⟨h18_, ?_⟩
    refine ⟨h19_, ?_⟩
    refine ⟨h20_, ?_⟩
    refine ⟨h21_, ?_⟩
    refine ⟨h22_, ?_⟩
    refine ⟨h23_, ?_⟩
    refine ⟨h24_, ?_⟩
    refine ⟨h25_, ?_⟩
    refine ⟨h26_, ?_⟩
    refine ⟨h27_, ?_⟩
    refine ⟨h28_, ?_⟩
    refine ⟨h29_, ?_⟩
    refine ⟨h30_, ?_⟩
    refine ⟨h31_, ?_⟩
    refine ⟨h32_, ?_⟩
    refine ⟨h33_, ?_⟩
    refine ⟨h34_, ?_⟩
    refine ⟨h35_, ?_⟩
    refine ⟨h36_, ?_⟩
    refine ⟨h37_, ?_⟩
    refine ⟨h38_, ?_⟩
    refine ⟨h39_, ?_⟩
    refine ⟨h40_, ?_⟩
    refine ⟨h41_, ?_⟩
    refine ⟨h42_, ?_⟩
    refine ⟨h43_, ?_⟩
    refine ⟨h44_, ?_⟩
    refine ⟨h45_, ?_⟩
    refine ⟨h46_, ?_⟩
    refine ⟨h47_, ?_⟩
    refine ⟨h48_, ?_⟩
    refine ⟨h49_, ?_⟩
    refine ⟨h50_, ?_⟩
    refine ⟨h51_, ?_⟩
    refine ⟨h52_, ?_⟩
    refine ⟨h53_, ?_⟩
    refine ⟨h54_, ?_⟩
    refine ⟨h55_, ?_⟩
    refine ⟨h56_, ?_⟩
    refine ⟨h57_, ?_⟩
    refine ⟨h58_, ?_⟩
    refine ⟨h59_, ?_⟩
    refine ⟨h60_, ?_⟩
    refine ⟨h61_, ?_⟩
    refine ⟨h62_, ?_⟩
    refine ⟨h63_, ?_⟩
    refine ⟨h64_, ?_⟩
    refine ⟨h65_, ?_⟩
    refine ⟨h66_, ?_⟩
    refine ⟨h67_, ?_⟩
    refine ⟨h68_, ?_⟩
    refine ⟨h69_, ?_⟩
    refine ⟨h3_, ?_⟩
    refine ⟨la_call_9, ?_⟩
    refine ⟨(la_call_10 h93_), ?_⟩
    refine ⟨h70_, ?_⟩
    refine ⟨h71_, ?_⟩
    refine ⟨h72_, ?_⟩
    refine ⟨h73_, ?_⟩
    refine ⟨h74_, ?_⟩
    refine ⟨h75_, ?_⟩
    refine ⟨h76_, ?_⟩
    refine ⟨?_, ?_⟩
    · skip
      have e98_ : S 63 (x4 + 1) = S 63 (400 * (S 1092 0 - 1) + (S 58 (S 1092 0 - 1) - (p1 + 1))) := congrArg ((S 63)) (la_call_11 h93_)
      have e99_ : S 63 x4 = S 63 (400 * (S 1092 0 - 1) + (S 58 (S 1092 0 - 1) - (p1 + 2))) := congrArg ((S 63)) (la_call_12 h93_)
      have e100_ : S 64 (x4 + 1) = S 64 (400 * (S 1092 0 - 1) + (S 58 (S 1092 0 - 1) - (p1 + 1))) := congrArg ((S 64)) (la_call_11 h93_)
      have e101_ : S 64 x4 = S 64 (400 * (S 1092 0 - 1) + (S 58 (S 1092 0 - 1) - (p1 + 2))) := congrArg ((S 64)) (la_call_12 h93_)
      exact (sm_VO_eq h84_ e98_ e100_)
    refine ⟨?_, ?_⟩
    · skip
      have e102_ : S 63 (x4 + 1) = S 63 (400 * (S 1092 0 - 1) + (S 58 (S 1092 0 - 1) - (p1 + 1))) := congrArg ((S 63)) (la_call_11 h93_)
      have e103_ : S 63 x4 = S 63 (400 * (S 1092 0 - 1) + (S 58 (S 1092 0 - 1) - (p1 + 2))) := congrArg ((S 63)) (la_call_12 h93_)
      have e104_ : S 64 (x4 + 1) = S 64 (400 * (S 1092 0 - 1) + (S 58 (S 1092 0 - 1) - (p1 + 1))) := congrArg ((S 64)) (la_call_11 h93_)
      have e105_ : S 64 x4 = S 64 (400 * (S 1092 0 - 1) + (S 58 (S 1092 0 - 1) - (p1 + 2))) := congrArg ((S 64)) (la_call_12 h93_)
      exact (sm_VO_eq h92_ e103_ e105_)
    exact (Or.inl la_call_13)
  refine ⟨?_, ?_⟩
  · skip
    have e106_ : S 63 (x4 + 1) = S 63 (400 * (S 1092 0 - 1) + (S 58 (S 1092 0 - 1) - (p1 + 1))) := congrArg ((S 63)) (la_call_11 h93_)
    have e107_ : S 63 x4 = S 63 (400 * (S 1092 0 - 1) + (S 58 (S 1092 0 - 1) - (p1 + 2))) := congrArg ((S 63)) (la_call_12 h93_)
    have e108_ : S 64 (x4 + 1) = S 64 (400 * (S 1092 0 - 1) + (S 58 (S 1092 0 - 1) - (p1 + 1))) := congrArg ((S 64)) (la_call_11 h93_)
    have e109_ : S 64 x4 = S 64 (400 * (S 1092 0 - 1) + (S 58 (S 1092 0 - 1) - (p1 + 2))) := congrArg ((S 64)) (la_call_12 h93_)
    exact (la_call_14 h3_ (sv_i01 (p := S 63 (x4 + 1) = 7)).1 (sv_i01 (p := S 63 x4 = 7)).1)
  refine ⟨?_, ?_⟩
  · skip
    refine ⟨?_, ?_⟩
    · skip
      have e110_ : S 63 (x4 + 1) = S 63 (400 * (S 1092 0 - 1) + (S 58 (S 1092 0 - 1) - (p1 + 1))) := congrArg ((S 63)) (la_call_11 h93_)
      have e111_ : S 63 x4 = S 63 (400 * (S 1092 0 - 1) + (S 58 (S 1092 0 - 1) - (p1 + 2))) := congrArg ((S 63)) (la_call_12 h93_)
      have e112_ : S 64 (x4 + 1) = S 64 (400 * (S 1092 0 - 1) + (S 58 (S 1092 0 - 1) - (p1 + 1))) := congrArg ((S 64)) (la_call_11 h93_)
      have e113_ : S 64 x4 = S 64 (400 * (S 1092 0 - 1) + (S 58 (S 1092 0 - 1) - (p1 + 2))) := congrArg ((S 64)) (la_call_12 h93_)
      exact (la_call_15 h3_ (sv_i01 (p := S 63 (x4 + 1) = 7)).1 (sv_i01 (p := S 63 x4 = 7)).1)
    have e114_ : S 63 (x4 + 1) = S 63 (400 * (S 1092 0 - 1) + (S 58 (S 1092 0 - 1) - (p1 + 1))) := congrArg ((S 63)) (la_call_11 h93_)
    have e115_ : S 63 x4 = S 63 (400 * (S 1092 0 - 1) + (S 58 (S 1092 0 - 1) - (p1 + 2))) := congrArg ((S 63)) (la_call_12 h93_)
    have e116_ : S 64 (x4 + 1) = S 64 (400 * (S 1092 0 - 1) + (S 58 (S 1092 0 - 1) - (p1 + 1))) := congrArg ((S 64)) (la_call_11 h93_)
    have e117_ : S 64 x4 = S 64 (400 * (S 1092 0 - 1) + (S 58 (S 1092 0 - 1) - (p1 + 2))) := congrArg ((S 64)) (la_call_12 h93_)
    exact (la_call_16 h4_ (sv_i01 (p := S 63 (x4 + 1) = 7)).2 (sv_i01 (p := S 63 x4 = 7)).2)
  intro g21
  rintro ⟨h118_, ⟨h119_, ⟨h120_, ⟨h121_, ⟨h122_, ⟨h123_, ⟨h124_, ⟨h125_, ⟨h126_, ⟨h127_, ⟨h128_, ⟨h129_, ⟨h130_, ⟨h131_, ⟨h132_, ⟨h133_, ⟨h134_, ⟨h135_, ⟨h136_, ⟨h137_, ⟨h138_, ⟨h139_, ⟨h140_, ⟨h141_, ⟨h142_, ⟨h143_, ⟨h144_, ⟨h145_, ⟨h146_, h147_⟩⟩⟩⟩⟩⟩⟩⟩⟩⟩⟩⟩⟩⟩⟩⟩⟩⟩⟩⟩⟩⟩⟩⟩⟩⟩⟩⟩⟩
  refine ⟨h118_, ?_⟩
  refine ⟨h119_, ?_⟩
  refine ⟨h120_, ?_⟩
  refine ⟨h121_, ?_⟩
  refine ⟨h122_, ?_⟩
  refine ⟨h123_, ?_⟩
  refine ⟨h124_, ?_⟩
  refine ⟨h125_, ?_⟩
  refine ⟨h126_, ?_⟩
  refine ⟨h127_, ?_⟩
  refine ⟨h128_, ?_⟩
  refine ⟨h129_, ?_⟩
  refine ⟨h130_, ?_⟩
  refine ⟨h131_, ?_⟩
  refine ⟨h132_, ?_⟩
  refine ⟨h133_, ?_⟩
  refine ⟨h134_, ?_⟩
  refine ⟨h135_, ?_⟩
  refine ⟨h136_, ?_⟩
  refine ⟨h137_, ?_⟩
  refine ⟨h138_, ?_⟩
  refine ⟨h139_, ?_⟩
  refine ⟨h140_, ?_⟩
  refine ⟨h141_, ?_⟩
  refine ⟨h142_, ?_⟩
  refine ⟨h143_, ?_⟩
  refine ⟨h144_, ?_⟩
  refine ⟨h145_, ?_⟩
  refine ⟨h146_, ?_⟩
  exact h147_
set_option maxRecDepth 8000 in
set_option maxHeartbeats 2000000 in
theorem t_call : ∀ (p1 : Int) (S : sv_S), sm_ok S → sv_R p1 → (0 ≤ p1 ∧ p1 ≤ 8 ∧ (S 1075 0) = 0 ∧ (S 1073 0) = 1 ∧ sm_LX (S 58) (S 63) (S 64) (S 1092 0) (S 1076 0) ∧ sm_PL (S 1100020) (S 51) (S 52) (S 46) (S 47) (S 1076 0) (S 1086 0) ∧ sm_FR (S 1100020) (S 52) (S 1100021) (S 1100022) (3000 - (S 1084 0)) (S 1085 0) ∧ sm_PV (S 1100020) (S 48) (S 49) (S 50) (S 44) (S 1076 0) (S 1007 0) ∧ sm_AL (S 1100020) (S 48) (S 49) (S 50) (S 44) (S 1076 0) (S 1100032 0) ∧ sm_SV (S 1100020) (S 48) (S 1100029) (S 32) (S 33) (S 1076 0) (S 1032 0) ∧ 0 ≤ (S 1076 0) ∧ (S 1076 0) ≤ 300 ∧ 0 ≤ (S 1084 0) ∧ (S 1084 0) ≤ 3000 ∧ 0 ≤ (S 1086 0) ∧ sm_SC (S 1100029) (S 44) (S 45) (S 43) (S 21) (S 1076 0) (S 1032 0) ∧ sm_PO (S 42) (S 1076 0) ∧ (S 1100032 0) = -1 ∧ sm_FO (S 44) (S 45) (S 1076 0) ∧ 23 ≤ (S 1076 0) ∧ 31 ≤ (S 1007 0) ∧ (S 1007 0) ≤ 400 ∧ sm_LN (S 4) 400 (S 1007 0) ∧ sm_CT (S 26) (S 27) (S 28) (S 29) (S 1100007) (S 1100023) (S 1100024) (S 1100025) (S 21) (S 1046 0) (S 1032 0) (S 1008 0) (S 1055 0) ∧ sm_LS (S 26) (S 1100007) (S 1100025) (S 1046 0) ∧ sm_CL (S 1100007) (S 1100023) (S 1100025) (S 1046 0) ∧ 1 ≤ (S 1032 0) ∧ (S 1032 0) ≤ 11 ∧ 0 ≤ (S 1046 0) ∧ (S 1046 0) ≤ 600 ∧ 31 ≤ (S 1008 0) ∧ (S 1008 0) ≤ (S 1007 0) ∧ 0 ≤ (S 1055 0) ∧ (S 1055 0) ≤ 19 ∧ 1 ≤ (S 1092 0) ∧ (S 1092 0) ≤ 24 ∧ 0 ≤ (S 1100033 0) ∧ (S 1100033 0) < (S 1046 0) ∧ (S 29 (S 1100033 0)) = (S 53 ((S 1092 0) - 1)) ∧ 0 ≤ (S 53 ((S 1092 0) - 1)) ∧ (S 53 ((S 1092 0) - 1)) < (S 1032 0) ∧ (S 60 ((S 1092 0) - 1)) = sm_dp (S 1100024) (S 1100023 (S 1100033 0)) ∧ sm_TC (S 61) (S 62) (S 27) (S 1100007) (S 1100023) (S 1100024) (40 * ((S 1092 0) - 1)) (S 1100023 (S 1100033 0)) ∧ sm_LK (S 1100029) (S 1076 0) (S 54 ((S 1092 0) - 1)) (S 53 ((S 1092 0) - 1)) ∧ sm_VO (S 44) (S 1076 0) (S 1007 0) ((S 55 ((S 1092 0) - 1))) ((S 56 ((S 1092 0) - 1))) ∧ sm_FW (S 44) (S 1076 0) (S 59 ((S 1092 0) - 1)) ∧ sm_FL (S 53) (S 54) (S 55) (S 56) (S 57) (S 58) (S 59) (S 60) (S 61) (S 62) (S 63) (S 64) (S 27) (S 29) (S 1100007) (S 1100023) (S 1100024) (S 1100025) (S 26) (S 1100029) (S 44) (S 1046 0) (S 1032 0) (S 1076 0) (S 1007 0) (((S 1092 0) - 1)) ∧ (S 57 ((S 1092 0) - 1)) = (S 1100033 0) ∧ 0 ≤ (S 58 ((S 1092 0) - 1)) ∧ (S 58 ((S 1092 0) - 1)) ≤ 400 ∧ sm_SK (S 63) (S 64) (S 44) (S 1100007) (S 1100025) (S 1076 0) (S 1007 0) (400 * ((S 1092 0) - 1)) ((S 58 ((S 1092 0) - 1))) ((S 1100034 0)) ∧ -1 ≤ (S 1100034 0) ∧ (S 1100034 0) < (S 1046 0) ∧ (0 ≤ (S 1100034 0) → (S 26 (S 1100034 0)) = 29) ∧ (S 58 ((S 1092 0) - 1)) = (S 1100007 (S 1100033 0)) ∧ (S 1100034 0) = (S 1100025 (S 1100033 0)) ∧ (0 ≤ (S 1100023 (S 1100033 0)) → (S 1100007 (S 1100023 (S 1100033 0))) ≤ (S 58 ((S 1092 0) - 1))) ∧ (S 58 ((S 1092 0) - 1)) ≤ 396 ∧ 1 ≤ (p1 + 2) ∧ (p1 + 2) ≤ (S 58 ((S 1092 0) - 1)) ∧ (0 ≤ (S 1100034 0) → (S 1100007 (S 1100034 0)) ≤ (S 58 ((S 1092 0) - 1)) - (p1 + 2)) ∧ (S 1100033 0) + 1 < (S 1046 0) ∧ (S 29 ((S 1100033 0) + 1)) = (S 29 (S 1100033 0)) ∧ (S 1100007 ((S 1100033 0) + 1)) = (S 58 ((S 1092 0) - 1)) + 1 - (p1 + 2) ∧ (S 1100023 ((S 1100033 0) + 1)) = (S 1100023 (S 1100033 0)) ∧ (S 1100025 ((S 1100033 0) + 1)) = (S 1100034 0) ∧ (0 ≤ (S 1100023 (S 1100033 0)) → (S 1100007 (S 1100023 (S 1100033 0))) ≤ (S 58 ((S 1092 0) - 1)) - (p1 + 2)) ∧ (∀ g : Int, 0 ≤ g → g < (S 1032 0) → 0 ≤ (S 30 g) ∧ (S 30 g) < (S 1046 0) ∧ (S 1100007 (S 30 g)) = 0 ∧ (S 1100023 (S 30 g)) = -1 ∧ 0 ≤ (S 33 g) ∧ (S 33 g) ≤ 100 ∧ 0 ≤ (S 20 g) ∧ (S 20 g) ≤ 8) ∧ sm_VN (S 32) (S 33) (S 1032 0) (S 1008 0) ∧ (∀ f : Int, 0 ≤ f → f < (S 1032 0) → 0 ≤ (S 30 f) ∧ (S 30 f) < (S 1046 0) ∧ (S 29 (S 30 f)) = f ∧ (S 1100007 (S 30 f)) = 0 ∧ (S 1100023 (S 30 f)) = -1 ∧ (S 1100025 (S 30 f)) = -1) ∧ (S 1086 0) ≤ 1900000000 ∧ 0 ≤ (S 1107 0) ∧ (S 1107 0) ≤ 100 ∧ sm_PT (S 67) (S 1107 0) (S 1007 0)) → sv_T sm_XS sm_cs sm_L sm_sh 100 (q_call p1 S) 180 0 (lv_args 0 [.ref 0, sv_I p1]) [] S := by
  intro p1 S hok hp1 hpre
  have h := f_call p1 S hok hp1 hpre
  have hM := sm_h180
  show sv_T sm_XS sm_cs sm_L sm_sh 100 (q_call p1 S) 180 0 [(0, .ref 0), (1, sv_I p1)] [] S
  have k1 : (sm_SK (S 63) (S 64) (S 44) (S 1100007) (S 1100025) (S 1076 0) (S 1007 0) (400 * ((S 1092 0) - 1)) ((S 58 ((S 1092 0) - 1))) ((S 1100034 0)) → sm_LS (S 26) (S 1100007) (S 1100025) (S 1046 0) → 0 ≤ (S 58 ((S 1092 0) - 1)) - (p1 + 1) → (S 58 ((S 1092 0) - 1)) - (p1 + 1) < (S 58 ((S 1092 0) - 1)) → (S 1100034 0) < (S 1046 0) → (0 ≤ (S 1100034 0) → (S 26 (S 1100034 0)) = 29) → (0 ≤ (S 1100034 0) → (S 1100007 (S 1100034 0)) ≤ (S 58 ((S 1092 0) - 1)) - (p1 + 2)) → sm_VO (S 44) (S 1076 0) (S 1007 0) ((S 63 (400 * ((S 1092 0) - 1) + ((S 58 ((S 1092 0) - 1)) - (p1 + 1))))) ((S 64 (400 * ((S 1092 0) - 1) + ((S 58 ((S 1092 0) - 1)) - (p1 + 1)))))) := fun h a b e g i j => sm_SK_at h a _ b e g (fun z => ⟨i z, by have := j z; omega⟩)
  have h := h k1
  have k2 : (sm_SK (S 63) (S 64) (S 44) (S 1100007) (S 1100025) (S 1076 0) (S 1007 0) (400 * ((S 1092 0) - 1)) ((S 58 ((S 1092 0) - 1))) ((S 1100034 0)) → sm_LS (S 26) (S 1100007) (S 1100025) (S 1046 0) → 0 ≤ (S 58 ((S 1092 0) - 1)) - (p1 + 2) → (S 58 ((S 1092 0) - 1)) - (p1 + 2) < (S 58 ((S 1092 0) - 1)) → (S 1100034 0) < (S 1046 0) → (0 ≤ (S 1100034 0) → (S 26 (S 1100034 0)) = 29) → (0 ≤ (S 1100034 0) → (S 1100007 (S 1100034 0)) ≤ (S 58 ((S 1092 0) - 1)) - (p1 + 2)) → sm_VO (S 44) (S 1076 0) (S 1007 0) ((S 63 (400 * ((S 1092 0) - 1) + ((S 58 ((S 1092 0) - 1)) - (p1 + 2))))) ((S 64 (400 * ((S 1092 0) - 1) + ((S 58 ((S 1092 0) - 1)) - (p1 + 2)))))) := fun h a b e g i j => sm_SK_at h a _ b e g (fun z => ⟨i z, by have := j z; omega⟩)
  have h := h k2
  refine sv_aload_n hM dX12_call_0 rfl rfl ?_
  obtain ⟨o3, h⟩ := h
  refine sv_callV hM dX12_call_1 sm_iv_879 (by decide) (sm_a0 _) rfl rfl (Nat.le_of_ble_eq_true rfl) sm_h149 (Nat.le_of_ble_eq_true rfl) (Nat.le_of_ble_eq_true rfl) (F' := 0) (Nat.le_of_ble_eq_true rfl) rfl (t_top  S hok o3) (fun v S1 hq => ?_)
  obtain ⟨rfl, hS1⟩ := hq
  obtain rfl : S = S1 := hS1.symm
  show sv_T sm_XS sm_cs sm_L sm_sh 100 (q_call p1 S) 180 4 [(0, .ref 0), (1, sv_I p1)] [sv_I ((400 * ((S 1092 0) - 1) + (S 58 ((S 1092 0) - 1))))] S
  refine sv_iload_n hM dX12_call_4 rfl rfl ?_
  refine sv_isub hM dX12_call_5 rfl ?_
  refine sv_iconst (d := (2 : Int)) hM dX12_call_6 rfl rfl ?_
  refine sv_isub hM dX12_call_7 rfl ?_
  obtain ⟨x4, e5⟩ : ∃ x : Int, ((((400 * ((S 1092 0) - 1) + (S 58 ((S 1092 0) - 1)))) - p1) - (2 : Int)) = x := ⟨_, rfl⟩
  have h := h x4 e5
  refine sv_nameI e5 ?_
  refine sv_istore_n hM dX12_call_8 (by decide) rfl ?_
  show sv_T sm_XS sm_cs sm_L sm_sh 100 (q_call p1 S) 180 9 [(0, .ref 0), (1, sv_I p1), (2, sv_I x4)] [] S
  refine sv_aload_n hM dX12_call_9 rfl rfl ?_
  refine sv_iload_n hM dX12_call_10 rfl rfl ?_
  refine sv_iconst (d := (2 : Int)) hM dX12_call_11 rfl rfl ?_
  refine sv_iadd hM dX12_call_12 rfl ?_
  obtain ⟨o6, h⟩ := h
  refine sv_putI sm_X hM dX12_call_13 sm_fp_998 (sm_a0 _) sm_q114 (Or.inl rfl) rfl rfl rfl rfl ?_
  have ok7 : sm_ok (sv_up S 1114 0 (x4 + (2 : Int))) := sm_upI hok sm_r1114 o6
  have md8 : sv_mod [1076, 41, 42, 43, 44, 45, 46, 47, 1075, 1100029, 1084, 1085, 48, 1086, 51, 52, 49, 50, 1100020, 1100021, 1100022, 58, 63, 64, 57, 1092, 53, 54, 55, 56, 59, 60, 1073, 1109, 1110, 1111, 1112, 5, 1011, 3, 4, 1007, 1113, 1107, 67, 1100032, 1114, 1115] S (sv_up S 1114 0 (x4 + (2 : Int))) := sv_mod.up sv_mod.rf (by decide)
  refine sv_aload_n hM dX12_call_16 rfl rfl ?_
  refine sv_iload_n hM dX12_call_17 rfl rfl ?_
  refine sv_putI sm_X hM dX12_call_18 sm_fp_995 (sm_a0 _) sm_q115 (Or.inl rfl) rfl rfl rfl rfl ?_
  have ok9 : sm_ok (sv_up (sv_up S 1114 0 (x4 + (2 : Int))) 1115 0 p1) := sm_upI ok7 sm_r1115 hp1
  have md10 : sv_mod [1076, 41, 42, 43, 44, 45, 46, 47, 1075, 1100029, 1084, 1085, 48, 1086, 51, 52, 49, 50, 1100020, 1100021, 1100022, 58, 63, 64, 57, 1092, 53, 54, 55, 56, 59, 60, 1073, 1109, 1110, 1111, 1112, 5, 1011, 3, 4, 1007, 1113, 1107, 67, 1100032, 1114, 1115] S (sv_up (sv_up S 1114 0 (x4 + (2 : Int))) 1115 0 p1) := sv_mod.up md8 (by decide)
  refine sv_aload_n hM dX12_call_21 rfl rfl ?_
  refine sv_aload_n hM dX12_call_22 rfl rfl ?_
  refine sv_getA hM dX12_call_23 sm_fl_200 (sm_a0 _) sm_k103 rfl ?_
  refine sv_iload_n hM dX12_call_26 rfl rfl ?_
  refine sv_iconst (d := (1 : Int)) hM dX12_call_27 rfl rfl ?_
  refine sv_iadd hM dX12_call_28 rfl ?_
  obtain ⟨o11, h⟩ := h
  have k12 : sv_R (S 63 (x4 + (1 : Int))) := sm_okI ok9 sm_r63 (x4 + (1 : Int))
  have h := h k12
  refine sv_iald hM dX12_call_29 (sm_a63 _) (by decide) o11.1 o11.2 rfl (x := (S 63 (x4 + (1 : Int)))) rfl ?_
  refine sv_aload_n hM dX12_call_30 rfl rfl ?_
  refine sv_getA hM dX12_call_31 sm_fl_203 (sm_a0 _) sm_k104 rfl ?_
  refine sv_iload_n hM dX12_call_34 rfl rfl ?_
  refine sv_iconst (d := (1 : Int)) hM dX12_call_35 rfl rfl ?_
  refine sv_iadd hM dX12_call_36 rfl ?_
  have k13 : sv_R (S 64 (x4 + (1 : Int))) := sm_okI ok9 sm_r64 (x4 + (1 : Int))
  have h := h k13
  refine sv_iald hM dX12_call_37 (sm_a64 _) (by decide) o11.1 o11.2 rfl (x := (S 64 (x4 + (1 : Int)))) rfl ?_
  refine sv_aload_n hM dX12_call_38 rfl rfl ?_
  refine sv_getA hM dX12_call_39 sm_fl_200 (sm_a0 _) sm_k103 rfl ?_
  refine sv_iload_n hM dX12_call_42 rfl rfl ?_
  obtain ⟨o14, h⟩ := h
  have k15 : sv_R (S 63 x4) := sm_okI ok9 sm_r63 x4
  have h := h k15
  refine sv_iald hM dX12_call_43 (sm_a63 _) (by decide) o14.1 o14.2 rfl (x := (S 63 x4)) rfl ?_
  refine sv_aload_n hM dX12_call_44 rfl rfl ?_
  refine sv_getA hM dX12_call_45 sm_fl_203 (sm_a0 _) sm_k104 rfl ?_
  refine sv_iload_n hM dX12_call_48 rfl rfl ?_
  have k16 : sv_R (S 64 x4) := sm_okI ok9 sm_r64 x4
  have h := h k16
  refine sv_iald hM dX12_call_49 (sm_a64 _) (by decide) o14.1 o14.2 rfl (x := (S 64 x4)) rfl ?_
  refine sv_iload_n hM dX12_call_50 rfl rfl ?_
  refine sv_iconst (d := (2 : Int)) hM dX12_call_51 rfl rfl ?_
  refine sv_iadd hM dX12_call_52 rfl ?_
  refine sv_iconst (d := (-1 : Int)) hM dX12_call_53 rfl rfl ?_
  obtain ⟨o17, h⟩ := h
  obtain ⟨o18, h⟩ := h
  obtain ⟨o19, h⟩ := h
  obtain ⟨o20, h⟩ := h
  refine sv_callV hM dX12_call_54 sm_iv_1001 (by decide) (sm_a0 _) rfl rfl (Nat.le_of_ble_eq_true rfl) sm_h181 (Nat.le_of_ble_eq_true rfl) (Nat.le_of_ble_eq_true rfl) (F' := ((2 * (4 * p1 + (if (S 63 (x4 + (1 : Int))) = 7 then 1 else 0) + (if (S 63 x4) = 7 then 1 else 0)) + 20)).toNat) (sv_Fe o20) rfl (t_callOf (S 63 (x4 + (1 : Int))) (S 64 (x4 + (1 : Int))) (S 63 x4) (S 64 x4) (p1 + (2 : Int)) (-1 : Int) (sv_up (sv_up S 1114 0 (x4 + (2 : Int))) 1115 0 p1) ok9 k12 k13 k15 k16 o17 (⟨by decide, by decide⟩ : sv_R (-1 : Int)) o18 o19) (fun v S1 hq => ?_)
  obtain ⟨rfl, ok22, md23, hpo24⟩ := hq
  obtain ⟨g21, rfl⟩ : ∃ g, S1 = sv_sts (sv_up (sv_up S 1114 0 (x4 + (2 : Int))) 1115 0 p1) [1076, 41, 42, 43, 44, 45, 46, 47, 1075, 1100029, 1084, 1085, 48, 1086, 51, 52, 49, 50, 1100020, 1100021, 1100022, 58, 63, 64, 57, 1092, 53, 54, 55, 56, 59, 60, 1073, 1109, 1110, 1111, 1112, 5, 1011, 3, 4, 1007, 1113, 1107, 67, 1100032, 1114, 1115] g := ⟨_, md23.eq⟩
  show sv_T sm_XS sm_cs sm_L sm_sh 100 (q_call p1 S) 180 57 [(0, .ref 0), (1, sv_I p1), (2, sv_I x4)] [] (sv_sts (sv_up (sv_up S 1114 0 (x4 + (2 : Int))) 1115 0 p1) [1076, 41, 42, 43, 44, 45, 46, 47, 1075, 1100029, 1084, 1085, 48, 1086, 51, 52, 49, 50, 1100020, 1100021, 1100022, 58, 63, 64, 57, 1092, 53, 54, 55, 56, 59, 60, 1073, 1109, 1110, 1111, 1112, 5, 1011, 3, 4, 1007, 1113, 1107, 67, 1100032, 1114, 1115] g21)
  have md25 : sv_mod [1076, 41, 42, 43, 44, 45, 46, 47, 1075, 1100029, 1084, 1085, 48, 1086, 51, 52, 49, 50, 1100020, 1100021, 1100022, 58, 63, 64, 57, 1092, 53, 54, 55, 56, 59, 60, 1073, 1109, 1110, 1111, 1112, 5, 1011, 3, 4, 1007, 1113, 1107, 67, 1100032, 1114, 1115] S (sv_sts (sv_up (sv_up S 1114 0 (x4 + (2 : Int))) 1115 0 p1) [1076, 41, 42, 43, 44, 45, 46, 47, 1075, 1100029, 1084, 1085, 48, 1086, 51, 52, 49, 50, 1100020, 1100021, 1100022, 58, 63, 64, 57, 1092, 53, 54, 55, 56, 59, 60, 1073, 1109, 1110, 1111, 1112, 5, 1011, 3, 4, 1007, 1113, 1107, 67, 1100032, 1114, 1115] g21) := sv_mod.sts md10 (by decide)
  have h := h g21 hpo24
  exact sv_vret hM dX12_call_57 rfl ⟨rfl, ok22, md25, h⟩
def q_makeNew (p1 : Int) (p2 : Int) (S : sv_S) : Option Value → sv_S → Prop := fun v S' => v = none ∧ sm_ok S' ∧ sv_mod [1076, 41, 42, 43, 44, 45, 46, 47, 1075, 1100029, 1084, 1085, 48, 1086, 51, 52, 49, 50, 1100020, 1100021, 1100022, 58, 63, 64, 57, 1092, 53, 54, 55, 56, 59, 60, 1073, 1109, 1110, 1111, 1112, 5, 1011, 3, 4, 1007, 1113, 1107, 67, 1100032, 1114, 1115] S S' ∧ (sm_PL (S' 1100020) (S' 51) (S' 52) (S' 46) (S' 47) (S' 1076 0) (S' 1086 0) ∧ sm_FR (S' 1100020) (S' 52) (S' 1100021) (S' 1100022) (3000 - (S' 1084 0)) (S' 1085 0) ∧ sm_PV (S' 1100020) (S' 48) (S' 49) (S' 50) (S' 44) (S' 1076 0) (S' 1007 0) ∧ sm_AL (S' 1100020) (S' 48) (S' 49) (S' 50) (S' 44) (S' 1076 0) (S' 1100032 0) ∧ sm_SV (S' 1100020) (S' 48) (S' 1100029) (S' 32) (S' 33) (S' 1076 0) (S' 1032 0) ∧ 0 ≤ (S' 1076 0) ∧ (S' 1076 0) ≤ 300 ∧ 0 ≤ (S' 1084 0) ∧ (S' 1084 0) ≤ 3000 ∧ 0 ≤ (S' 1086 0) ∧ sm_SC (S' 1100029) (S' 44) (S' 45) (S' 43) (S' 21) (S' 1076 0) (S' 1032 0) ∧ sm_PO (S' 42) (S' 1076 0) ∧ ((S' 1075 0) = 0 → (S' 1100032 0) = -1 ∧ sm_FO (S' 44) (S' 45) (S' 1076 0)) ∧ 23 ≤ (S' 1076 0) ∧ 31 ≤ (S' 1007 0) ∧ (S' 1007 0) ≤ 400 ∧ sm_LN (S' 4) 400 (S' 1007 0) ∧ (S' 1008 0) ≤ (S' 1007 0) ∧ ((S 1075 0) = 1 → (S' 1075 0) = 1) ∧ 0 ≤ (S' 1092 0) ∧ (S' 1092 0) ≤ 24 ∧ (S 1007 0) ≤ (S' 1007 0) ∧ (¬ (S' 1075 0) = 0 → sm_LX (S' 58) (S' 63) (S' 64) (S' 1092 0) (S' 1076 0)) ∧ ((S' 1075 0) = 0 → (S' 1073 0) = 1 → 1 ≤ (S' 1092 0) ∧ (S' 1092 0) ≤ 24 ∧ 0 ≤ (S' 57 ((S' 1092 0) - 1)) ∧ (S' 57 ((S' 1092 0) - 1)) < (S' 1046 0) ∧ (S' 29 (S' 57 ((S' 1092 0) - 1))) = (S' 53 ((S' 1092 0) - 1)) ∧ 0 ≤ (S' 53 ((S' 1092 0) - 1)) ∧ (S' 53 ((S' 1092 0) - 1)) < (S' 1032 0) ∧ (S' 60 ((S' 1092 0) - 1)) = sm_dp (S' 1100024) (S' 1100023 (S' 57 ((S' 1092 0) - 1))) ∧ sm_TC (S' 61) (S' 62) (S' 27) (S' 1100007) (S' 1100023) (S' 1100024) (40 * ((S' 1092 0) - 1)) (S' 1100023 (S' 57 ((S' 1092 0) - 1))) ∧ sm_LK (S' 1100029) (S' 1076 0) (S' 54 ((S' 1092 0) - 1)) (S' 53 ((S' 1092 0) - 1)) ∧ sm_VO (S' 44) (S' 1076 0) (S' 1007 0) ((S' 55 ((S' 1092 0) - 1))) ((S' 56 ((S' 1092 0) - 1))) ∧ sm_FW (S' 44) (S' 1076 0) (S' 59 ((S' 1092 0) - 1)) ∧ sm_FL (S' 53) (S' 54) (S' 55) (S' 56) (S' 57) (S' 58) (S' 59) (S' 60) (S' 61) (S' 62) (S' 63) (S' 64) (S' 27) (S' 29) (S' 1100007) (S' 1100023) (S' 1100024) (S' 1100025) (S' 26) (S' 1100029) (S' 44) (S' 1046 0) (S' 1032 0) (S' 1076 0) (S' 1007 0) (((S' 1092 0) - 1)) ∧ (S' 58 ((S' 1092 0) - 1)) = (S' 1100007 (S' 57 ((S' 1092 0) - 1))) ∧ sm_SK (S' 63) (S' 64) (S' 44) (S' 1100007) (S' 1100025) (S' 1076 0) (S' 1007 0) (400 * ((S' 1092 0) - 1)) ((S' 58 ((S' 1092 0) - 1))) ((S' 1100025 (S' 57 ((S' 1092 0) - 1))))) ∧ ((S' 1073 0) = 1 ∨ (S' 1092 0) = 0 ∧ (S' 1075 0) = 0 ∧ ((S' 1073 0) = 2 ∨ (S' 1073 0) = 3)) ∧ (S 1086 0) ≤ (S' 1086 0) ∧ (S' 1086 0) ≤ (S 1086 0) + 110 ∧ 0 ≤ (S' 1107 0) ∧ (S' 1107 0) ≤ 100 ∧ sm_PT (S' 67) (S' 1107 0) (S' 1007 0))
theorem la_makeNew_0 {x0 x1 : Int} (h0 : x0 + 1 ≤ x1) : 0 ≤ x1 - (x0 + 1) := by omega
theorem la_makeNew_1 {x0 x1 : Int} (h0 : 0 ≤ x0) : x1 - (x0 + 1) < x1 := by omega
theorem la_makeNew_2 {x0 x1 x2 : Int} (h0 : 0 ≤ x0) (h1 : 1 ≤ x1) (h2 : x1 ≤ 24) (h3 : x2 ≤ 396) (h4 : x0 + 1 ≤ x2) : 1 ≤ x1 ∧ x1 ≤ 24 ∧ 0 ≤ x2 ∧ x2 ≤ 400 := by omega
theorem la_makeNew_3 {x0 x1 x2 x3 : Int} (h0 : 0 ≤ x0) (h1 : 1 ≤ x1) (h2 : x1 ≤ 24) (h3 : x2 ≤ 396) (h4 : x0 + 1 ≤ x2) (h5 : 400 * (x1 - 1) + x2 - x0 - 1 = x3) : 0 ≤ x3 ∧ x3 < 9600 := by omega
theorem la_makeNew_4 {x0 x1 x2 x3 : Int} (h0 : 0 ≤ x0) (h1 : 1 ≤ x1) (h2 : x1 ≤ 24) (h3 : x2 ≤ 396) (h4 : x0 + 1 ≤ x2) (h5 : 400 * (x1 - 1) + x2 - x0 - 1 = x3) : sv_R (x3 + 1) := by omega
theorem la_makeNew_5 {x0 : Int} (h0 : x0 = 1) : 0 ≤ x0 := by omega
theorem la_makeNew_6 {x0 : Int} (h0 : 0 ≤ x0) (h1 : ¬ x0 = 0) : 0 < x0 := by omega
theorem la_makeNew_7 {x0 x1 x2 x3 : Int} (h0 : 400 * (x0 - 1) + x1 - x2 - 1 = x3) : x3 = 400 * (x0 - 1) + (x1 - (x2 + 1)) := by omega
theorem la_makeNew_8 {x0 x1 : Int} (h0 : x0 = 7) (h1 : x0 = x1) : ¬ x1 = 6 := by omega
theorem la_makeNew_9 {x0 x1 : Int} (h0 : x0 ≤ 7) (h1 : x1 = 7) (h2 : x1 = x0) : x0 = 7 := by omega
theorem la_makeNew_10 {x0 x1 : Int} (h0 : x0 = x1) (h1 : 0 ≤ x1) : 0 ≤ x0 := by omega
theorem la_makeNew_11 {x0 x1 x2 : Int} (h0 : x0 ≤ 300) (h1 : x1 = x2) (h2 : x2 < x0) : x1 < 300 := by omega
theorem la_makeNew_12 {x0 : Int} (h0 : 23 ≤ x0) : 2 ≤ x0 := by omega
theorem la_makeNew_13 {x0 x1 x2 : Int} (h0 : x0 = x1) (h1 : x1 < x2) : x0 < x2 := by omega
theorem la_makeNew_14 {x0 : Int} (h0 : x0 ≤ 7) (h1 : ¬ x0 = 7) : x0 < 7 := by omega
theorem la_makeNew_15 {x0 x1 x2 : Int} (h0 : 0 ≤ x0) (h1 : x0 < x1) (h2 : 1 ≤ x2) (h3 : x2 ≤ 11) (h4 : x1 ≤ 19) : 0 ≤ x0 ∧ x0 ≤ 600 ∧ 1 ≤ x2 ∧ x2 ≤ 4001 := by omega
theorem la_makeNew_16 {x0 x1 x2 x3 x4 x5 : Int} (h0 : 0 ≤ x0) (h1 : x0 < x1) (h2 : 23 ≤ x2) (h3 : 1 ≤ x3) (h4 : x3 ≤ 11) (h5 : x1 ≤ 19) (h6 : x4 = 29 + 6 * (x3 - 1) + 2 * x0) : ((1 : Int) = (-1) ∨ (0 : Int) ≤ 1 ∧ 1 < x2 ∨ x2 = 0 ∧ (1 : Int) = 1) ∧ (x2 = 1 → (1 : Int) = (-1)) ∧ 0 ≤ x4 ∧ x4 ≤ 1000 ∧ (0 : Int) ≤ 0 ∧ (0 : Int) ≤ 3 ∧ ((0 : Int) = 2 → x5 = x2) := by omega
theorem la_makeNew_17 {x0 : Int} (h0 : x0 = 0) : ¬ x0 = 1 := by omega
theorem la_makeNew_18 {x0 : Int} : ¬ (0 : Int) = 1 ∨ 9 ≤ x0 ∧ x0 < 23 := by omega
theorem la_makeNew_19 {x0 : Int} (h0 : 23 ≤ x0) : 1 ≤ x0 ∨ x0 = 0 ∧ (0 : Int) = 0 := by omega
theorem la_makeNew_20 {x0 : Int} (h0 : x0 ≤ 1) (h1 : 0 < x0) : x0 = 1 := by omega
theorem la_makeNew_21 {x0 x1 : Int} (h0 : 0 < x0) (h1 : x0 = 0) : x1 = 6 := by omega
theorem la_makeNew_22 {x0 x1 : Int} (h0 : x0 ≤ 7) (h1 : 0 < x1) (h2 : x1 = 0) : x0 = 7 := by omega
theorem la_makeNew_23 {x0 x1 : Int} (h0 : 0 < x0) (h1 : x0 = 0) : x1 = 7 := by omega
theorem la_makeNew_24 {x0 x1 : Int} (h0 : 0 < x0) (h1 : x0 = 0) : ¬ 1 ≤ x1 := by omega
theorem la_makeNew_25 {x0 x1 : Int} (h0 : 0 < x0) (h1 : x0 = 0) : x1 ≤ 0 := by omega
theorem la_makeNew_26 {x0 : Int} (h0 : x0 ≤ 0) (h1 : ¬ x0 = 0) : x0 < 0 := by omega
theorem la_makeNew_27 {x0 : Int} (h0 : 10 ≤ x0) : 0 ≤ x0 := by omega
theorem la_makeNew_28 {x0 x1 : Int} (h0 : 0 < x0) (h1 : x0 = 0) : x1 < 300 := by omega
theorem la_makeNew_29 {x0 x1 x2 : Int} (h0 : x0 < 7) (h1 : x1 = x2) (h2 : x1 = x2 + 1) : x0 = 6 := by omega
theorem la_makeNew_30 {x0 x1 x2 : Int} (h0 : x0 = x1) (h1 : x0 = x1 + 1) : x2 ≤ 13 := by omega
theorem la_makeNew_31 {x0 : Int} (h0 : x0 ≤ 13) (h1 : ¬ x0 = 13) : x0 < 13 := by omega
theorem la_makeNew_32 {x0 x1 : Int} (h0 : 23 ≤ x0) (h1 : x1 < 13) : x1 < x0 := by omega
theorem la_makeNew_33 {x0 x1 : Int} (h0 : x0 < 0) : ¬ (9 ≤ x1 ∧ x1 < 23 ∧ x0 = 0) := by omega
theorem la_makeNew_34 {x0 x1 : Int} (h0 : 23 ≤ x0) (h1 : x0 ≤ x1) : 23 ≤ x1 := by omega
theorem la_makeNew_35 {x0 : Int} (h0 : 1 ≤ x0) : 0 ≤ x0 := by omega
theorem la_makeNew_36 {x0 : Int} : x0 ≤ x0 := by omega
theorem la_makeNew_37 {x0 x1 : Int} (h0 : 0 ≤ x0) (h1 : x1 = x0) : 0 ≤ x1 := by omega
theorem la_makeNew_38 {x0 x1 x2 : Int} (h0 : x0 = x1) (h1 : x1 + 1 < x2) : x0 < x2 := by omega
theorem la_makeNew_39 {x0 x1 x2 x3 : Int} (h0 : x0 = x1) (h1 : x0 = x1 + 1) : x2 = x3 := by omega
theorem la_makeNew_40 {x0 x1 : Int} (h0 : x0 = 1) (h1 : x0 = x1) : x1 ≤ 3 := by omega
theorem la_makeNew_41 {x0 : Int} (h0 : x0 ≤ 3) (h1 : ¬ x0 = 3) : x0 < 3 := by omega
theorem la_makeNew_42 {x0 x1 x2 : Int} (h0 : x0 = x1) (h1 : x2 = x0) : x2 = x1 := by omega
theorem la_makeNew_43 {x0 x1 x2 : Int} (h0 : x0 = x1) (h1 : x2 = x1) : x0 = x2 := by omega
theorem la_makeNew_44 {x0 x1 : Int} (h0 : x0 = x1) : x1 = x0 := by omega
theorem la_makeNew_45 {x0 : Int} : x0 = x0 - 1 + 1 := by omega
theorem la_makeNew_46 {x0 x1 x2 : Int} (h0 : x0 = x1) (h1 : x2 = x1) : x2 = x0 := by omega
theorem la_makeNew_47 {x0 x1 x2 : Int} (h0 : x0 = 1) (h1 : 1 ≤ x1) (h2 : 0 < x2) : x0 = 1 ∨ x1 = 0 ∧ x2 = 0 ∧ (x0 = 2 ∨ x0 = 3) := by omega
theorem la_makeNew_48 {x0 : Int} : x0 ≤ x0 + 110 := by omega
theorem la_makeNew_49 {x0 : Int} (h0 : ¬ ¬ x0 = 0) : x0 = 0 := by omega
theorem la_makeNew_50 {x0 x1 x2 : Int} (h0 : x0 < x1) (h1 : x0 = x2) : ¬ x1 = x2 := by omega
theorem la_makeNew_51 {x0 : Int} (h0 : ¬ ¬ x0 = 0) : ¬ x0 = 1 := by omega
theorem la_makeNew_52 {x0 x1 x2 : Int} (h0 : x0 ≤ 300) (h1 : x1 < x0) (h2 : x1 = x2) : x2 < 300 := by omega
theorem la_makeNew_53 {x0 : Int} (h0 : x0 = 0) : ¬ x0 = 3 := by omega
theorem la_makeNew_54 : ¬ (7 : Int) = 6 := by omega
theorem la_makeNew_55 : (7 : Int) = 7 := by omega
theorem la_makeNew_56 {x0 : Int} (h0 : x0 = 0) : x0 ≤ 3 := by omega
theorem la_makeNew_57 {x0 : Int} (h0 : 0 ≤ x0) (h1 : x0 ≤ 8) : sv_R (x0 + 1) := by omega
theorem la_makeNew_58 {x0 : Int} (h0 : 0 ≤ x0) (h1 : ¬ ¬ x0 = 0) : x0 = 0 := by omega
theorem la_makeNew_59 {x0 x1 : Int} (h0 : 23 ≤ x0) (h1 : x1 = x0 + 1) : 23 ≤ x1 := by omega
theorem la_makeNew_60 {x0 : Int} : x0 ≤ x0 + 1 - 1 := by omega
theorem la_makeNew_61 {x0 x1 x2 x3 : Int} (h0 : 400 * (x0 - 1) + x1 - x2 - 1 = x3) : x3 + 1 + x2 = 400 * (x0 - 1) + x1 := by omega
theorem la_makeNew_62 {x0 x1 : Int} : (7 : Int) = 6 → 0 ≤ x0 ∧ x0 < x1 := by omega
theorem la_makeNew_63 {x0 x1 : Int} (h0 : x0 ≤ 7) (h1 : x1 = 7) (h2 : x1 = x0) : 7 = x0 := by omega
theorem la_makeNew_64 {x0 x1 x2 x3 : Int} (h0 : 23 ≤ x0) (h1 : x1 < x2) (h2 : x1 = x0) (h3 : x3 = 0) : 0 ≤ x1 ∧ x1 < x2 ∧ ¬ x3 = 3 := by omega
theorem la_makeNew_65 {x0 x1 : Int} (h0 : 0 ≤ x0) (h1 : x1 = 1) : 0 ≤ 2 * (4 * x0 + x1 + x1) := by omega
theorem la_makeNew_66 {x0 x1 : Int} (h0 : 0 ≤ x0) (h1 : x1 = 1) : 0 ≤ 2 * (4 * x0 + x1 + x1) + 20 := by omega
theorem la_makeNew_67 {x0 x1 : Int} (h0 : x0 ≤ 8) (h1 : x1 ≤ 1) : 2 * (4 * x0 + x1 + x1) + 20 + 1 ≤ 100 := by omega
theorem la_makeNew_68 {x0 x1 : Int} (h0 : x0 = 0) : x0 = 1 → x1 = 1 := by omega
theorem la_makeNew_69 {x0 : Int} (h0 : ¬ ¬ x0 = 7) : ¬ x0 = 6 := by omega
theorem la_makeNew_70 {x0 : Int} (h0 : x0 ≤ 7) (h1 : ¬ ¬ x0 = 7) : x0 = 7 := by omega
theorem la_makeNew_71 {x0 x1 x2 x3 x4 x5 x6 : Int} (h0 : 0 ≤ x0) (h1 : x0 < x1) (h2 : 23 ≤ x2) (h3 : 1 ≤ x3) (h4 : x3 ≤ 11) (h5 : x1 ≤ 19) (h6 : 0 ≤ x4) (h7 : x4 < x2) (h8 : x5 = 29 + 6 * (x3 - 1) + 2 * x0) : (x4 = (-1) ∨ 0 ≤ x4 ∧ x4 < x2 ∨ x2 = 0 ∧ x4 = 1) ∧ (x2 = 1 → x4 = (-1)) ∧ 0 ≤ x5 ∧ x5 ≤ 1000 ∧ (0 : Int) ≤ 0 ∧ (0 : Int) ≤ 3 ∧ ((0 : Int) = 2 → x6 = x2) := by omega
theorem la_makeNew_72 {x0 x1 : Int} (h0 : 23 ≤ x0) (h1 : x1 = x0) : 23 ≤ x1 := by omega
theorem la_makeNew_73 {x0 x1 : Int} (h0 : x0 = 1) (h1 : x1 = x0) : x1 ≤ 3 := by omega
theorem la_makeNew_74 {x0 : Int} (h0 : x0 ≤ 7) (h1 : ¬ ¬ x0 = 7) : 7 = x0 := by omega
theorem la_makeNew_75 {x0 : Int} (h0 : ¬ ¬ x0 = 0) : ¬ 1 ≤ x0 := by omega
theorem la_makeNew_76 : (0 : Int) ≤ 0 := by omega
theorem la_makeNew_77 : (0 : Int) ≤ 7 := by omega
theorem la_makeNew_78 {x0 : Int} : (0 : Int) = 6 → (0 : Int) ≤ 0 ∧ 0 < x0 := by omega
theorem la_makeNew_79 {x0 x1 : Int} : (0 : Int) = 7 → (0 : Int) ≤ 0 ∧ 0 < x0 ∧ ¬ x1 = 3 := by omega
theorem la_makeNew_80 {x0 : Int} (h0 : 10 ≤ x0) : 9 ≤ x0 := by omega
theorem la_makeNew_81 {x0 : Int} (h0 : x0 ≤ 17) : x0 ≤ 22 := by omega
theorem la_makeNew_82 {x0 : Int} (h0 : x0 ≤ 17) : ¬ x0 = 20 := by omega
theorem la_makeNew_83 {x0 x1 : Int} (h0 : 0 ≤ x0) (h1 : x0 = x1) : 0 ≤ x1 := by omega
theorem la_makeNew_84 {x0 x1 x2 x3 : Int} (h0 : 1 ≤ x0 + 1) (h1 : x1 ≤ x2 - (x0 + 1)) (h2 : x3 = x1) : x3 ≤ x2 := by omega
theorem la_makeNew_85 : (6 : Int) ≤ 6 := by omega
theorem la_makeNew_86 : (6 : Int) ≤ 8 := by omega
theorem la_makeNew_87 {x0 x1 x2 x3 x4 : Int} : x0 = 0 → ((0 : Int) = 0 ∨ (0 : Int) = 1) ∧ ((0 : Int) = 1 → x1 = 7 ∧ x2 = 1 ∧ (1 ≤ x3 ∨ 10 ≤ x4 ∧ x4 ≤ 17 ∧ ¬ x4 = 13)) := by omega
theorem la_makeNew_88 {x0 x1 x2 x3 : Int} (h0 : x0 = 7) (h1 : x1 = 1) : 0 < x2 → ((1 : Int) = 0 ∨ (1 : Int) = 1) ∧ ((1 : Int) = 1 → x0 = 7 ∧ x1 = 1 ∧ (1 ≤ x2 ∨ 10 ≤ x3 ∧ x3 ≤ 17 ∧ ¬ x3 = 13)) := by omega
theorem la_makeNew_89 {x0 x1 x2 x3 : Int} : x0 < 10 → ((0 : Int) = 0 ∨ (0 : Int) = 1) ∧ ((0 : Int) = 1 → x1 = 7 ∧ x2 = 1 ∧ (1 ≤ x3 ∨ 10 ≤ x0 ∧ x0 ≤ 17 ∧ ¬ x0 = 13)) := by omega
theorem la_makeNew_90 {x0 x1 x2 x3 : Int} : 17 < x0 → ((0 : Int) = 0 ∨ (0 : Int) = 1) ∧ ((0 : Int) = 1 → x1 = 7 ∧ x2 = 1 ∧ (1 ≤ x3 ∨ 10 ≤ x0 ∧ x0 ≤ 17 ∧ ¬ x0 = 13)) := by omega
theorem la_makeNew_91 {x0 x1 x2 x3 : Int} : x0 = 13 → ((0 : Int) = 0 ∨ (0 : Int) = 1) ∧ ((0 : Int) = 1 → x1 = 7 ∧ x2 = 1 ∧ (1 ≤ x3 ∨ 10 ≤ x0 ∧ x0 ≤ 17 ∧ ¬ x0 = 13)) := by omega
theorem la_makeNew_92 : (1 : Int) = 0 ∨ (1 : Int) = 1 := by omega
theorem la_makeNew_93 {x0 x1 : Int} (h0 : ¬ x0 < 10) (h1 : ¬ 17 < x0) (h2 : ¬ x0 = 13) : 1 ≤ x1 ∨ 10 ≤ x0 ∧ x0 ≤ 17 ∧ ¬ x0 = 13 := by omega
set_option maxHeartbeats 8000000 in
theorem f_makeNew : ∀ (p1 : Int) (p2 : Int) (S : sv_S), sm_ok S → sv_R p1 → sv_R p2 → (0 ≤ p1 ∧ p1 ≤ 8 ∧ 0 ≤ p2 ∧ p2 < (S 1055 0) ∧ (S 1075 0) = 0 ∧ (S 1073 0) = 1 ∧ sm_LX (S 58) (S 63) (S 64) (S 1092 0) (S 1076 0) ∧ sm_PL (S 1100020) (S 51) (S 52) (S 46) (S 47) (S 1076 0) (S 1086 0) ∧ sm_FR (S 1100020) (S 52) (S 1100021) (S 1100022) (3000 - (S 1084 0)) (S 1085 0) ∧ sm_PV (S 1100020) (S 48) (S 49) (S 50) (S 44) (S 1076 0) (S 1007 0) ∧ sm_AL (S 1100020) (S 48) (S 49) (S 50) (S 44) (S 1076 0) (S 1100032 0) ∧ sm_SV (S 1100020) (S 48) (S 1100029) (S 32) (S 33) (S 1076 0) (S 1032 0) ∧ 0 ≤ (S 1076 0) ∧ (S 1076 0) ≤ 300 ∧ 0 ≤ (S 1084 0) ∧ (S 1084 0) ≤ 3000 ∧ 0 ≤ (S 1086 0) ∧ sm_SC (S 1100029) (S 44) (S 45) (S 43) (S 21) (S 1076 0) (S 1032 0) ∧ sm_PO (S 42) (S 1076 0) ∧ (S 1100032 0) = -1 ∧ sm_FO (S 44) (S 45) (S 1076 0) ∧ 23 ≤ (S 1076 0) ∧ 31 ≤ (S 1007 0) ∧ (S 1007 0) ≤ 400 ∧ sm_LN (S 4) 400 (S 1007 0) ∧ sm_CT (S 26) (S 27) (S 28) (S 29) (S 1100007) (S 1100023) (S 1100024) (S 1100025) (S 21) (S 1046 0) (S 1032 0) (S 1008 0) (S 1055 0) ∧ sm_LS (S 26) (S 1100007) (S 1100025) (S 1046 0) ∧ sm_CL (S 1100007) (S 1100023) (S 1100025) (S 1046 0) ∧ 1 ≤ (S 1032 0) ∧ (S 1032 0) ≤ 11 ∧ 0 ≤ (S 1046 0) ∧ (S 1046 0) ≤ 600 ∧ 31 ≤ (S 1008 0) ∧ (S 1008 0) ≤ (S 1007 0) ∧ 0 ≤ (S 1055 0) ∧ (S 1055 0) ≤ 19 ∧ 1 ≤ (S 1092 0) ∧ (S 1092 0) ≤ 24 ∧ 0 ≤ (S 1100033 0) ∧ (S 1100033 0) < (S 1046 0) ∧ (S 29 (S 1100033 0)) = (S 53 ((S 1092 0) - 1)) ∧ 0 ≤ (S 53 ((S 1092 0) - 1)) ∧ (S 53 ((S 1092 0) - 1)) < (S 1032 0) ∧ (S 60 ((S 1092 0) - 1)) = sm_dp (S 1100024) (S 1100023 (S 1100033 0)) ∧ sm_TC (S 61) (S 62) (S 27) (S 1100007) (S 1100023) (S 1100024) (40 * ((S 1092 0) - 1)) (S 1100023 (S 1100033 0)) ∧ sm_LK (S 1100029) (S 1076 0) (S 54 ((S 1092 0) - 1)) (S 53 ((S 1092 0) - 1)) ∧ sm_VO (S 44) (S 1076 0) (S 1007 0) ((S 55 ((S 1092 0) - 1))) ((S 56 ((S 1092 0) - 1))) ∧ sm_FW (S 44) (S 1076 0) (S 59 ((S 1092 0) - 1)) ∧ sm_FL (S 53) (S 54) (S 55) (S 56) (S 57) (S 58) (S 59) (S 60) (S 61) (S 62) (S 63) (S 64) (S 27) (S 29) (S 1100007) (S 1100023) (S 1100024) (S 1100025) (S 26) (S 1100029) (S 44) (S 1046 0) (S 1032 0) (S 1076 0) (S 1007 0) (((S 1092 0) - 1)) ∧ (S 57 ((S 1092 0) - 1)) = (S 1100033 0) ∧ 0 ≤ (S 58 ((S 1092 0) - 1)) ∧ (S 58 ((S 1092 0) - 1)) ≤ 400 ∧ sm_SK (S 63) (S 64) (S 44) (S 1100007) (S 1100025) (S 1076 0) (S 1007 0) (400 * ((S 1092 0) - 1)) ((S 58 ((S 1092 0) - 1))) ((S 1100034 0)) ∧ -1 ≤ (S 1100034 0) ∧ (S 1100034 0) < (S 1046 0) ∧ (0 ≤ (S 1100034 0) → (S 26 (S 1100034 0)) = 29) ∧ (S 58 ((S 1092 0) - 1)) = (S 1100007 (S 1100033 0)) ∧ (S 1100034 0) = (S 1100025 (S 1100033 0)) ∧ (0 ≤ (S 1100023 (S 1100033 0)) → (S 1100007 (S 1100023 (S 1100033 0))) ≤ (S 58 ((S 1092 0) - 1))) ∧ (S 58 ((S 1092 0) - 1)) ≤ 396 ∧ 1 ≤ (p1 + 1) ∧ (p1 + 1) ≤ (S 58 ((S 1092 0) - 1)) ∧ (0 ≤ (S 1100034 0) → (S 1100007 (S 1100034 0)) ≤ (S 58 ((S 1092 0) - 1)) - (p1 + 1)) ∧ (S 1100033 0) + 1 < (S 1046 0) ∧ (S 29 ((S 1100033 0) + 1)) = (S 29 (S 1100033 0)) ∧ (S 1100007 ((S 1100033 0) + 1)) = (S 58 ((S 1092 0) - 1)) + 1 - (p1 + 1) ∧ (S 1100023 ((S 1100033 0) + 1)) = (S 1100023 (S 1100033 0)) ∧ (S 1100025 ((S 1100033 0) + 1)) = (S 1100034 0) ∧ (0 ≤ (S 1100023 (S 1100033 0)) → (S 1100007 (S 1100023 (S 1100033 0))) ≤ (S 58 ((S 1092 0) - 1)) - (p1 + 1)) ∧ (∀ g : Int, 0 ≤ g → g < (S 1032 0) → 0 ≤ (S 30 g) ∧ (S 30 g) < (S 1046 0) ∧ (S 1100007 (S 30 g)) = 0 ∧ (S 1100023 (S 30 g)) = -1 ∧ 0 ≤ (S 33 g) ∧ (S 33 g) ≤ 100 ∧ 0 ≤ (S 20 g) ∧ (S 20 g) ≤ 8) ∧ sm_VN (S 32) (S 33) (S 1032 0) (S 1008 0) ∧ (∀ f : Int, 0 ≤ f → f < (S 1032 0) → 0 ≤ (S 30 f) ∧ (S 30 f) < (S 1046 0) ∧ (S 29 (S 30 f)) = f ∧ (S 1100007 (S 30 f)) = 0 ∧ (S 1100023 (S 30 f)) = -1 ∧ (S 1100025 (S 30 f)) = -1) ∧ (S 1086 0) ≤ 1900000000 ∧ 0 ≤ (S 1107 0) ∧ (S 1107 0) ≤ 100 ∧ sm_PT (S 67) (S 1107 0) (S 1007 0)) → ((sm_SK (S 63) (S 64) (S 44) (S 1100007) (S 1100025) (S 1076 0) (S 1007 0) (400 * ((S 1092 0) - 1)) ((S 58 ((S 1092 0) - 1))) ((S 1100034 0)) → sm_LS (S 26) (S 1100007) (S 1100025) (S 1046 0) → 0 ≤ (S 58 ((S 1092 0) - 1)) - (p1 + 1) → (S 58 ((S 1092 0) - 1)) - (p1 + 1) < (S 58 ((S 1092 0) - 1)) → (S 1100034 0) < (S 1046 0) → (0 ≤ (S 1100034 0) → (S 26 (S 1100034 0)) = 29) → (0 ≤ (S 1100034 0) → (S 1100007 (S 1100034 0)) ≤ (S 58 ((S 1092 0) - 1)) - (p1 + 1)) → sm_VO (S 44) (S 1076 0) (S 1007 0) ((S 63 (400 * ((S 1092 0) - 1) + ((S 58 ((S 1092 0) - 1)) - (p1 + 1))))) ((S 64 (400 * ((S 1092 0) - 1) + ((S 58 ((S 1092 0) - 1)) - (p1 + 1)))))) → (1 ≤ (S 1092 0) ∧ (S 1092 0) ≤ 24 ∧ 0 ≤ (S 58 ((S 1092 0) - 1)) ∧ (S 58 ((S 1092 0) - 1)) ≤ 400) ∧ (∀ x3 : Int, ((((400 * ((S 1092 0) - 1) + (S 58 ((S 1092 0) - 1)))) - p1) - (1 : Int)) = x3 → (0 ≤ x3 ∧ x3 < 9600) ∧ (sv_R (S 63 x3) → (sv_R (S 64 x3) → (sv_R (x3 + (1 : Int))) ∧ ((∀ s13 : Int, sv_R s13 → ((s13 = 0 ∨ s13 = 1) ∧ (s13 = 1 → (S 63 x3) = 7 ∧ (S 44 (S 64 x3)) = 1 ∧ (1 ≤ (S 45 (S 64 x3)) ∨ (10 ≤ (S 64 x3) ∧ (S 64 x3) ≤ 17 ∧ ¬ (S 64 x3) = 13)))) → (((¬ s13 = (0 : Int)) → (0 ≤ (S 64 x3) ∧ (S 64 x3) < 300) ∧ (sv_R (S 45 (S 64 x3)) → (((¬ (S 45 (S 64 x3)) = (0 : Int)) → ((sm_FO (S 44) (S 45) (S 1076 0) → 0 ≤ (S 64 x3) → (S 64 x3) < (S 1076 0) → (S 44 (S 64 x3)) = 1 → ¬ (9 ≤ (S 64 x3) ∧ (S 64 x3) < 23 ∧ (S 45 (S 64 x3)) = 0) → 1 ≤ (S 45 (S 64 x3))) → (sm_PL (S 1100020) (S 51) (S 52) (S 46) (S 47) (S 1076 0) (S 1086 0) ∧ sm_FR (S 1100020) (S 52) (S 1100021) (S 1100022) (3000 - (S 1084 0)) (S 1085 0) ∧ sm_PV (S 1100020) (S 48) (S 49) (S 50) (S 44) (S 1076 0) (S 1007 0) ∧ sm_AL (S 1100020) (S 48) (S 49) (S 50) (S 44) (S 1076 0) (S 1100032 0) ∧ sm_SV (S 1100020) (S 48) (S 1100029) (S 32) (S 33) (S 1076 0) (S 1032 0) ∧ 0 ≤ (S 1076 0) ∧ (S 1076 0) ≤ 300 ∧ 0 ≤ (S 1084 0) ∧ (S 1084 0) ≤ 3000 ∧ 0 ≤ (S 1086 0) ∧ sm_SC (S 1100029) (S 44) (S 45) (S 43) (S 21) (S 1076 0) (S 1032 0) ∧ sm_PO (S 42) (S 1076 0) ∧ 2 ≤ (S 1076 0) ∧ 0 ≤ (S 64 x3) ∧ (S 64 x3) < (S 1076 0)) ∧ (∀ r23 : Int, sv_R r23 → ∀ g19 : sv_S, ((r23 = 0 ∨ r23 = 1) ∧ sm_VO (S 44) (S 1076 0) (S 1007 0) ((g19 1111 0)) ((g19 1112 0))) → (sv_R (g19 1111 0) → (((¬ (g19 1111 0) = (7 : Int)) → (0 ≤ p2 ∧ p2 ≤ 600 ∧ 1 ≤ (S 1032 0) ∧ (S 1032 0) ≤ 4001) ∧ (∀ r31 : Int, sv_R r31 → (r31 = 29 + 6 * ((S 1032 0) - 1) + 2 * p2) → (sm_PL (S 1100020) (S 51) (S 52) (S 46) (S 47) (S 1076 0) (S 1086 0) ∧ sm_FR (S 1100020) (S 52) (S 1100021) (S 1100022) (3000 - (S 1084 0)) (S 1085 0) ∧ sm_PV (S 1100020) (S 48) (S 49) (S 50) (S 44) (S 1076 0) (S 1007 0) ∧ sm_AL (S 1100020) (S 48) (S 49) (S 50) (S 44) (S 1076 0) (S 1100032 0) ∧ sm_SV (S 1100020) (S 48) (S 1100029) (S 32) (S 33) (S 1076 0) (S 1032 0) ∧ 0 ≤ (S 1076 0) ∧ (S 1076 0) ≤ 300 ∧ 0 ≤ (S 1084 0) ∧ (S 1084 0) ≤ 3000 ∧ 0 ≤ (S 1086 0) ∧ sm_SC (S 1100029) (S 44) (S 45) (S 43) (S 21) (S 1076 0) (S 1032 0) ∧ sm_PO (S 42) (S 1076 0) ∧ ((1 : Int) = -1 ∨ (0 ≤ (1 : Int) ∧ (1 : Int) < (S 1076 0)) ∨ ((S 1076 0) = 0 ∧ (1 : Int) = 1)) ∧ ((S 1076 0) = 1 → (1 : Int) = -1) ∧ 0 ≤ r31 ∧ r31 ≤ 1000 ∧ 0 ≤ (0 : Int) ∧ (0 : Int) ≤ 3 ∧ ((0 : Int) = 2 → (S 1100032 0) = (S 1076 0))) ∧ (∀ r37 : Int, sv_R r37 → ∀ g33 : sv_S, (sm_PL (S 1100020) (S 51) (S 52) (g33 46) (g33 47) (g33 1076 0) (S 1086 0) ∧ sm_FR (S 1100020) (S 52) (S 1100021) (S 1100022) (3000 - (S 1084 0)) (S 1085 0) ∧ sm_PV (S 1100020) (S 48) (S 49) (S 50) (g33 44) (g33 1076 0) (S 1007 0) ∧ sm_AL (S 1100020) (S 48) (S 49) (S 50) (g33 44) (g33 1076 0) (S 1100032 0) ∧ sm_SV (S 1100020) (S 48) (g33 1100029) (S 32) (S 33) (g33 1076 0) (S 1032 0) ∧ 0 ≤ (g33 1076 0) ∧ (g33 1076 0) ≤ 300 ∧ 0 ≤ (S 1084 0) ∧ (S 1084 0) ≤ 3000 ∧ 0 ≤ (S 1086 0) ∧ sm_SC (g33 1100029) (g33 44) (g33 45) (g33 43) (S 21) (g33 1076 0) (S 1032 0) ∧ sm_PO (g33 42) (g33 1076 0) ∧ 0 ≤ r37 ∧ r37 < (g33 1076 0) ∧ ((S 1075 0) = 1 → (g33 1075 0) = 1) ∧ (S 1076 0) ≤ (g33 1076 0) ∧ sm_F1 (S 44) (g33 44) (S 1076 0) ∧ sm_F1 (S 1100029) (g33 1100029) (S 1076 0) ∧ sm_F1 (S 42) (g33 42) (S 1076 0) ∧ sm_F1 (S 43) (g33 43) (S 1076 0) ∧ sm_F1 (S 45) (g33 45) (S 1076 0) ∧ ((g33 1075 0) = 0 → r37 = (S 1076 0) ∧ (g33 1076 0) = r37 + 1 ∧ (g33 44 r37) = (0 : Int) ∧ (g33 1100029 r37) = 0 ∧ (g33 45 r37) = 0 ∧ (g33 43 r37) = -1 ∧ (g33 42 r37) = (1 : Int)) ∧ ((g33 1076 0) = (S 1076 0) → r37 = 0) ∧ ((g33 1075 0) = 1 → (S 1075 0) = 0 → (g33 1076 0) = (S 1076 0)) ∧ (sm_FO (S 44) (S 45) (S 1076 0) → (¬ (0 : Int) = 1 ∨ (9 ≤ (S 1076 0) ∧ (S 1076 0) < 23)) → (1 ≤ (S 1076 0) ∨ ((S 1076 0) = 0 ∧ (0 : Int) = 0)) → sm_FO (g33 44) (g33 45) (g33 1076 0)) ∧ ((S 1076 0) < 300 → (g33 1075 0) = (S 1075 0) ∧ (g33 1076 0) = (S 1076 0) + 1)) → ((0 ≤ r37 → r37 < (g33 1076 0) → ¬ (g33 44 r37) = 3 → sm_VO (g33 44) (g33 1076 0) (S 1007 0) (7) (r37)) → ((0 ≤ (g33 1075 0) ∧ (g33 1075 0) ≤ 1) → (((¬ (g33 1075 0) = (0 : Int)) → (sm_PL (S 1100020) (S 51) (S 52) (g33 46) (g33 47) (g33 1076 0) (S 1086 0) ∧ sm_FR (S 1100020) (S 52) (S 1100021) (S 1100022) (3000 - (S 1084 0)) (S 1085 0) ∧ sm_PV (S 1100020) (S 48) (S 49) (S 50) (g33 44) (g33 1076 0) (S 1007 0) ∧ sm_AL (S 1100020) (S 48) (S 49) (S 50) (g33 44) (g33 1076 0) (S 1100032 0) ∧ sm_SV (S 1100020) (S 48) (g33 1100029) (S 32) (S 33) (g33 1076 0) (S 1032 0) ∧ 0 ≤ (g33 1076 0) ∧ (g33 1076 0) ≤ 300 ∧ 0 ≤ (S 1084 0) ∧ (S 1084 0) ≤ 3000 ∧ 0 ≤ (S 1086 0) ∧ sm_SC (g33 1100029) (g33 44) (g33 45) (g33 43) (S 21) (g33 1076 0) (S 1032 0) ∧ sm_PO (g33 42) (g33 1076 0) ∧ ((g33 1075 0) = 0 → (S 1100032 0) = -1 ∧ sm_FO (g33 44) (g33 45) (g33 1076 0)) ∧ 23 ≤ (g33 1076 0) ∧ 31 ≤ (S 1007 0) ∧ (S 1007 0) ≤ 400 ∧ sm_LN (S 4) 400 (S 1007 0) ∧ (S 1008 0) ≤ (S 1007 0) ∧ ((S 1075 0) = 1 → (g33 1075 0) = 1) ∧ 0 ≤ (S 1092 0) ∧ (S 1092 0) ≤ 24 ∧ (S 1007 0) ≤ (S 1007 0) ∧ (¬ (g33 1075 0) = 0 → sm_LX (S 58) (S 63) (S 64) (S 1092 0) (g33 1076 0)) ∧ ((g33 1075 0) = 0 → (S 1073 0) = 1 → 1 ≤ (S 1092 0) ∧ (S 1092 0) ≤ 24 ∧ 0 ≤ (S 57 ((S 1092 0) - 1)) ∧ (S 57 ((S 1092 0) - 1)) < (S 1046 0) ∧ (S 29 (S 57 ((S 1092 0) - 1))) = (S 53 ((S 1092 0) - 1)) ∧ 0 ≤ (S 53 ((S 1092 0) - 1)) ∧ (S 53 ((S 1092 0) - 1)) < (S 1032 0) ∧ (S 60 ((S 1092 0) - 1)) = sm_dp (S 1100024) (S 1100023 (S 57 ((S 1092 0) - 1))) ∧ sm_TC (S 61) (S 62) (S 27) (S 1100007) (S 1100023) (S 1100024) (40 * ((S 1092 0) - 1)) (S 1100023 (S 57 ((S 1092 0) - 1))) ∧ sm_LK (g33 1100029) (g33 1076 0) (S 54 ((S 1092 0) - 1)) (S 53 ((S 1092 0) - 1)) ∧ sm_VO (g33 44) (g33 1076 0) (S 1007 0) ((S 55 ((S 1092 0) - 1))) ((S 56 ((S 1092 0) - 1))) ∧ sm_FW (g33 44) (g33 1076 0) (S 59 ((S 1092 0) - 1)) ∧ sm_FL (S 53) (S 54) (S 55) (S 56) (S 57) (S 58) (S 59) (S 60) (S 61) (S 62) (S 63) (S 64) (S 27) (S 29) (S 1100007) (S 1100023) (S 1100024) (S 1100025) (S 26) (g33 1100029) (g33 44) (S 1046 0) (S 1032 0) (g33 1076 0) (S 1007 0) (((S 1092 0) - 1)) ∧ (S 58 ((S 1092 0) - 1)) = (S 1100007 (S 57 ((S 1092 0) - 1))) ∧ sm_SK (S 63) (S 64) (g33 44) (S 1100007) (S 1100025) (g33 1076 0) (S 1007 0) (400 * ((S 1092 0) - 1)) ((S 58 ((S 1092 0) - 1))) ((S 1100025 (S 57 ((S 1092 0) - 1))))) ∧ ((S 1073 0) = 1 ∨ (S 1092 0) = 0 ∧ (g33 1075 0) = 0 ∧ ((S 1073 0) = 2 ∨ (S 1073 0) = 3)) ∧ (S 1086 0) ≤ (S 1086 0) ∧ (S 1086 0) ≤ (S 1086 0) + 110 ∧ 0 ≤ (S 1107 0) ∧ (S 1107 0) ≤ 100 ∧ sm_PT (S 67) (S 1107 0) (S 1007 0))) ∧ ((¬ (¬ (g33 1075 0) = (0 : Int))) → (sv_R (p1 + (1 : Int))) ∧ ((g33 1075 0) = 0 ∧ (S 1073 0) = 1 ∧ sm_LX (S 58) (S 63) (S 64) (S 1092 0) (g33 1076 0) ∧ sm_PL (S 1100020) (S 51) (S 52) (g33 46) (g33 47) (g33 1076 0) (S 1086 0) ∧ sm_FR (S 1100020) (S 52) (S 1100021) (S 1100022) (3000 - (S 1084 0)) (S 1085 0) ∧ sm_PV (S 1100020) (S 48) (S 49) (S 50) (g33 44) (g33 1076 0) (S 1007 0) ∧ sm_AL (S 1100020) (S 48) (S 49) (S 50) (g33 44) (g33 1076 0) (S 1100032 0) ∧ sm_SV (S 1100020) (S 48) (g33 1100029) (S 32) (S 33) (g33 1076 0) (S 1032 0) ∧ 0 ≤ (g33 1076 0) ∧ (g33 1076 0) ≤ 300 ∧ 0 ≤ (S 1084 0) ∧ (S 1084 0) ≤ 3000 ∧ 0 ≤ (S 1086 0) ∧ sm_SC (g33 1100029) (g33 44) (g33 45) (g33 43) (S 21) (g33 1076 0) (S 1032 0) ∧ sm_PO (g33 42) (g33 1076 0) ∧ (S 1100032 0) = -1 ∧ sm_FO (g33 44) (g33 45) (g33 1076 0) ∧ 23 ≤ (g33 1076 0) ∧ 31 ≤ (S 1007 0) ∧ (S 1007 0) ≤ 400 ∧ sm_LN (S 4) 400 (S 1007 0) ∧ sm_CT (S 26) (S 27) (S 28) (S 29) (S 1100007) (S 1100023) (S 1100024) (S 1100025) (S 21) (S 1046 0) (S 1032 0) (S 1008 0) (S 1055 0) ∧ sm_LS (S 26) (S 1100007) (S 1100025) (S 1046 0) ∧ sm_CL (S 1100007) (S 1100023) (S 1100025) (S 1046 0) ∧ 1 ≤ (S 1032 0) ∧ (S 1032 0) ≤ 11 ∧ 0 ≤ (S 1046 0) ∧ (S 1046 0) ≤ 600 ∧ 31 ≤ (S 1008 0) ∧ (S 1008 0) ≤ (S 1007 0) ∧ 0 ≤ (S 1055 0) ∧ (S 1055 0) ≤ 19 ∧ 1 ≤ (S 1092 0) ∧ (S 1092 0) ≤ 24 ∧ 0 ≤ (S 1100033 0) ∧ (S 1100033 0) < (S 1046 0) ∧ (S 29 (S 1100033 0)) = (S 53 ((S 1092 0) - 1)) ∧ 0 ≤ (S 53 ((S 1092 0) - 1)) ∧ (S 53 ((S 1092 0) - 1)) < (S 1032 0) ∧ (S 60 ((S 1092 0) - 1)) = sm_dp (S 1100024) (S 1100023 (S 1100033 0)) ∧ sm_TC (S 61) (S 62) (S 27) (S 1100007) (S 1100023) (S 1100024) (40 * ((S 1092 0) - 1)) (S 1100023 (S 1100033 0)) ∧ sm_LK (g33 1100029) (g33 1076 0) (S 54 ((S 1092 0) - 1)) (S 53 ((S 1092 0) - 1)) ∧ sm_VO (g33 44) (g33 1076 0) (S 1007 0) ((S 55 ((S 1092 0) - 1))) ((S 56 ((S 1092 0) - 1))) ∧ sm_FW (g33 44) (g33 1076 0) (S 59 ((S 1092 0) - 1)) ∧ sm_FL (S 53) (S 54) (S 55) (S 56) (S 57) (S 58) (S 59) (S 60) (S 61) (S 62) (S 63) (S 64) (S 27) (S 29) (S 1100007) (S 1100023) (S 1100024) (S 1100025) (S 26) (g33 1100029) (g33 44) (S 1046 0) (S 1032 0) (g33 1076 0) (S 1007 0) (((S 1092 0) - 1)) ∧ (S 57 ((S 1092 0) - 1)) = (S 1100033 0) ∧ 0 ≤ (S 58 ((S 1092 0) - 1)) ∧ (S 58 ((S 1092 0) - 1)) ≤ 400 ∧ sm_SK (S 63) (S 64) (g33 44) (S 1100007) (S 1100025) (g33 1076 0) (S 1007 0) (400 * ((S 1092 0) - 1)) ((S 58 ((S 1092 0) - 1))) ((S 1100034 0)) ∧ -1 ≤ (S 1100034 0) ∧ (S 1100034 0) < (S 1046 0) ∧ (0 ≤ (S 1100034 0) → (S 26 (S 1100034 0)) = 29) ∧ (S 58 ((S 1092 0) - 1)) = (S 1100007 (S 1100033 0)) ∧ (S 1100034 0) = (S 1100025 (S 1100033 0)) ∧ (0 ≤ (S 1100023 (S 1100033 0)) → (S 1100007 (S 1100023 (S 1100033 0))) ≤ (S 58 ((S 1092 0) - 1))) ∧ (S 58 ((S 1092 0) - 1)) ≤ 396 ∧ 1 ≤ (p1 + (1 : Int)) ∧ (p1 + (1 : Int)) ≤ (S 58 ((S 1092 0) - 1)) ∧ (0 ≤ (S 1100034 0) → (S 1100007 (S 1100034 0)) ≤ (S 58 ((S 1092 0) - 1)) - (p1 + (1 : Int))) ∧ (S 1100033 0) + 1 < (S 1046 0) ∧ (S 29 ((S 1100033 0) + 1)) = (S 29 (S 1100033 0)) ∧ (S 1100007 ((S 1100033 0) + 1)) = (S 58 ((S 1092 0) - 1)) + 1 - (p1 + (1 : Int)) ∧ (S 1100023 ((S 1100033 0) + 1)) = (S 1100023 (S 1100033 0)) ∧ (S 1100025 ((S 1100033 0) + 1)) = (S 1100034 0) ∧ (0 ≤ (S 1100023 (S 1100033 0)) → (S 1100007 (S 1100023 (S 1100033 0))) ≤ (S 58 ((S 1092 0) - 1)) - (p1 + (1 : Int))) ∧ 0 ≤ p1 ∧ p1 ≤ (p1 + (1 : Int)) - 1 ∧ (x3 + (1 : Int)) + p1 = (400 * ((S 1092 0) - 1) + (S 58 ((S 1092 0) - 1))) ∧ (∀ g : Int, 0 ≤ g → g < (S 1032 0) → 0 ≤ (S 30 g) ∧ (S 30 g) < (S 1046 0) ∧ (S 1100007 (S 30 g)) = 0 ∧ (S 1100023 (S 30 g)) = -1 ∧ 0 ≤ (S 33 g) ∧ (S 33 g) ≤ 100 ∧ 0 ≤ (S 20 g) ∧ (S 20 g) ≤ 8) ∧ sm_VN (S 32) (S 33) (S 1032 0) (S 1008 0) ∧ (∀ f : Int, 0 ≤ f → f < (S 1032 0) → 0 ≤ (S 30 f) ∧ (S 30 f) < (S 1046 0) ∧ (S 29 (S 30 f)) = f ∧ (S 1100007 (S 30 f)) = 0 ∧ (S 1100023 (S 30 f)) = -1 ∧ (S 1100025 (S 30 f)) = -1) ∧ (S 1086 0) ≤ 1900000000 ∧ 0 ≤ (S 1107 0) ∧ (S 1107 0) ≤ 100 ∧ sm_PT (S 67) (S 1107 0) (S 1007 0) ∧ sm_VO (g33 44) (g33 1076 0) (S 1007 0) ((7 : Int)) ((S 64 x3)) ∧ sm_VO (g33 44) (g33 1076 0) (S 1007 0) ((7 : Int)) (r37) ∧ sm_FW (g33 44) (g33 1076 0) r37) ∧ (0 ≤ (2 * (4 * p1 + (if (7 : Int) = 7 then 1 else 0) + (if (7 : Int) = 7 then 1 else 0)))) ∧ (0 ≤ (2 * (4 * p1 + (if (7 : Int) = 7 then 1 else 0) + (if (7 : Int) = 7 then 1 else 0)) + 20) ∧ (2 * (4 * p1 + (if (7 : Int) = 7 then 1 else 0) + (if (7 : Int) = 7 then 1 else 0)) + 20) + 1 ≤ (100 : Int)) ∧ (∀ g45 : sv_S, (sm_PL (g45 1100020) (g45 51) (g45 52) (g45 46) (g45 47) (g45 1076 0) (g45 1086 0) ∧ sm_FR (g45 1100020) (g45 52) (g45 1100021) (g45 1100022) (3000 - (g45 1084 0)) (g45 1085 0) ∧ sm_PV (g45 1100020) (g45 48) (g45 49) (g45 50) (g45 44) (g45 1076 0) (g45 1007 0) ∧ sm_AL (g45 1100020) (g45 48) (g45 49) (g45 50) (g45 44) (g45 1076 0) (g45 1100032 0) ∧ sm_SV (g45 1100020) (g45 48) (g45 1100029) (S 32) (S 33) (g45 1076 0) (S 1032 0) ∧ 0 ≤ (g45 1076 0) ∧ (g45 1076 0) ≤ 300 ∧ 0 ≤ (g45 1084 0) ∧ (g45 1084 0) ≤ 3000 ∧ 0 ≤ (g45 1086 0) ∧ sm_SC (g45 1100029) (g45 44) (g45 45) (g45 43) (S 21) (g45 1076 0) (S 1032 0) ∧ sm_PO (g45 42) (g45 1076 0) ∧ ((g45 1075 0) = 0 → (g45 1100032 0) = -1 ∧ sm_FO (g45 44) (g45 45) (g45 1076 0)) ∧ 23 ≤ (g45 1076 0) ∧ 31 ≤ (g45 1007 0) ∧ (g45 1007 0) ≤ 400 ∧ sm_LN (g45 4) 400 (g45 1007 0) ∧ (S 1008 0) ≤ (g45 1007 0) ∧ ((g33 1075 0) = 1 → (g45 1075 0) = 1) ∧ 0 ≤ (g45 1092 0) ∧ (g45 1092 0) ≤ 24 ∧ (S 1007 0) ≤ (g45 1007 0) ∧ (¬ (g45 1075 0) = 0 → sm_LX (g45 58) (g45 63) (g45 64) (g45 1092 0) (g45 1076 0)) ∧ ((g45 1075 0) = 0 → (g45 1073 0) = 1 → 1 ≤ (g45 1092 0) ∧ (g45 1092 0) ≤ 24 ∧ 0 ≤ (g45 57 ((g45 1092 0) - 1)) ∧ (g45 57 ((g45 1092 0) - 1)) < (S 1046 0) ∧ (S 29 (g45 57 ((g45 1092 0) - 1))) = (g45 53 ((g45 1092 0) - 1)) ∧ 0 ≤ (g45 53 ((g45 1092 0) - 1)) ∧ (g45 53 ((g45 1092 0) - 1)) < (S 1032 0) ∧ (g45 60 ((g45 1092 0) - 1)) = sm_dp (S 1100024) (S 1100023 (g45 57 ((g45 1092 0) - 1))) ∧ sm_TC (S 61) (S 62) (S 27) (S 1100007) (S 1100023) (S 1100024) (40 * ((g45 1092 0) - 1)) (S 1100023 (g45 57 ((g45 1092 0) - 1))) ∧ sm_LK (g45 1100029) (g45 1076 0) (g45 54 ((g45 1092 0) - 1)) (g45 53 ((g45 1092 0) - 1)) ∧ sm_VO (g45 44) (g45 1076 0) (g45 1007 0) ((g45 55 ((g45 1092 0) - 1))) ((g45 56 ((g45 1092 0) - 1))) ∧ sm_FW (g45 44) (g45 1076 0) (g45 59 ((g45 1092 0) - 1)) ∧ sm_FL (g45 53) (g45 54) (g45 55) (g45 56) (g45 57) (g45 58) (g45 59) (g45 60) (S 61) (S 62) (g45 63) (g45 64) (S 27) (S 29) (S 1100007) (S 1100023) (S 1100024) (S 1100025) (S 26) (g45 1100029) (g45 44) (S 1046 0) (S 1032 0) (g45 1076 0) (g45 1007 0) (((g45 1092 0) - 1)) ∧ (g45 58 ((g45 1092 0) - 1)) = (S 1100007 (g45 57 ((g45 1092 0) - 1))) ∧ sm_SK (g45 63) (g45 64) (g45 44) (S 1100007) (S 1100025) (g45 1076 0) (g45 1007 0) (400 * ((g45 1092 0) - 1)) ((g45 58 ((g45 1092 0) - 1))) ((S 1100025 (g45 57 ((g45 1092 0) - 1))))) ∧ ((g45 1073 0) = 1 ∨ (g45 1092 0) = 0 ∧ (g45 1075 0) = 0 ∧ ((g45 1073 0) = 2 ∨ (g45 1073 0) = 3)) ∧ (S 1086 0) ≤ (g45 1086 0) ∧ (g45 1086 0) ≤ (S 1086 0) + 110 ∧ 0 ≤ (g45 1107 0) ∧ (g45 1107 0) ≤ 100 ∧ sm_PT (g45 67) (g45 1107 0) (g45 1007 0)) → (sm_PL (g45 1100020) (g45 51) (g45 52) (g45 46) (g45 47) (g45 1076 0) (g45 1086 0) ∧ sm_FR (g45 1100020) (g45 52) (g45 1100021) (g45 1100022) (3000 - (g45 1084 0)) (g45 1085 0) ∧ sm_PV (g45 1100020) (g45 48) (g45 49) (g45 50) (g45 44) (g45 1076 0) (g45 1007 0) ∧ sm_AL (g45 1100020) (g45 48) (g45 49) (g45 50) (g45 44) (g45 1076 0) (g45 1100032 0) ∧ sm_SV (g45 1100020) (g45 48) (g45 1100029) (S 32) (S 33) (g45 1076 0) (S 1032 0) ∧ 0 ≤ (g45 1076 0) ∧ (g45 1076 0) ≤ 300 ∧ 0 ≤ (g45 1084 0) ∧ (g45 1084 0) ≤ 3000 ∧ 0 ≤ (g45 1086 0) ∧ sm_SC (g45 1100029) (g45 44) (g45 45) (g45 43) (S 21) (g45 1076 0) (S 1032 0) ∧ sm_PO (g45 42) (g45 1076 0) ∧ ((g45 1075 0) = 0 → (g45 1100032 0) = -1 ∧ sm_FO (g45 44) (g45 45) (g45 1076 0)) ∧ 23 ≤ (g45 1076 0) ∧ 31 ≤ (g45 1007 0) ∧ (g45 1007 0) ≤ 400 ∧ sm_LN (g45 4) 400 (g45 1007 0) ∧ (S 1008 0) ≤ (g45 1007 0) ∧ ((S 1075 0) = 1 → (g45 1075 0) = 1) ∧ 0 ≤ (g45 1092 0) ∧ (g45 1092 0) ≤ 24 ∧ (S 1007 0) ≤ (g45 1007 0) ∧ (¬ (g45 1075 0) = 0 → sm_LX (g45 58) (g45 63) (g45 64) (g45 1092 0) (g45 1076 0)) ∧ ((g45 1075 0) = 0 → (g45 1073 0) = 1 → 1 ≤ (g45 1092 0) ∧ (g45 1092 0) ≤ 24 ∧ 0 ≤ (g45 57 ((g45 1092 0) - 1)) ∧ (g45 57 ((g45 1092 0) - 1)) < (S 1046 0) ∧ (S 29 (g45 57 ((g45 1092 0) - 1))) = (g45 53 ((g45 1092 0) - 1)) ∧ 0 ≤ (g45 53 ((g45 1092 0) - 1)) ∧ (g45 53 ((g45 1092 0) - 1)) < (S 1032 0) ∧ (g45 60 ((g45 1092 0) - 1)) = sm_dp (S 1100024) (S 1100023 (g45 57 ((g45 1092 0) - 1))) ∧ sm_TC (S 61) (S 62) (S 27) (S 1100007) (S 1100023) (S 1100024) (40 * ((g45 1092 0) - 1)) (S 1100023 (g45 57 ((g45 1092 0) - 1))) ∧ sm_LK (g45 1100029) (g45 1076 0) (g45 54 ((g45 1092 0) - 1)) (g45 53 ((g45 1092 0) - 1)) ∧ sm_VO (g45 44) (g45 1076 0) (g45 1007 0) ((g45 55 ((g45 1092 0) - 1))) ((g45 56 ((g45 1092 0) - 1))) ∧ sm_FW (g45 44) (g45 1076 0) (g45 59 ((g45 1092 0) - 1)) ∧ sm_FL (g45 53) (g45 54) (g45 55) (g45 56) (g45 57) (g45 58) (g45 59) (g45 60) (S 61) (S 62) (g45 63) (g45 64) (S 27) (S 29) (S 1100007) (S 1100023) (S 1100024) (S 1100025) (S 26) (g45 1100029) (g45 44) (S 1046 0) (S 1032 0) (g45 1076 0) (g45 1007 0) (((g45 1092 0) - 1)) ∧ (g45 58 ((g45 1092 0) - 1)) = (S 1100007 (g45 57 ((g45 1092 0) - 1))) ∧ sm_SK (g45 63) (g45 64) (g45 44) (S 1100007) (S 1100025) (g45 1076 0) (g45 1007 0) (400 * ((g45 1092 0) - 1)) ((g45 58 ((g45 1092 0) - 1))) ((S 1100025 (g45 57 ((g45 1092 0) - 1))))) ∧ ((g45 1073 0) = 1 ∨ (g45 1092 0) = 0 ∧ (g45 1075 0) = 0 ∧ ((g45 1073 0) = 2 ∨ (g45 1073 0) = 3)) ∧ (S 1086 0) ≤ (g45 1086 0) ∧ (g45 1086 0) ≤ (S 1086 0) + 110 ∧ 0 ≤ (g45 1107 0) ∧ (g45 1107 0) ≤ 100 ∧ sm_PT (g45 67) (g45 1107 0) (g45 1007 0)))))))))) ∧ ((¬ (¬ (g19 1111 0) = (7 : Int))) → (sv_R (g19 1112 0) → (0 ≤ p2 ∧ p2 ≤ 600 ∧ 1 ≤ (S 1032 0) ∧ (S 1032 0) ≤ 4001) ∧ (∀ r56 : Int, sv_R r56 → (r56 = 29 + 6 * ((S 1032 0) - 1) + 2 * p2) → (sm_PL (S 1100020) (S 51) (S 52) (S 46) (S 47) (S 1076 0) (S 1086 0) ∧ sm_FR (S 1100020) (S 52) (S 1100021) (S 1100022) (3000 - (S 1084 0)) (S 1085 0) ∧ sm_PV (S 1100020) (S 48) (S 49) (S 50) (S 44) (S 1076 0) (S 1007 0) ∧ sm_AL (S 1100020) (S 48) (S 49) (S 50) (S 44) (S 1076 0) (S 1100032 0) ∧ sm_SV (S 1100020) (S 48) (S 1100029) (S 32) (S 33) (S 1076 0) (S 1032 0) ∧ 0 ≤ (S 1076 0) ∧ (S 1076 0) ≤ 300 ∧ 0 ≤ (S 1084 0) ∧ (S 1084 0) ≤ 3000 ∧ 0 ≤ (S 1086 0) ∧ sm_SC (S 1100029) (S 44) (S 45) (S 43) (S 21) (S 1076 0) (S 1032 0) ∧ sm_PO (S 42) (S 1076 0) ∧ ((g19 1112 0) = -1 ∨ (0 ≤ (g19 1112 0) ∧ (g19 1112 0) < (S 1076 0)) ∨ ((S 1076 0) = 0 ∧ (g19 1112 0) = 1)) ∧ ((S 1076 0) = 1 → (g19 1112 0) = -1) ∧ 0 ≤ r56 ∧ r56 ≤ 1000 ∧ 0 ≤ (0 : Int) ∧ (0 : Int) ≤ 3 ∧ ((0 : Int) = 2 → (S 1100032 0) = (S 1076 0))) ∧ (∀ r62 : Int, sv_R r62 → ∀ g58 : sv_S, (sm_PL (S 1100020) (S 51) (S 52) (g58 46) (g58 47) (g58 1076 0) (S 1086 0) ∧ sm_FR (S 1100020) (S 52) (S 1100021) (S 1100022) (3000 - (S 1084 0)) (S 1085 0) ∧ sm_PV (S 1100020) (S 48) (S 49) (S 50) (g58 44) (g58 1076 0) (S 1007 0) ∧ sm_AL (S 1100020) (S 48) (S 49) (S 50) (g58 44) (g58 1076 0) (S 1100032 0) ∧ sm_SV (S 1100020) (S 48) (g58 1100029) (S 32) (S 33) (g58 1076 0) (S 1032 0) ∧ 0 ≤ (g58 1076 0) ∧ (g58 1076 0) ≤ 300 ∧ 0 ≤ (S 1084 0) ∧ (S 1084 0) ≤ 3000 ∧ 0 ≤ (S 1086 0) ∧ sm_SC (g58 1100029) (g58 44) (g58 45) (g58 43) (S 21) (g58 1076 0) (S 1032 0) ∧ sm_PO (g58 42) (g58 1076 0) ∧ 0 ≤ r62 ∧ r62 < (g58 1076 0) ∧ ((S 1075 0) = 1 → (g58 1075 0) = 1) ∧ (S 1076 0) ≤ (g58 1076 0) ∧ sm_F1 (S 44) (g58 44) (S 1076 0) ∧ sm_F1 (S 1100029) (g58 1100029) (S 1076 0) ∧ sm_F1 (S 42) (g58 42) (S 1076 0) ∧ sm_F1 (S 43) (g58 43) (S 1076 0) ∧ sm_F1 (S 45) (g58 45) (S 1076 0) ∧ ((g58 1075 0) = 0 → r62 = (S 1076 0) ∧ (g58 1076 0) = r62 + 1 ∧ (g58 44 r62) = (0 : Int) ∧ (g58 1100029 r62) = 0 ∧ (g58 45 r62) = 0 ∧ (g58 43 r62) = -1 ∧ (g58 42 r62) = (g19 1112 0)) ∧ ((g58 1076 0) = (S 1076 0) → r62 = 0) ∧ ((g58 1075 0) = 1 → (S 1075 0) = 0 → (g58 1076 0) = (S 1076 0)) ∧ (sm_FO (S 44) (S 45) (S 1076 0) → (¬ (0 : Int) = 1 ∨ (9 ≤ (S 1076 0) ∧ (S 1076 0) < 23)) → (1 ≤ (S 1076 0) ∨ ((S 1076 0) = 0 ∧ (0 : Int) = 0)) → sm_FO (g58 44) (g58 45) (g58 1076 0)) ∧ ((S 1076 0) < 300 → (g58 1075 0) = (S 1075 0) ∧ (g58 1076 0) = (S 1076 0) + 1)) → ((0 ≤ r62 → r62 < (g58 1076 0) → ¬ (g58 44 r62) = 3 → sm_VO (g58 44) (g58 1076 0) (S 1007 0) (7) (r62)) → ((0 ≤ (g58 1075 0) ∧ (g58 1075 0) ≤ 1) → (((¬ (g58 1075 0) = (0 : Int)) → (sm_PL (S 1100020) (S 51) (S 52) (g58 46) (g58 47) (g58 1076 0) (S 1086 0) ∧ sm_FR (S 1100020) (S 52) (S 1100021) (S 1100022) (3000 - (S 1084 0)) (S 1085 0) ∧ sm_PV (S 1100020) (S 48) (S 49) (S 50) (g58 44) (g58 1076 0) (S 1007 0) ∧ sm_AL (S 1100020) (S 48) (S 49) (S 50) (g58 44) (g58 1076 0) (S 1100032 0) ∧ sm_SV (S 1100020) (S 48) (g58 1100029) (S 32) (S 33) (g58 1076 0) (S 1032 0) ∧ 0 ≤ (g58 1076 0) ∧ (g58 1076 0) ≤ 300 ∧ 0 ≤ (S 1084 0) ∧ (S 1084 0) ≤ 3000 ∧ 0 ≤ (S 1086 0) ∧ sm_SC (g58 1100029) (g58 44) (g58 45) (g58 43) (S 21) (g58 1076 0) (S 1032 0) ∧ sm_PO (g58 42) (g58 1076 0) ∧ ((g58 1075 0) = 0 → (S 1100032 0) = -1 ∧ sm_FO (g58 44) (g58 45) (g58 1076 0)) ∧ 23 ≤ (g58 1076 0) ∧ 31 ≤ (S 1007 0) ∧ (S 1007 0) ≤ 400 ∧ sm_LN (S 4) 400 (S 1007 0) ∧ (S 1008 0) ≤ (S 1007 0) ∧ ((S 1075 0) = 1 → (g58 1075 0) = 1) ∧ 0 ≤ (S 1092 0) ∧ (S 1092 0) ≤ 24 ∧ (S 1007 0) ≤ (S 1007 0) ∧ (¬ (g58 1075 0) = 0 → sm_LX (S 58) (S 63) (S 64) (S 1092 0) (g58 1076 0)) ∧ ((g58 1075 0) = 0 → (S 1073 0) = 1 → 1 ≤ (S 1092 0) ∧ (S 1092 0) ≤ 24 ∧ 0 ≤ (S 57 ((S 1092 0) - 1)) ∧ (S 57 ((S 1092 0) - 1)) < (S 1046 0) ∧ (S 29 (S 57 ((S 1092 0) - 1))) = (S 53 ((S 1092 0) - 1)) ∧ 0 ≤ (S 53 ((S 1092 0) - 1)) ∧ (S 53 ((S 1092 0) - 1)) < (S 1032 0) ∧ (S 60 ((S 1092 0) - 1)) = sm_dp (S 1100024) (S 1100023 (S 57 ((S 1092 0) - 1))) ∧ sm_TC (S 61) (S 62) (S 27) (S 1100007) (S 1100023) (S 1100024) (40 * ((S 1092 0) - 1)) (S 1100023 (S 57 ((S 1092 0) - 1))) ∧ sm_LK (g58 1100029) (g58 1076 0) (S 54 ((S 1092 0) - 1)) (S 53 ((S 1092 0) - 1)) ∧ sm_VO (g58 44) (g58 1076 0) (S 1007 0) ((S 55 ((S 1092 0) - 1))) ((S 56 ((S 1092 0) - 1))) ∧ sm_FW (g58 44) (g58 1076 0) (S 59 ((S 1092 0) - 1)) ∧ sm_FL (S 53) (S 54) (S 55) (S 56) (S 57) (S 58) (S 59) (S 60) (S 61) (S 62) (S 63) (S 64) (S 27) (S 29) (S 1100007) (S 1100023) (S 1100024) (S 1100025) (S 26) (g58 1100029) (g58 44) (S 1046 0) (S 1032 0) (g58 1076 0) (S 1007 0) (((S 1092 0) - 1)) ∧ (S 58 ((S 1092 0) - 1)) = (S 1100007 (S 57 ((S 1092 0) - 1))) ∧ sm_SK (S 63) (S 64) (g58 44) (S 1100007) (S 1100025) (g58 1076 0) (S 1007 0) (400 * ((S 1092 0) - 1)) ((S 58 ((S 1092 0) - 1))) ((S 1100025 (S 57 ((S 1092 0) - 1))))) ∧ ((S 1073 0) = 1 ∨ (S 1092 0) = 0 ∧ (g58 1075 0) = 0 ∧ ((S 1073 0) = 2 ∨ (S 1073 0) = 3)) ∧ (S 1086 0) ≤ (S 1086 0) ∧ (S 1086 0) ≤ (S 1086 0) + 110 ∧ 0 ≤ (S 1107 0) ∧ (S 1107 0) ≤ 100 ∧ sm_PT (S 67) (S 1107 0) (S 1007 0))) ∧ ((¬ (¬ (g58 1075 0) = (0 : Int))) → (sv_R (p1 + (1 : Int))) ∧ ((g58 1075 0) = 0 ∧ (S 1073 0) = 1 ∧ sm_LX (S 58) (S 63) (S 64) (S 1092 0) (g58 1076 0) ∧ sm_PL (S 1100020) (S 51) (S 52) (g58 46) (g58 47) (g58 1076 0) (S 1086 0) ∧ sm_FR (S 1100020) (S 52) (S 1100021) (S 1100022) (3000 - (S 1084 0)) (S 1085 0) ∧ sm_PV (S 1100020) (S 48) (S 49) (S 50) (g58 44) (g58 1076 0) (S 1007 0) ∧ sm_AL (S 1100020) (S 48) (S 49) (S 50) (g58 44) (g58 1076 0) (S 1100032 0) ∧ sm_SV (S 1100020) (S 48) (g58 1100029) (S 32) (S 33) (g58 1076 0) (S 1032 0) ∧ 0 ≤ (g58 1076 0) ∧ (g58 1076 0) ≤ 300 ∧ 0 ≤ (S 1084 0) ∧ (S 1084 0) ≤ 3000 ∧ 0 ≤ (S 1086 0) ∧ sm_SC (g58 1100029) (g58 44) (g58 45) (g58 43) (S 21) (g58 1076 0) (S 1032 0) ∧ sm_PO (g58 42) (g58 1076 0) ∧ (S 1100032 0) = -1 ∧ sm_FO (g58 44) (g58 45) (g58 1076 0) ∧ 23 ≤ (g58 1076 0) ∧ 31 ≤ (S 1007 0) ∧ (S 1007 0) ≤ 400 ∧ sm_LN (S 4) 400 (S 1007 0) ∧ sm_CT (S 26) (S 27) (S 28) (S 29) (S 1100007) (S 1100023) (S 1100024) (S 1100025) (S 21) (S 1046 0) (S 1032 0) (S 1008 0) (S 1055 0) ∧ sm_LS (S 26) (S 1100007) (S 1100025) (S 1046 0) ∧ sm_CL (S 1100007) (S 1100023) (S 1100025) (S 1046 0) ∧ 1 ≤ (S 1032 0) ∧ (S 1032 0) ≤ 11 ∧ 0 ≤ (S 1046 0) ∧ (S 1046 0) ≤ 600 ∧ 31 ≤ (S 1008 0) ∧ (S 1008 0) ≤ (S 1007 0) ∧ 0 ≤ (S 1055 0) ∧ (S 1055 0) ≤ 19 ∧ 1 ≤ (S 1092 0) ∧ (S 1092 0) ≤ 24 ∧ 0 ≤ (S 1100033 0) ∧ (S 1100033 0) < (S 1046 0) ∧ (S 29 (S 1100033 0)) = (S 53 ((S 1092 0) - 1)) ∧ 0 ≤ (S 53 ((S 1092 0) - 1)) ∧ (S 53 ((S 1092 0) - 1)) < (S 1032 0) ∧ (S 60 ((S 1092 0) - 1)) = sm_dp (S 1100024) (S 1100023 (S 1100033 0)) ∧ sm_TC (S 61) (S 62) (S 27) (S 1100007) (S 1100023) (S 1100024) (40 * ((S 1092 0) - 1)) (S 1100023 (S 1100033 0)) ∧ sm_LK (g58 1100029) (g58 1076 0) (S 54 ((S 1092 0) - 1)) (S 53 ((S 1092 0) - 1)) ∧ sm_VO (g58 44) (g58 1076 0) (S 1007 0) ((S 55 ((S 1092 0) - 1))) ((S 56 ((S 1092 0) - 1))) ∧ sm_FW (g58 44) (g58 1076 0) (S 59 ((S 1092 0) - 1)) ∧ sm_FL (S 53) (S 54) (S 55) (S 56) (S 57) (S 58) (S 59) (S 60) (S 61) (S 62) (S 63) (S 64) (S 27) (S 29) (S 1100007) (S 1100023) (S 1100024) (S 1100025) (S 26) (g58 1100029) (g58 44) (S 1046 0) (S 1032 0) (g58 1076 0) (S 1007 0) (((S 1092 0) - 1)) ∧ (S 57 ((S 1092 0) - 1)) = (S 1100033 0) ∧ 0 ≤ (S 58 ((S 1092 0) - 1)) ∧ (S 58 ((S 1092 0) - 1)) ≤ 400 ∧ sm_SK (S 63) (S 64) (g58 44) (S 1100007) (S 1100025) (g58 1076 0) (S 1007 0) (400 * ((S 1092 0) - 1)) ((S 58 ((S 1092 0) - 1))) ((S 1100034 0)) ∧ -1 ≤ (S 1100034 0) ∧ (S 1100034 0) < (S 1046 0) ∧ (0 ≤ (S 1100034 0) → (S 26 (S 1100034 0)) = 29) ∧ (S 58 ((S 1092 0) - 1)) = (S 1100007 (S 1100033 0)) ∧ (S 1100034 0) = (S 1100025 (S 1100033 0)) ∧ (0 ≤ (S 1100023 (S 1100033 0)) → (S 1100007 (S 1100023 (S 1100033 0))) ≤ (S 58 ((S 1092 0) - 1))) ∧ (S 58 ((S 1092 0) - 1)) ≤ 396 ∧ 1 ≤ (p1 + (1 : Int)) ∧ (p1 + (1 : Int)) ≤ (S 58 ((S 1092 0) - 1)) ∧ (0 ≤ (S 1100034 0) → (S 1100007 (S 1100034 0)) ≤ (S 58 ((S 1092 0) - 1)) - (p1 + (1 : Int))) ∧ (S 1100033 0) + 1 < (S 1046 0) ∧ (S 29 ((S 1100033 0) + 1)) = (S 29 (S 1100033 0)) ∧ (S 1100007 ((S 1100033 0) + 1)) = (S 58 ((S 1092 0) - 1)) + 1 - (p1 + (1 : Int)) ∧ (S 1100023 ((S 1100033 0) + 1)) = (S 1100023 (S 1100033 0)) ∧ (S 1100025 ((S 1100033 0) + 1)) = (S 1100034 0) ∧ (0 ≤ (S 1100023 (S 1100033 0)) → (S 1100007 (S 1100023 (S 1100033 0))) ≤ (S 58 ((S 1092 0) - 1)) - (p1 + (1 : Int))) ∧ 0 ≤ p1 ∧ p1 ≤ (p1 + (1 : Int)) - 1 ∧ (x3 + (1 : Int)) + p1 = (400 * ((S 1092 0) - 1) + (S 58 ((S 1092 0) - 1))) ∧ (∀ g : Int, 0 ≤ g → g < (S 1032 0) → 0 ≤ (S 30 g) ∧ (S 30 g) < (S 1046 0) ∧ (S 1100007 (S 30 g)) = 0 ∧ (S 1100023 (S 30 g)) = -1 ∧ 0 ≤ (S 33 g) ∧ (S 33 g) ≤ 100 ∧ 0 ≤ (S 20 g) ∧ (S 20 g) ≤ 8) ∧ sm_VN (S 32) (S 33) (S 1032 0) (S 1008 0) ∧ (∀ f : Int, 0 ≤ f → f < (S 1032 0) → 0 ≤ (S 30 f) ∧ (S 30 f) < (S 1046 0) ∧ (S 29 (S 30 f)) = f ∧ (S 1100007 (S 30 f)) = 0 ∧ (S 1100023 (S 30 f)) = -1 ∧ (S 1100025 (S 30 f)) = -1) ∧ (S 1086 0) ≤ 1900000000 ∧ 0 ≤ (S 1107 0) ∧ (S 1107 0) ≤ 100 ∧ sm_PT (S 67) (S 1107 0) (S 1007 0) ∧ sm_VO (g58 44) (g58 1076 0) (S 1007 0) ((7 : Int)) ((S 64 x3)) ∧ sm_VO (g58 44) (g58 1076 0) (S 1007 0) ((7 : Int)) (r62) ∧ sm_FW (g58 44) (g58 1076 0) r62) ∧ (0 ≤ (2 * (4 * p1 + (if (7 : Int) = 7 then 1 else 0) + (if (7 : Int) = 7 then 1 else 0)))) ∧ (0 ≤ (2 * (4 * p1 + (if (7 : Int) = 7 then 1 else 0) + (if (7 : Int) = 7 then 1 else 0)) + 20) ∧ (2 * (4 * p1 + (if (7 : Int) = 7 then 1 else 0) + (if (7 : Int) = 7 then 1 else 0)) + 20) + 1 ≤ (100 : Int)) ∧ (∀ g70 : sv_S, (sm_PL (g70 1100020) (g70 51) (g70 52) (g70 46) (g70 47) (g70 1076 0) (g70 1086 0) ∧ sm_FR (g70 1100020) (g70 52) (g70 1100021) (g70 1100022) (3000 - (g70 1084 0)) (g70 1085 0) ∧ sm_PV (g70 1100020) (g70 48) (g70 49) (g70 50) (g70 44) (g70 1076 0) (g70 1007 0) ∧ sm_AL (g70 1100020) (g70 48) (g70 49) (g70 50) (g70 44) (g70 1076 0) (g70 1100032 0) ∧ sm_SV (g70 1100020) (g70 48) (g70 1100029) (S 32) (S 33) (g70 1076 0) (S 1032 0) ∧ 0 ≤ (g70 1076 0) ∧ (g70 1076 0) ≤ 300 ∧ 0 ≤ (g70 1084 0) ∧ (g70 1084 0) ≤ 3000 ∧ 0 ≤ (g70 1086 0) ∧ sm_SC (g70 1100029) (g70 44) (g70 45) (g70 43) (S 21) (g70 1076 0) (S 1032 0) ∧ sm_PO (g70 42) (g70 1076 0) ∧ ((g70 1075 0) = 0 → (g70 1100032 0) = -1 ∧ sm_FO (g70 44) (g70 45) (g70 1076 0)) ∧ 23 ≤ (g70 1076 0) ∧ 31 ≤ (g70 1007 0) ∧ (g70 1007 0) ≤ 400 ∧ sm_LN (g70 4) 400 (g70 1007 0) ∧ (S 1008 0) ≤ (g70 1007 0) ∧ ((g58 1075 0) = 1 → (g70 1075 0) = 1) ∧ 0 ≤ (g70 1092 0) ∧ (g70 1092 0) ≤ 24 ∧ (S 1007 0) ≤ (g70 1007 0) ∧ (¬ (g70 1075 0) = 0 → sm_LX (g70 58) (g70 63) (g70 64) (g70 1092 0) (g70 1076 0)) ∧ ((g70 1075 0) = 0 → (g70 1073 0) = 1 → 1 ≤ (g70 1092 0) ∧ (g70 1092 0) ≤ 24 ∧ 0 ≤ (g70 57 ((g70 1092 0) - 1)) ∧ (g70 57 ((g70 1092 0) - 1)) < (S 1046 0) ∧ (S 29 (g70 57 ((g70 1092 0) - 1))) = (g70 53 ((g70 1092 0) - 1)) ∧ 0 ≤ (g70 53 ((g70 1092 0) - 1)) ∧ (g70 53 ((g70 1092 0) - 1)) < (S 1032 0) ∧ (g70 60 ((g70 1092 0) - 1)) = sm_dp (S 1100024) (S 1100023 (g70 57 ((g70 1092 0) - 1))) ∧ sm_TC (S 61) (S 62) (S 27) (S 1100007) (S 1100023) (S 1100024) (40 * ((g70 1092 0) - 1)) (S 1100023 (g70 57 ((g70 1092 0) - 1))) ∧ sm_LK (g70 1100029) (g70 1076 0) (g70 54 ((g70 1092 0) - 1)) (g70 53 ((g70 1092 0) - 1)) ∧ sm_VO (g70 44) (g70 1076 0) (g70 1007 0) ((g70 55 ((g70 1092 0) - 1))) ((g70 56 ((g70 1092 0) - 1))) ∧ sm_FW (g70 44) (g70 1076 0) (g70 59 ((g70 1092 0) - 1)) ∧ sm_FL (g70 53) (g70 54) (g70 55) (g70 56) (g70 57) (g70 58) (g70 59) (g70 60) (S 61) (S 62) (g70 63) (g70 64) (S 27) (S 29) (S 1100007) (S 1100023) (S 1100024) (S 1100025) (S 26) (g70 1100029) (g70 44) (S 1046 0) (S 1032 0) (g70 1076 0) (g70 1007 0) (((g70 1092 0) - 1)) ∧ (g70 58 ((g70 1092 0) - 1)) = (S 1100007 (g70 57 ((g70 1092 0) - 1))) ∧ sm_SK (g70 63) (g70 64) (g70 44) (S 1100007) (S 1100025) (g70 1076 0) (g70 1007 0) (400 * ((g70 1092 0) - 1)) ((g70 58 ((g70 1092 0) - 1))) ((S 1100025 (g70 57 ((g70 1092 0) - 1))))) ∧ ((g70 1073 0) = 1 ∨ (g70 1092 0) = 0 ∧ (g70 1075 0) = 0 ∧ ((g70 1073 0) = 2 ∨ (g70 1073 0) = 3)) ∧ (S 1086 0) ≤ (g70 1086 0) ∧ (g70 1086 0) ≤ (S 1086 0) + 110 ∧ 0 ≤ (g70 1107 0) ∧ (g70 1107 0) ≤ 100 ∧ sm_PT (g70 67) (g70 1107 0) (g70 1007 0)) → (sm_PL (g70 1100020) (g70 51) (g70 52) (g70 46) (g70 47) (g70 1076 0) (g70 1086 0) ∧ sm_FR (g70 1100020) (g70 52) (g70 1100021) (g70 1100022) (3000 - (g70 1084 0)) (g70 1085 0) ∧ sm_PV (g70 1100020) (g70 48) (g70 49) (g70 50) (g70 44) (g70 1076 0) (g70 1007 0) ∧ sm_AL (g70 1100020) (g70 48) (g70 49) (g70 50) (g70 44) (g70 1076 0) (g70 1100032 0) ∧ sm_SV (g70 1100020) (g70 48) (g70 1100029) (S 32) (S 33) (g70 1076 0) (S 1032 0) ∧ 0 ≤ (g70 1076 0) ∧ (g70 1076 0) ≤ 300 ∧ 0 ≤ (g70 1084 0) ∧ (g70 1084 0) ≤ 3000 ∧ 0 ≤ (g70 1086 0) ∧ sm_SC (g70 1100029) (g70 44) (g70 45) (g70 43) (S 21) (g70 1076 0) (S 1032 0) ∧ sm_PO (g70 42) (g70 1076 0) ∧ ((g70 1075 0) = 0 → (g70 1100032 0) = -1 ∧ sm_FO (g70 44) (g70 45) (g70 1076 0)) ∧ 23 ≤ (g70 1076 0) ∧ 31 ≤ (g70 1007 0) ∧ (g70 1007 0) ≤ 400 ∧ sm_LN (g70 4) 400 (g70 1007 0) ∧ (S 1008 0) ≤ (g70 1007 0) ∧ ((S 1075 0) = 1 → (g70 1075 0) = 1) ∧ 0 ≤ (g70 1092 0) ∧ (g70 1092 0) ≤ 24 ∧ (S 1007 0) ≤ (g70 1007 0) ∧ (¬ (g70 1075 0) = 0 → sm_LX (g70 58) (g70 63) (g70 64) (g70 1092 0) (g70 1076 0)) ∧ ((g70 1075 0) = 0 → (g70 1073 0) = 1 → 1 ≤ (g70 1092 0) ∧ (g70 1092 0) ≤ 24 ∧ 0 ≤ (g70 57 ((g70 1092 0) - 1)) ∧ (g70 57 ((g70 1092 0) - 1)) < (S 1046 0) ∧ (S 29 (g70 57 ((g70 1092 0) - 1))) = (g70 53 ((g70 1092 0) - 1)) ∧ 0 ≤ (g70 53 ((g70 1092 0) - 1)) ∧ (g70 53 ((g70 1092 0) - 1)) < (S 1032 0) ∧ (g70 60 ((g70 1092 0) - 1)) = sm_dp (S 1100024) (S 1100023 (g70 57 ((g70 1092 0) - 1))) ∧ sm_TC (S 61) (S 62) (S 27) (S 1100007) (S 1100023) (S 1100024) (40 * ((g70 1092 0) - 1)) (S 1100023 (g70 57 ((g70 1092 0) - 1))) ∧ sm_LK (g70 1100029) (g70 1076 0) (g70 54 ((g70 1092 0) - 1)) (g70 53 ((g70 1092 0) - 1)) ∧ sm_VO (g70 44) (g70 1076 0) (g70 1007 0) ((g70 55 ((g70 1092 0) - 1))) ((g70 56 ((g70 1092 0) - 1))) ∧ sm_FW (g70 44) (g70 1076 0) (g70 59 ((g70 1092 0) - 1)) ∧ sm_FL (g70 53) (g70 54) (g70 55) (g70 56) (g70 57) (g70 58) (g70 59) (g70 60) (S 61) (S 62) (g70 63) (g70 64) (S 27) (S 29) (S 1100007) (S 1100023) (S 1100024) (S 1100025) (S 26) (g70 1100029) (g70 44) (S 1046 0) (S 1032 0) (g70 1076 0) (g70 1007 0) (((g70 1092 0) - 1)) ∧ (g70 58 ((g70 1092 0) - 1)) = (S 1100007 (g70 57 ((g70 1092 0) - 1))) ∧ sm_SK (g70 63) (g70 64) (g70 44) (S 1100007) (S 1100025) (g70 1076 0) (g70 1007 0) (400 * ((g70 1092 0) - 1)) ((g70 58 ((g70 1092 0) - 1))) ((S 1100025 (g70 57 ((g70 1092 0) - 1))))) ∧ ((g70 1073 0) = 1 ∨ (g70 1092 0) = 0 ∧ (g70 1075 0) = 0 ∧ ((g70 1073 0) = 2 ∨ (g70 1073 0) = 3)) ∧ (S 1086 0) ≤ (g70 1086 0) ∧ (g70 1086 0) ≤ (S 1086 0) + 110 ∧ 0 ≤ (g70 1107 0) ∧ (g70 1107 0) ≤ 100 ∧ sm_PT (g70 67) (g70 1107 0) (g70 1007 0)))))))))))))))) ∧ ((¬ (¬ (S 45 (S 64 x3)) = (0 : Int))) → (sv_R (p1 + (1 : Int))) ∧ ((S 1075 0) = 0 ∧ (S 1073 0) = 1 ∧ sm_LX (S 58) (S 63) (S 64) (S 1092 0) (S 1076 0) ∧ sm_PL (S 1100020) (S 51) (S 52) (S 46) (S 47) (S 1076 0) (S 1086 0) ∧ sm_FR (S 1100020) (S 52) (S 1100021) (S 1100022) (3000 - (S 1084 0)) (S 1085 0) ∧ sm_PV (S 1100020) (S 48) (S 49) (S 50) (S 44) (S 1076 0) (S 1007 0) ∧ sm_AL (S 1100020) (S 48) (S 49) (S 50) (S 44) (S 1076 0) (S 1100032 0) ∧ sm_SV (S 1100020) (S 48) (S 1100029) (S 32) (S 33) (S 1076 0) (S 1032 0) ∧ 0 ≤ (S 1076 0) ∧ (S 1076 0) ≤ 300 ∧ 0 ≤ (S 1084 0) ∧ (S 1084 0) ≤ 3000 ∧ 0 ≤ (S 1086 0) ∧ sm_SC (S 1100029) (S 44) (S 45) (S 43) (S 21) (S 1076 0) (S 1032 0) ∧ sm_PO (S 42) (S 1076 0) ∧ (S 1100032 0) = -1 ∧ sm_FO (S 44) (S 45) (S 1076 0) ∧ 23 ≤ (S 1076 0) ∧ 31 ≤ (S 1007 0) ∧ (S 1007 0) ≤ 400 ∧ sm_LN (S 4) 400 (S 1007 0) ∧ sm_CT (S 26) (S 27) (S 28) (S 29) (S 1100007) (S 1100023) (S 1100024) (S 1100025) (S 21) (S 1046 0) (S 1032 0) (S 1008 0) (S 1055 0) ∧ sm_LS (S 26) (S 1100007) (S 1100025) (S 1046 0) ∧ sm_CL (S 1100007) (S 1100023) (S 1100025) (S 1046 0) ∧ 1 ≤ (S 1032 0) ∧ (S 1032 0) ≤ 11 ∧ 0 ≤ (S 1046 0) ∧ (S 1046 0) ≤ 600 ∧ 31 ≤ (S 1008 0) ∧ (S 1008 0) ≤ (S 1007 0) ∧ 0 ≤ (S 1055 0) ∧ (S 1055 0) ≤ 19 ∧ 1 ≤ (S 1092 0) ∧ (S 1092 0) ≤ 24 ∧ 0 ≤ (S 1100033 0) ∧ (S 1100033 0) < (S 1046 0) ∧ (S 29 (S 1100033 0)) = (S 53 ((S 1092 0) - 1)) ∧ 0 ≤ (S 53 ((S 1092 0) - 1)) ∧ (S 53 ((S 1092 0) - 1)) < (S 1032 0) ∧ (S 60 ((S 1092 0) - 1)) = sm_dp (S 1100024) (S 1100023 (S 1100033 0)) ∧ sm_TC (S 61) (S 62) (S 27) (S 1100007) (S 1100023) (S 1100024) (40 * ((S 1092 0) - 1)) (S 1100023 (S 1100033 0)) ∧ sm_LK (S 1100029) (S 1076 0) (S 54 ((S 1092 0) - 1)) (S 53 ((S 1092 0) - 1)) ∧ sm_VO (S 44) (S 1076 0) (S 1007 0) ((S 55 ((S 1092 0) - 1))) ((S 56 ((S 1092 0) - 1))) ∧ sm_FW (S 44) (S 1076 0) (S 59 ((S 1092 0) - 1)) ∧ sm_FL (S 53) (S 54) (S 55) (S 56) (S 57) (S 58) (S 59) (S 60) (S 61) (S 62) (S 63) (S 64) (S 27) (S 29) (S 1100007) (S 1100023) (S 1100024) (S 1100025) (S 26) (S 1100029) (S 44) (S 1046 0) (S 1032 0) (S 1076 0) (S 1007 0) (((S 1092 0) - 1)) ∧ (S 57 ((S 1092 0) - 1)) = (S 1100033 0) ∧ 0 ≤ (S 58 ((S 1092 0) - 1)) ∧ (S 58 ((S 1092 0) - 1)) ≤ 400 ∧ sm_SK (S 63) (S 64) (S 44) (S 1100007) (S 1100025) (S 1076 0) (S 1007 0) (400 * ((S 1092 0) - 1)) ((S 58 ((S 1092 0) - 1))) ((S 1100034 0)) ∧ -1 ≤ (S 1100034 0) ∧ (S 1100034 0) < (S 1046 0) ∧ (0 ≤ (S 1100034 0) → (S 26 (S 1100034 0)) = 29) ∧ (S 58 ((S 1092 0) - 1)) = (S 1100007 (S 1100033 0)) ∧ (S 1100034 0) = (S 1100025 (S 1100033 0)) ∧ (0 ≤ (S 1100023 (S 1100033 0)) → (S 1100007 (S 1100023 (S 1100033 0))) ≤ (S 58 ((S 1092 0) - 1))) ∧ (S 58 ((S 1092 0) - 1)) ≤ 396 ∧ 1 ≤ (p1 + (1 : Int)) ∧ (p1 + (1 : Int)) ≤ (S 58 ((S 1092 0) - 1)) ∧ (0 ≤ (S 1100034 0) → (S 1100007 (S 1100034 0)) ≤ (S 58 ((S 1092 0) - 1)) - (p1 + (1 : Int))) ∧ (S 1100033 0) + 1 < (S 1046 0) ∧ (S 29 ((S 1100033 0) + 1)) = (S 29 (S 1100033 0)) ∧ (S 1100007 ((S 1100033 0) + 1)) = (S 58 ((S 1092 0) - 1)) + 1 - (p1 + (1 : Int)) ∧ (S 1100023 ((S 1100033 0) + 1)) = (S 1100023 (S 1100033 0)) ∧ (S 1100025 ((S 1100033 0) + 1)) = (S 1100034 0) ∧ (0 ≤ (S 1100023 (S 1100033 0)) → (S 1100007 (S 1100023 (S 1100033 0))) ≤ (S 58 ((S 1092 0) - 1)) - (p1 + (1 : Int))) ∧ 0 ≤ p1 ∧ p1 ≤ (p1 + (1 : Int)) - 1 ∧ (x3 + (1 : Int)) + p1 = (400 * ((S 1092 0) - 1) + (S 58 ((S 1092 0) - 1))) ∧ (∀ g : Int, 0 ≤ g → g < (S 1032 0) → 0 ≤ (S 30 g) ∧ (S 30 g) < (S 1046 0) ∧ (S 1100007 (S 30 g)) = 0 ∧ (S 1100023 (S 30 g)) = -1 ∧ 0 ≤ (S 33 g) ∧ (S 33 g) ≤ 100 ∧ 0 ≤ (S 20 g) ∧ (S 20 g) ≤ 8) ∧ sm_VN (S 32) (S 33) (S 1032 0) (S 1008 0) ∧ (∀ f : Int, 0 ≤ f → f < (S 1032 0) → 0 ≤ (S 30 f) ∧ (S 30 f) < (S 1046 0) ∧ (S 29 (S 30 f)) = f ∧ (S 1100007 (S 30 f)) = 0 ∧ (S 1100023 (S 30 f)) = -1 ∧ (S 1100025 (S 30 f)) = -1) ∧ (S 1086 0) ≤ 1900000000 ∧ sm_VO (S 44) (S 1076 0) (S 1007 0) ((0 : Int)) ((0 : Int)) ∧ 9 ≤ (S 64 x3) ∧ (S 64 x3) ≤ 22 ∧ ¬ (S 64 x3) = 20 ∧ 0 ≤ (S 1107 0) ∧ (S 1107 0) ≤ 100 ∧ sm_PT (S 67) (S 1107 0) (S 1007 0)) ∧ (∀ g77 : sv_S, (sm_PL (g77 1100020) (g77 51) (g77 52) (g77 46) (g77 47) (g77 1076 0) (g77 1086 0) ∧ sm_FR (g77 1100020) (g77 52) (g77 1100021) (g77 1100022) (3000 - (g77 1084 0)) (g77 1085 0) ∧ sm_PV (g77 1100020) (g77 48) (g77 49) (g77 50) (g77 44) (g77 1076 0) (g77 1007 0) ∧ sm_AL (g77 1100020) (g77 48) (g77 49) (g77 50) (g77 44) (g77 1076 0) (g77 1100032 0) ∧ sm_SV (g77 1100020) (g77 48) (g77 1100029) (S 32) (S 33) (g77 1076 0) (S 1032 0) ∧ 0 ≤ (g77 1076 0) ∧ (g77 1076 0) ≤ 300 ∧ 0 ≤ (g77 1084 0) ∧ (g77 1084 0) ≤ 3000 ∧ 0 ≤ (g77 1086 0) ∧ sm_SC (g77 1100029) (g77 44) (g77 45) (g77 43) (S 21) (g77 1076 0) (S 1032 0) ∧ sm_PO (g77 42) (g77 1076 0) ∧ ((g77 1075 0) = 0 → (g77 1100032 0) = -1 ∧ sm_FO (g77 44) (g77 45) (g77 1076 0)) ∧ 23 ≤ (g77 1076 0) ∧ 31 ≤ (g77 1007 0) ∧ (g77 1007 0) ≤ 400 ∧ sm_LN (g77 4) 400 (g77 1007 0) ∧ (S 1008 0) ≤ (g77 1007 0) ∧ ((S 1075 0) = 1 → (g77 1075 0) = 1) ∧ 0 ≤ (g77 1092 0) ∧ (g77 1092 0) ≤ 24 ∧ (S 1007 0) ≤ (g77 1007 0) ∧ (¬ (g77 1075 0) = 0 → sm_LX (g77 58) (g77 63) (g77 64) (g77 1092 0) (g77 1076 0)) ∧ ((g77 1075 0) = 0 → (g77 1073 0) = 1 → 1 ≤ (g77 1092 0) ∧ (g77 1092 0) ≤ 24 ∧ 0 ≤ (g77 57 ((g77 1092 0) - 1)) ∧ (g77 57 ((g77 1092 0) - 1)) < (S 1046 0) ∧ (S 29 (g77 57 ((g77 1092 0) - 1))) = (S 53 ((g77 1092 0) - 1)) ∧ 0 ≤ (S 53 ((g77 1092 0) - 1)) ∧ (S 53 ((g77 1092 0) - 1)) < (S 1032 0) ∧ (g77 60 ((g77 1092 0) - 1)) = sm_dp (S 1100024) (S 1100023 (g77 57 ((g77 1092 0) - 1))) ∧ sm_TC (S 61) (S 62) (S 27) (S 1100007) (S 1100023) (S 1100024) (40 * ((g77 1092 0) - 1)) (S 1100023 (g77 57 ((g77 1092 0) - 1))) ∧ sm_LK (g77 1100029) (g77 1076 0) (S 54 ((g77 1092 0) - 1)) (S 53 ((g77 1092 0) - 1)) ∧ sm_VO (g77 44) (g77 1076 0) (g77 1007 0) ((S 55 ((g77 1092 0) - 1))) ((S 56 ((g77 1092 0) - 1))) ∧ sm_FW (g77 44) (g77 1076 0) (S 59 ((g77 1092 0) - 1)) ∧ sm_FL (S 53) (S 54) (S 55) (S 56) (g77 57) (g77 58) (S 59) (g77 60) (S 61) (S 62) (g77 63) (g77 64) (S 27) (S 29) (S 1100007) (S 1100023) (S 1100024) (S 1100025) (S 26) (g77 1100029) (g77 44) (S 1046 0) (S 1032 0) (g77 1076 0) (g77 1007 0) (((g77 1092 0) - 1)) ∧ (g77 58 ((g77 1092 0) - 1)) = (S 1100007 (g77 57 ((g77 1092 0) - 1))) ∧ sm_SK (g77 63) (g77 64) (g77 44) (S 1100007) (S 1100025) (g77 1076 0) (g77 1007 0) (400 * ((g77 1092 0) - 1)) ((g77 58 ((g77 1092 0) - 1))) ((S 1100025 (g77 57 ((g77 1092 0) - 1))))) ∧ ((g77 1073 0) = 1 ∨ (g77 1092 0) = 0 ∧ (g77 1075 0) = 0 ∧ ((g77 1073 0) = 2 ∨ (g77 1073 0) = 3)) ∧ (S 1086 0) ≤ (g77 1086 0) ∧ (g77 1086 0) ≤ (S 1086 0) + 110 ∧ 0 ≤ (g77 1107 0) ∧ (g77 1107 0) ≤ 100 ∧ sm_PT (g77 67) (g77 1107 0) (g77 1007 0)) → (sm_PL (g77 1100020) (g77 51) (g77 52) (g77 46) (g77 47) (g77 1076 0) (g77 1086 0) ∧ sm_FR (g77 1100020) (g77 52) (g77 1100021) (g77 1100022) (3000 - (g77 1084 0)) (g77 1085 0) ∧ sm_PV (g77 1100020) (g77 48) (g77 49) (g77 50) (g77 44) (g77 1076 0) (g77 1007 0) ∧ sm_AL (g77 1100020) (g77 48) (g77 49) (g77 50) (g77 44) (g77 1076 0) (g77 1100032 0) ∧ sm_SV (g77 1100020) (g77 48) (g77 1100029) (S 32) (S 33) (g77 1076 0) (S 1032 0) ∧ 0 ≤ (g77 1076 0) ∧ (g77 1076 0) ≤ 300 ∧ 0 ≤ (g77 1084 0) ∧ (g77 1084 0) ≤ 3000 ∧ 0 ≤ (g77 1086 0) ∧ sm_SC (g77 1100029) (g77 44) (g77 45) (g77 43) (S 21) (g77 1076 0) (S 1032 0) ∧ sm_PO (g77 42) (g77 1076 0) ∧ ((g77 1075 0) = 0 → (g77 1100032 0) = -1 ∧ sm_FO (g77 44) (g77 45) (g77 1076 0)) ∧ 23 ≤ (g77 1076 0) ∧ 31 ≤ (g77 1007 0) ∧ (g77 1007 0) ≤ 400 ∧ sm_LN (g77 4) 400 (g77 1007 0) ∧ (S 1008 0) ≤ (g77 1007 0) ∧ ((S 1075 0) = 1 → (g77 1075 0) = 1) ∧ 0 ≤ (g77 1092 0) ∧ (g77 1092 0) ≤ 24 ∧ (S 1007 0) ≤ (g77 1007 0) ∧ (¬ (g77 1075 0) = 0 → sm_LX (g77 58) (g77 63) (g77 64) (g77 1092 0) (g77 1076 0)) ∧ ((g77 1075 0) = 0 → (g77 1073 0) = 1 → 1 ≤ (g77 1092 0) ∧ (g77 1092 0) ≤ 24 ∧ 0 ≤ (g77 57 ((g77 1092 0) - 1)) ∧ (g77 57 ((g77 1092 0) - 1)) < (S 1046 0) ∧ (S 29 (g77 57 ((g77 1092 0) - 1))) = (S 53 ((g77 1092 0) - 1)) ∧ 0 ≤ (S 53 ((g77 1092 0) - 1)) ∧ (S 53 ((g77 1092 0) - 1)) < (S 1032 0) ∧ (g77 60 ((g77 1092 0) - 1)) = sm_dp (S 1100024) (S 1100023 (g77 57 ((g77 1092 0) - 1))) ∧ sm_TC (S 61) (S 62) (S 27) (S 1100007) (S 1100023) (S 1100024) (40 * ((g77 1092 0) - 1)) (S 1100023 (g77 57 ((g77 1092 0) - 1))) ∧ sm_LK (g77 1100029) (g77 1076 0) (S 54 ((g77 1092 0) - 1)) (S 53 ((g77 1092 0) - 1)) ∧ sm_VO (g77 44) (g77 1076 0) (g77 1007 0) ((S 55 ((g77 1092 0) - 1))) ((S 56 ((g77 1092 0) - 1))) ∧ sm_FW (g77 44) (g77 1076 0) (S 59 ((g77 1092 0) - 1)) ∧ sm_FL (S 53) (S 54) (S 55) (S 56) (g77 57) (g77 58) (S 59) (g77 60) (S 61) (S 62) (g77 63) (g77 64) (S 27) (S 29) (S 1100007) (S 1100023) (S 1100024) (S 1100025) (S 26) (g77 1100029) (g77 44) (S 1046 0) (S 1032 0) (g77 1076 0) (g77 1007 0) (((g77 1092 0) - 1)) ∧ (g77 58 ((g77 1092 0) - 1)) = (S 1100007 (g77 57 ((g77 1092 0) - 1))) ∧ sm_SK (g77 63) (g77 64) (g77 44) (S 1100007) (S 1100025) (g77 1076 0) (g77 1007 0) (400 * ((g77 1092 0) - 1)) ((g77 58 ((g77 1092 0) - 1))) ((S 1100025 (g77 57 ((g77 1092 0) - 1))))) ∧ ((g77 1073 0) = 1 ∨ (g77 1092 0) = 0 ∧ (g77 1075 0) = 0 ∧ ((g77 1073 0) = 2 ∨ (g77 1073 0) = 3)) ∧ (S 1086 0) ≤ (g77 1086 0) ∧ (g77 1086 0) ≤ (S 1086 0) + 110 ∧ 0 ≤ (g77 1107 0) ∧ (g77 1107 0) ≤ 100 ∧ sm_PT (g77 67) (g77 1107 0) (g77 1007 0))))))) ∧ ((¬ (¬ s13 = (0 : Int))) → ((S 1075 0) = 0 ∧ (S 1073 0) = 1 ∧ sm_LX (S 58) (S 63) (S 64) (S 1092 0) (S 1076 0) ∧ sm_PL (S 1100020) (S 51) (S 52) (S 46) (S 47) (S 1076 0) (S 1086 0) ∧ sm_FR (S 1100020) (S 52) (S 1100021) (S 1100022) (3000 - (S 1084 0)) (S 1085 0) ∧ sm_PV (S 1100020) (S 48) (S 49) (S 50) (S 44) (S 1076 0) (S 1007 0) ∧ sm_AL (S 1100020) (S 48) (S 49) (S 50) (S 44) (S 1076 0) (S 1100032 0) ∧ sm_SV (S 1100020) (S 48) (S 1100029) (S 32) (S 33) (S 1076 0) (S 1032 0) ∧ 0 ≤ (S 1076 0) ∧ (S 1076 0) ≤ 300 ∧ 0 ≤ (S 1084 0) ∧ (S 1084 0) ≤ 3000 ∧ 0 ≤ (S 1086 0) ∧ sm_SC (S 1100029) (S 44) (S 45) (S 43) (S 21) (S 1076 0) (S 1032 0) ∧ sm_PO (S 42) (S 1076 0) ∧ (S 1100032 0) = -1 ∧ sm_FO (S 44) (S 45) (S 1076 0) ∧ 23 ≤ (S 1076 0) ∧ 31 ≤ (S 1007 0) ∧ (S 1007 0) ≤ 400 ∧ sm_LN (S 4) 400 (S 1007 0) ∧ sm_CT (S 26) (S 27) (S 28) (S 29) (S 1100007) (S 1100023) (S 1100024) (S 1100025) (S 21) (S 1046 0) (S 1032 0) (S 1008 0) (S 1055 0) ∧ sm_LS (S 26) (S 1100007) (S 1100025) (S 1046 0) ∧ sm_CL (S 1100007) (S 1100023) (S 1100025) (S 1046 0) ∧ 1 ≤ (S 1032 0) ∧ (S 1032 0) ≤ 11 ∧ 0 ≤ (S 1046 0) ∧ (S 1046 0) ≤ 600 ∧ 31 ≤ (S 1008 0) ∧ (S 1008 0) ≤ (S 1007 0) ∧ 0 ≤ (S 1055 0) ∧ (S 1055 0) ≤ 19 ∧ 1 ≤ (S 1092 0) ∧ (S 1092 0) ≤ 24 ∧ 0 ≤ (S 57 ((S 1092 0) - 1)) ∧ (S 57 ((S 1092 0) - 1)) < (S 1046 0) ∧ (S 29 (S 57 ((S 1092 0) - 1))) = (S 53 ((S 1092 0) - 1)) ∧ 0 ≤ (S 53 ((S 1092 0) - 1)) ∧ (S 53 ((S 1092 0) - 1)) < (S 1032 0) ∧ (S 60 ((S 1092 0) - 1)) = sm_dp (S 1100024) (S 1100023 (S 57 ((S 1092 0) - 1))) ∧ sm_TC (S 61) (S 62) (S 27) (S 1100007) (S 1100023) (S 1100024) (40 * ((S 1092 0) - 1)) (S 1100023 (S 57 ((S 1092 0) - 1))) ∧ sm_LK (S 1100029) (S 1076 0) (S 54 ((S 1092 0) - 1)) (S 53 ((S 1092 0) - 1)) ∧ sm_VO (S 44) (S 1076 0) (S 1007 0) ((S 55 ((S 1092 0) - 1))) ((S 56 ((S 1092 0) - 1))) ∧ sm_FW (S 44) (S 1076 0) (S 59 ((S 1092 0) - 1)) ∧ sm_FL (S 53) (S 54) (S 55) (S 56) (S 57) (S 58) (S 59) (S 60) (S 61) (S 62) (S 63) (S 64) (S 27) (S 29) (S 1100007) (S 1100023) (S 1100024) (S 1100025) (S 26) (S 1100029) (S 44) (S 1046 0) (S 1032 0) (S 1076 0) (S 1007 0) (((S 1092 0) - 1)) ∧ (S 58 ((S 1092 0) - 1)) = (S 1100007 (S 57 ((S 1092 0) - 1))) ∧ sm_SK (S 63) (S 64) (S 44) (S 1100007) (S 1100025) (S 1076 0) (S 1007 0) (400 * ((S 1092 0) - 1)) ((S 58 ((S 1092 0) - 1))) ((S 1100025 (S 57 ((S 1092 0) - 1)))) ∧ (0 ≤ (S 1100023 (S 57 ((S 1092 0) - 1))) → (S 1100007 (S 1100023 (S 57 ((S 1092 0) - 1)))) ≤ (S 58 ((S 1092 0) - 1))) ∧ 6 ≤ (6 : Int) ∧ (6 : Int) ≤ 8) ∧ (∀ g83 : sv_S, (sm_PL (S 1100020) (S 51) (S 52) (g83 46) (g83 47) (g83 1076 0) (S 1086 0) ∧ sm_FR (S 1100020) (S 52) (S 1100021) (S 1100022) (3000 - (S 1084 0)) (S 1085 0) ∧ sm_PV (S 1100020) (S 48) (S 49) (S 50) (g83 44) (g83 1076 0) (S 1007 0) ∧ sm_AL (S 1100020) (S 48) (S 49) (S 50) (g83 44) (g83 1076 0) (S 1100032 0) ∧ sm_SV (S 1100020) (S 48) (g83 1100029) (S 32) (S 33) (g83 1076 0) (S 1032 0) ∧ 0 ≤ (g83 1076 0) ∧ (g83 1076 0) ≤ 300 ∧ 0 ≤ (S 1084 0) ∧ (S 1084 0) ≤ 3000 ∧ 0 ≤ (S 1086 0) ∧ sm_SC (g83 1100029) (g83 44) (g83 45) (g83 43) (S 21) (g83 1076 0) (S 1032 0) ∧ sm_PO (g83 42) (g83 1076 0) ∧ ((g83 1075 0) = 0 → (S 1100032 0) = -1 ∧ sm_FO (g83 44) (g83 45) (g83 1076 0)) ∧ 23 ≤ (g83 1076 0) ∧ 31 ≤ (S 1007 0) ∧ (S 1007 0) ≤ 400 ∧ sm_LN (S 4) 400 (S 1007 0) ∧ (S 1008 0) ≤ (S 1007 0) ∧ ((S 1075 0) = 1 → (g83 1075 0) = 1) ∧ 0 ≤ (g83 1092 0) ∧ (g83 1092 0) ≤ 24 ∧ (S 1007 0) ≤ (S 1007 0) ∧ (¬ (g83 1075 0) = 0 → sm_LX (g83 58) (g83 63) (g83 64) (g83 1092 0) (g83 1076 0)) ∧ ((g83 1075 0) = 0 → (g83 1073 0) = 1 → 1 ≤ (g83 1092 0) ∧ (g83 1092 0) ≤ 24 ∧ 0 ≤ (g83 57 ((g83 1092 0) - 1)) ∧ (g83 57 ((g83 1092 0) - 1)) < (S 1046 0) ∧ (S 29 (g83 57 ((g83 1092 0) - 1))) = (S 53 ((g83 1092 0) - 1)) ∧ 0 ≤ (S 53 ((g83 1092 0) - 1)) ∧ (S 53 ((g83 1092 0) - 1)) < (S 1032 0) ∧ (g83 60 ((g83 1092 0) - 1)) = sm_dp (S 1100024) (S 1100023 (g83 57 ((g83 1092 0) - 1))) ∧ sm_TC (S 61) (S 62) (S 27) (S 1100007) (S 1100023) (S 1100024) (40 * ((g83 1092 0) - 1)) (S 1100023 (g83 57 ((g83 1092 0) - 1))) ∧ sm_LK (g83 1100029) (g83 1076 0) (S 54 ((g83 1092 0) - 1)) (S 53 ((g83 1092 0) - 1)) ∧ sm_VO (g83 44) (g83 1076 0) (S 1007 0) ((S 55 ((g83 1092 0) - 1))) ((S 56 ((g83 1092 0) - 1))) ∧ sm_FW (g83 44) (g83 1076 0) (S 59 ((g83 1092 0) - 1)) ∧ sm_FL (S 53) (S 54) (S 55) (S 56) (g83 57) (g83 58) (S 59) (g83 60) (S 61) (S 62) (g83 63) (g83 64) (S 27) (S 29) (S 1100007) (S 1100023) (S 1100024) (S 1100025) (S 26) (g83 1100029) (g83 44) (S 1046 0) (S 1032 0) (g83 1076 0) (S 1007 0) (((g83 1092 0) - 1)) ∧ (g83 58 ((g83 1092 0) - 1)) = (S 1100007 (g83 57 ((g83 1092 0) - 1))) ∧ sm_SK (g83 63) (g83 64) (g83 44) (S 1100007) (S 1100025) (g83 1076 0) (S 1007 0) (400 * ((g83 1092 0) - 1)) ((g83 58 ((g83 1092 0) - 1))) ((S 1100025 (g83 57 ((g83 1092 0) - 1))))) ∧ ((g83 1073 0) = 1 ∨ (g83 1092 0) = 0 ∧ (g83 1075 0) = 0 ∧ ((g83 1073 0) = 2 ∨ (g83 1073 0) = 3)) ∧ ((g83 1073 0) = 1 ∨ (g83 1073 0) = 3)) → (sm_PL (S 1100020) (S 51) (S 52) (g83 46) (g83 47) (g83 1076 0) (S 1086 0) ∧ sm_FR (S 1100020) (S 52) (S 1100021) (S 1100022) (3000 - (S 1084 0)) (S 1085 0) ∧ sm_PV (S 1100020) (S 48) (S 49) (S 50) (g83 44) (g83 1076 0) (S 1007 0) ∧ sm_AL (S 1100020) (S 48) (S 49) (S 50) (g83 44) (g83 1076 0) (S 1100032 0) ∧ sm_SV (S 1100020) (S 48) (g83 1100029) (S 32) (S 33) (g83 1076 0) (S 1032 0) ∧ 0 ≤ (g83 1076 0) ∧ (g83 1076 0) ≤ 300 ∧ 0 ≤ (S 1084 0) ∧ (S 1084 0) ≤ 3000 ∧ 0 ≤ (S 1086 0) ∧ sm_SC (g83 1100029) (g83 44) (g83 45) (g83 43) (S 21) (g83 1076 0) (S 1032 0) ∧ sm_PO (g83 42) (g83 1076 0) ∧ ((g83 1075 0) = 0 → (S 1100032 0) = -1 ∧ sm_FO (g83 44) (g83 45) (g83 1076 0)) ∧ 23 ≤ (g83 1076 0) ∧ 31 ≤ (S 1007 0) ∧ (S 1007 0) ≤ 400 ∧ sm_LN (S 4) 400 (S 1007 0) ∧ (S 1008 0) ≤ (S 1007 0) ∧ ((S 1075 0) = 1 → (g83 1075 0) = 1) ∧ 0 ≤ (g83 1092 0) ∧ (g83 1092 0) ≤ 24 ∧ (S 1007 0) ≤ (S 1007 0) ∧ (¬ (g83 1075 0) = 0 → sm_LX (g83 58) (g83 63) (g83 64) (g83 1092 0) (g83 1076 0)) ∧ ((g83 1075 0) = 0 → (g83 1073 0) = 1 → 1 ≤ (g83 1092 0) ∧ (g83 1092 0) ≤ 24 ∧ 0 ≤ (g83 57 ((g83 1092 0) - 1)) ∧ (g83 57 ((g83 1092 0) - 1)) < (S 1046 0) ∧ (S 29 (g83 57 ((g83 1092 0) - 1))) = (S 53 ((g83 1092 0) - 1)) ∧ 0 ≤ (S 53 ((g83 1092 0) - 1)) ∧ (S 53 ((g83 1092 0) - 1)) < (S 1032 0) ∧ (g83 60 ((g83 1092 0) - 1)) = sm_dp (S 1100024) (S 1100023 (g83 57 ((g83 1092 0) - 1))) ∧ sm_TC (S 61) (S 62) (S 27) (S 1100007) (S 1100023) (S 1100024) (40 * ((g83 1092 0) - 1)) (S 1100023 (g83 57 ((g83 1092 0) - 1))) ∧ sm_LK (g83 1100029) (g83 1076 0) (S 54 ((g83 1092 0) - 1)) (S 53 ((g83 1092 0) - 1)) ∧ sm_VO (g83 44) (g83 1076 0) (S 1007 0) ((S 55 ((g83 1092 0) - 1))) ((S 56 ((g83 1092 0) - 1))) ∧ sm_FW (g83 44) (g83 1076 0) (S 59 ((g83 1092 0) - 1)) ∧ sm_FL (S 53) (S 54) (S 55) (S 56) (g83 57) (g83 58) (S 59) (g83 60) (S 61) (S 62) (g83 63) (g83 64) (S 27) (S 29) (S 1100007) (S 1100023) (S 1100024) (S 1100025) (S 26) (g83 1100029) (g83 44) (S 1046 0) (S 1032 0) (g83 1076 0) (S 1007 0) (((g83 1092 0) - 1)) ∧ (g83 58 ((g83 1092 0) - 1)) = (S 1100007 (g83 57 ((g83 1092 0) - 1))) ∧ sm_SK (g83 63) (g83 64) (g83 44) (S 1100007) (S 1100025) (g83 1076 0) (S 1007 0) (400 * ((g83 1092 0) - 1)) ((g83 58 ((g83 1092 0) - 1))) ((S 1100025 (g83 57 ((g83 1092 0) - 1))))) ∧ ((g83 1073 0) = 1 ∨ (g83 1092 0) = 0 ∧ (g83 1075 0) = 0 ∧ ((g83 1073 0) = 2 ∨ (g83 1073 0) = 3)) ∧ (S 1086 0) ≤ (S 1086 0) ∧ (S 1086 0) ≤ (S 1086 0) + 110 ∧ 0 ≤ (S 1107 0) ∧ (S 1107 0) ≤ 100 ∧ sm_PT (S 67) (S 1107 0) (S 1007 0)))))) ∧ ((S 63 x3) = 7 → 0 ≤ (S 64 x3) ∧ (S 64 x3) < 300) ∧ (∀ r94 : Int, sv_R r94 → ((r94 = 0 ∨ r94 = 1) ∧ (r94 = 1 → (S 63 x3) = 7 ∧ (S 44 (S 64 x3)) = 1) ∧ (r94 = 0 → (S 63 x3) = 7 → ¬ (S 44 (S 64 x3)) = 1)) → (((r94 = (0 : Int)) → (((0 : Int) = 0 ∨ (0 : Int) = 1) ∧ ((0 : Int) = 1 → (S 63 x3) = 7 ∧ (S 44 (S 64 x3)) = 1 ∧ (1 ≤ (S 45 (S 64 x3)) ∨ (10 ≤ (S 64 x3) ∧ (S 64 x3) ≤ 17 ∧ ¬ (S 64 x3) = 13))))) ∧ ((¬ (r94 = (0 : Int))) → (0 ≤ (S 64 x3) ∧ (S 64 x3) < 300) ∧ (sv_R (S 45 (S 64 x3)) → ((((0 : Int) < (S 45 (S 64 x3))) → (((1 : Int) = 0 ∨ (1 : Int) = 1) ∧ ((1 : Int) = 1 → (S 63 x3) = 7 ∧ (S 44 (S 64 x3)) = 1 ∧ (1 ≤ (S 45 (S 64 x3)) ∨ (10 ≤ (S 64 x3) ∧ (S 64 x3) ≤ 17 ∧ ¬ (S 64 x3) = 13))))) ∧ ((¬ ((0 : Int) < (S 45 (S 64 x3)))) → ((((S 64 x3) < (10 : Int)) → (((0 : Int) = 0 ∨ (0 : Int) = 1) ∧ ((0 : Int) = 1 → (S 63 x3) = 7 ∧ (S 44 (S 64 x3)) = 1 ∧ (1 ≤ (S 45 (S 64 x3)) ∨ (10 ≤ (S 64 x3) ∧ (S 64 x3) ≤ 17 ∧ ¬ (S 64 x3) = 13))))) ∧ ((¬ ((S 64 x3) < (10 : Int))) → ((((17 : Int) < (S 64 x3)) → (((0 : Int) = 0 ∨ (0 : Int) = 1) ∧ ((0 : Int) = 1 → (S 63 x3) = 7 ∧ (S 44 (S 64 x3)) = 1 ∧ (1 ≤ (S 45 (S 64 x3)) ∨ (10 ≤ (S 64 x3) ∧ (S 64 x3) ≤ 17 ∧ ¬ (S 64 x3) = 13))))) ∧ ((¬ ((17 : Int) < (S 64 x3))) → ((((S 64 x3) = (13 : Int)) → (((0 : Int) = 0 ∨ (0 : Int) = 1) ∧ ((0 : Int) = 1 → (S 63 x3) = 7 ∧ (S 44 (S 64 x3)) = 1 ∧ (1 ≤ (S 45 (S 64 x3)) ∨ (10 ≤ (S 64 x3) ∧ (S 64 x3) ≤ 17 ∧ ¬ (S 64 x3) = 13))))) ∧ ((¬ ((S 64 x3) = (13 : Int))) → (((1 : Int) = 0 ∨ (1 : Int) = 1) ∧ ((1 : Int) = 1 → (S 63 x3) = 7 ∧ (S 44 (S 64 x3)) = 1 ∧ (1 ≤ (S 45 (S 64 x3)) ∨ (10 ≤ (S 64 x3) ∧ (S 64 x3) ≤ 17 ∧ ¬ (S 64 x3) = 13))))))))))))))))))))) := by
  intro p1
  intro p2
  intro S
  intro h1_
  intro h2_
  intro h3_
  rintro ⟨h4_, ⟨h5_, ⟨h6_, ⟨h7_, ⟨h8_, ⟨h9_, ⟨h10_, ⟨h11_, ⟨h12_, ⟨h13_, ⟨h14_, ⟨h15_, ⟨h16_, ⟨h17_, ⟨h18_, ⟨h19_, ⟨h20_, ⟨h21_, ⟨h22_, ⟨h23_, ⟨h24_, ⟨h25_, ⟨h26_, ⟨h27_, ⟨h28_, ⟨h29_, ⟨h30_, ⟨h31_, ⟨h32_, ⟨h33_, ⟨h34_, ⟨h35_, ⟨h36_, ⟨h37_, ⟨h38_, ⟨h39_, ⟨h40_, ⟨h41_, ⟨h42_, ⟨h43_, ⟨h44_, ⟨h45_, ⟨h46_, ⟨h47_, ⟨h48_, ⟨h49_, ⟨h50_, ⟨h51_, ⟨h52_, ⟨h53_, ⟨h54_, ⟨h55_, ⟨h56_, ⟨h57_, ⟨h58_, ⟨h59_, ⟨h60_, ⟨h61_, ⟨h62_, ⟨h63_, ⟨h64_, ⟨h65_, ⟨h66_, ⟨h67_, ⟨h68_, ⟨h69_, ⟨h70_, ⟨h71_, ⟨h72_, ⟨h73_, ⟨h74_, ⟨h75_, ⟨h76_, ⟨h77_, ⟨h78_, h79_⟩⟩⟩⟩⟩⟩⟩⟩⟩⟩⟩⟩⟩⟩⟩⟩⟩⟩⟩⟩⟩⟩⟩⟩⟩⟩⟩⟩⟩⟩⟩⟩⟩⟩⟩⟩⟩⟩⟩⟩⟩⟩⟩⟩⟩⟩⟩⟩⟩⟩⟩⟩⟩⟩⟩⟩⟩⟩⟩⟩⟩⟩⟩⟩⟩⟩⟩⟩⟩⟩⟩⟩⟩⟩⟩
  intro h80_
  have h81_ := (h80_ h56_)
  have h82_ := (h81_ h30_)
  have h83_ := (h82_ (la_makeNew_0 h65_))
  have h84_ := (h83_ (la_makeNew_1 h4_))
  have h85_ := (h84_ h58_)
  have h86_ := (h85_ h59_)
  have h87_ := (h86_ h66_)
  refine ⟨(la_makeNew_2 h4_ h40_ h41_ h63_ h65_), ?_⟩
  intro x3
  intro h88_
  refine ⟨(la_makeNew_3 h4_ h40_ h41_ h63_ h65_ h88_), ?_⟩
  intro h89_
  intro h90_
  refine ⟨(la_makeNew_4 h4_ h40_ h41_ h63_ h65_ h88_), ?_⟩
  refine ⟨?_, ?_⟩
  · skip
    intro s13
    intro h91_
    rintro ⟨h92_, h93_⟩
    refine ⟨?_, ?_⟩
    · skip
      intro h94_
      have h95_ := (h92_.resolve_left h94_)
      obtain ⟨h96_, ⟨h97_, h98_⟩⟩ := (h93_ h95_)
      refine ⟨?_, ?_⟩
      · skip
        refine ⟨?_, ?_⟩
        · skip
          have e99_ : S 63 x3 = S 63 (400 * (S 1092 0 - 1) + (S 58 (S 1092 0 - 1) - (p1 + 1))) := congrArg ((S 63)) (la_makeNew_7 h88_)
          have e100_ : S 64 x3 = S 64 (400 * (S 1092 0 - 1) + (S 58 (S 1092 0 - 1) - (p1 + 1))) := congrArg ((S 64)) (la_makeNew_7 h88_)
          obtain ⟨h101_, ⟨h102_, h103_⟩⟩ := ((sm_VO_e h87_).2.2.2 (la_makeNew_9 (sm_VO_e h87_).2.1 h96_ e99_))
          exact (la_makeNew_10 e100_ h101_)
        have e104_ : S 63 x3 = S 63 (400 * (S 1092 0 - 1) + (S 58 (S 1092 0 - 1) - (p1 + 1))) := congrArg ((S 63)) (la_makeNew_7 h88_)
        have e105_ : S 64 x3 = S 64 (400 * (S 1092 0 - 1) + (S 58 (S 1092 0 - 1) - (p1 + 1))) := congrArg ((S 64)) (la_makeNew_7 h88_)
        obtain ⟨h106_, ⟨h107_, h108_⟩⟩ := ((sm_VO_e h87_).2.2.2 (la_makeNew_9 (sm_VO_e h87_).2.1 h96_ e104_))
        exact (la_makeNew_11 h17_ e105_ h107_)
      intro h109_
      refine ⟨?_, ?_⟩
      · skip
        intro h110_
        intro h111_
        have h112_ := (h111_ h24_)
        refine ⟨?_, ?_⟩
        · skip
          refine ⟨h11_, ?_⟩
          refine ⟨h12_, ?_⟩
          refine ⟨h13_, ?_⟩
          refine ⟨h14_, ?_⟩
          refine ⟨h15_, ?_⟩
          refine ⟨h16_, ?_⟩
          refine ⟨h17_, ?_⟩
          refine ⟨h18_, ?_⟩
          refine ⟨h19_, ?_⟩
          refine ⟨h20_, ?_⟩
          refine ⟨h21_, ?_⟩
          refine ⟨h22_, ?_⟩
          refine ⟨(la_makeNew_12 h25_), ?_⟩
          refine ⟨?_, ?_⟩
          · skip
            have e113_ : S 63 x3 = S 63 (400 * (S 1092 0 - 1) + (S 58 (S 1092 0 - 1) - (p1 + 1))) := congrArg ((S 63)) (la_makeNew_7 h88_)
            have e114_ : S 64 x3 = S 64 (400 * (S 1092 0 - 1) + (S 58 (S 1092 0 - 1) - (p1 + 1))) := congrArg ((S 64)) (la_makeNew_7 h88_)
            obtain ⟨h115_, ⟨h116_, h117_⟩⟩ := ((sm_VO_e h87_).2.2.2 (la_makeNew_9 (sm_VO_e h87_).2.1 h96_ e113_))
            have h118_ := (h112_ (la_makeNew_10 e114_ h115_))
            have h119_ := (h118_ (la_makeNew_13 e114_ h116_))
            have h120_ := (h119_ h97_)
            exact (la_makeNew_10 e114_ h115_)
          have e121_ : S 63 x3 = S 63 (400 * (S 1092 0 - 1) + (S 58 (S 1092 0 - 1) - (p1 + 1))) := congrArg ((S 63)) (la_makeNew_7 h88_)
          have e122_ : S 64 x3 = S 64 (400 * (S 1092 0 - 1) + (S 58 (S 1092 0 - 1) - (p1 + 1))) := congrArg ((S 64)) (la_makeNew_7 h88_)
          obtain ⟨h123_, ⟨h124_, h125_⟩⟩ := ((sm_VO_e h87_).2.2.2 (la_makeNew_9 (sm_VO_e h87_).2.1 h96_ e121_))
          have h126_ := (h112_ (la_makeNew_10 e122_ h123_))
          have h127_ := (h126_ (la_makeNew_13 e122_ h124_))
          have h128_ := (h127_ h97_)
          exact (la_makeNew_13 e122_ h124_)
        intro r23
        intro h129_
        intro g19
        rintro ⟨h130_, h131_⟩
        intro h132_
        refine ⟨?_, ?_⟩
        · skip
          intro h133_
          refine ⟨(la_makeNew_15 h6_ h7_ h32_ h33_ h39_), ?_⟩
          intro r31
          intro h134_
          intro h135_
          refine ⟨⟨h11_, ⟨h12_, ⟨h13_, ⟨h14_, ⟨h15_, ⟨h16_, ⟨h17_, ⟨h18_, ⟨h19_, ⟨h20_, ⟨h21_, ⟨h22_, (la_makeNew_16 h6_ h7_ h25_ h32_ h33_ h39_ h135_)⟩⟩⟩⟩⟩⟩⟩⟩⟩⟩⟩⟩, ?_⟩
          intro r37
          intro h136_
          intro g33
          rintro ⟨h137_, ⟨h138_, ⟨h139_, ⟨h140_, ⟨h141_, ⟨h142_, ⟨h143_, ⟨h144_, ⟨h145_, ⟨h146_, ⟨h147_, ⟨h148_, ⟨h149_, ⟨h150_, ⟨h151_, ⟨h152_, ⟨h153_, ⟨h154_, ⟨h155_, ⟨h156_, ⟨h157_, ⟨h158_, ⟨h159_, ⟨h160_, ⟨h161_, h162_⟩⟩⟩⟩⟩⟩⟩⟩⟩⟩⟩⟩⟩⟩⟩⟩⟩⟩⟩⟩⟩⟩⟩⟩⟩
          have h163_ := (h161_ h24_)
          have h164_ := (h163_ la_makeNew_18)
          have h165_ := (h164_ (la_makeNew_19 h25_))
          intro h166_
          have h167_ := (h166_ h149_)
          have h168_ := (h167_ h150_)
          rintro ⟨h169_, h170_⟩
          refine ⟨?_, ?_⟩
          · skip
            intro h171_
            have h172_ := (h160_ (la_makeNew_20 h170_ (la_makeNew_6 h169_ h171_)))
            have h173_ := (h172_ h8_)
            have h174_ := (h159_ h173_)
            refine ⟨h137_, ?_⟩
            refine ⟨h12_, ?_⟩
            refine ⟨h139_, ?_⟩
            refine ⟨h140_, ?_⟩
            refine ⟨h141_, ?_⟩
            refine ⟨h142_, ?_⟩
            refine ⟨h143_, ?_⟩
            refine ⟨h18_, ?_⟩
            refine ⟨h19_, ?_⟩
            refine ⟨h20_, ?_⟩
            refine ⟨h147_, ?_⟩
            refine ⟨h148_, ?_⟩
            refine ⟨?_, ?_⟩
            · skip
              intro h175_
              obtain ⟨h176_, h177_⟩ := ((sm_VO_e h50_).2.2.1 (la_makeNew_21 (la_makeNew_6 h169_ h171_) h175_))
              obtain ⟨h178_, ⟨h179_, h180_⟩⟩ := ((sm_VO_e h50_).2.2.2 (la_makeNew_22 (sm_VO_e h50_).2.1 (la_makeNew_6 h169_ h171_) h175_))
              obtain ⟨h181_, h182_⟩ := ((sm_VO_e h87_).2.2.1 (la_makeNew_21 (la_makeNew_6 h169_ h171_) h175_))
              obtain ⟨h183_, ⟨h184_, h185_⟩⟩ := ((sm_VO_e h87_).2.2.2 (la_makeNew_23 (la_makeNew_6 h169_ h171_) h175_))
              obtain ⟨h186_, ⟨h187_, h188_⟩⟩ := (h98_.resolve_left (la_makeNew_24 (la_makeNew_6 h169_ h171_) h175_))
              have h189_ := (h112_ (la_makeNew_27 h186_))
              obtain ⟨h190_, h191_⟩ := (h162_ (la_makeNew_28 (la_makeNew_6 h169_ h171_) h175_))
              obtain ⟨h192_, h193_⟩ := ((sm_VO_e h131_).2.2.1 (la_makeNew_29 (la_makeNew_14 (sm_VO_e h131_).2.1 h133_) h173_ h191_))
              have h194_ := (h189_ (la_makeNew_32 h25_ (la_makeNew_31 (la_makeNew_30 h173_ h191_) h188_)))
              have h195_ := (h194_ h97_)
              have h196_ := (h195_ (la_makeNew_33 (la_makeNew_26 (la_makeNew_25 (la_makeNew_6 h169_ h171_) h175_) h110_)))
              refine ⟨h23_, ?_⟩
              exact h165_
            refine ⟨(la_makeNew_34 h25_ h152_), ?_⟩
            refine ⟨h26_, ?_⟩
            refine ⟨h27_, ?_⟩
            refine ⟨h28_, ?_⟩
            refine ⟨h37_, ?_⟩
            refine ⟨h151_, ?_⟩
            refine ⟨(la_makeNew_35 h40_), ?_⟩
            refine ⟨h41_, ?_⟩
            refine ⟨la_makeNew_36, ?_⟩
            refine ⟨?_, ?_⟩
            · skip
              intro h197_
              exact (sm_LX_m h10_ h152_)
            refine ⟨?_, ?_⟩
            · skip
              intro h198_
              obtain ⟨h199_, h200_⟩ := ((sm_VO_e h50_).2.2.1 (la_makeNew_21 (la_makeNew_6 h169_ h171_) h198_))
              obtain ⟨h201_, ⟨h202_, h203_⟩⟩ := ((sm_VO_e h50_).2.2.2 (la_makeNew_22 (sm_VO_e h50_).2.1 (la_makeNew_6 h169_ h171_) h198_))
              obtain ⟨h204_, h205_⟩ := ((sm_VO_e h87_).2.2.1 (la_makeNew_21 (la_makeNew_6 h169_ h171_) h198_))
              obtain ⟨h206_, ⟨h207_, h208_⟩⟩ := ((sm_VO_e h87_).2.2.2 (la_makeNew_23 (la_makeNew_6 h169_ h171_) h198_))
              obtain ⟨h209_, ⟨h210_, h211_⟩⟩ := (h98_.resolve_left (la_makeNew_24 (la_makeNew_6 h169_ h171_) h198_))
              have h212_ := (h112_ (la_makeNew_27 h209_))
              obtain ⟨h213_, h214_⟩ := (h162_ (la_makeNew_28 (la_makeNew_6 h169_ h171_) h198_))
              obtain ⟨h215_, h216_⟩ := ((sm_VO_e h131_).2.2.1 (la_makeNew_29 (la_makeNew_14 (sm_VO_e h131_).2.1 h133_) h173_ h214_))
              have h217_ := (h212_ (la_makeNew_32 h25_ (la_makeNew_31 (la_makeNew_30 h173_ h214_) h211_)))
              have h218_ := (h217_ h97_)
              have h219_ := (h218_ (la_makeNew_33 (la_makeNew_26 (la_makeNew_25 (la_makeNew_6 h169_ h171_) h198_) h110_)))
              intro h220_
              refine ⟨h40_, ?_⟩
              refine ⟨h41_, ?_⟩
              refine ⟨(la_makeNew_37 h42_ h53_), ?_⟩
              refine ⟨(la_makeNew_38 h53_ h67_), ?_⟩
              refine ⟨?_, ?_⟩
              · skip
                have e221_ : S 29 (S 57 (S 1092 0 - 1)) = S 29 (S 1100033 0) := congrArg ((S 29)) h53_
                have e222_ : S 44 (S 64 (400 * (S 1092 0 - 1) + (S 58 (S 1092 0 - 1) - (p1 + 1)))) = S 44 (S 56 (S 1092 0 - 1)) := congrArg ((S 44)) (la_makeNew_39 h173_ h214_)
                have e223_ : S 44 (S 64 x3) = S 44 (S 56 (S 1092 0 - 1)) := congrArg ((S 44)) (la_makeNew_39 h173_ h214_)
                have e224_ : S 44 (S 64 x3) = S 44 (S 64 (400 * (S 1092 0 - 1) + (S 58 (S 1092 0 - 1) - (p1 + 1)))) := congrArg ((S 44)) (la_makeNew_39 h173_ h214_)
                have e225_ : S 63 x3 = S 63 (400 * (S 1092 0 - 1) + (S 58 (S 1092 0 - 1) - (p1 + 1))) := congrArg ((S 63)) (la_makeNew_7 h88_)
                have e226_ : S 64 x3 = S 64 (400 * (S 1092 0 - 1) + (S 58 (S 1092 0 - 1) - (p1 + 1))) := congrArg ((S 64)) (la_makeNew_7 h88_)
                exact (la_makeNew_42 h44_ e221_)
              refine ⟨h45_, ?_⟩
              refine ⟨h46_, ?_⟩
              refine ⟨?_, ?_⟩
              · skip
                have e227_ : S 1100023 (S 57 (S 1092 0 - 1)) = S 1100023 (S 1100033 0) := congrArg ((S 1100023)) h53_
                have e228_ : S 44 (S 64 (400 * (S 1092 0 - 1) + (S 58 (S 1092 0 - 1) - (p1 + 1)))) = S 44 (S 56 (S 1092 0 - 1)) := congrArg ((S 44)) (la_makeNew_39 h173_ h214_)
                have e229_ : S 44 (S 64 x3) = S 44 (S 56 (S 1092 0 - 1)) := congrArg ((S 44)) (la_makeNew_39 h173_ h214_)
                have e230_ : S 44 (S 64 x3) = S 44 (S 64 (400 * (S 1092 0 - 1) + (S 58 (S 1092 0 - 1) - (p1 + 1)))) := congrArg ((S 44)) (la_makeNew_39 h173_ h214_)
                have e231_ : S 63 x3 = S 63 (400 * (S 1092 0 - 1) + (S 58 (S 1092 0 - 1) - (p1 + 1))) := congrArg ((S 63)) (la_makeNew_7 h88_)
                have e232_ : S 64 x3 = S 64 (400 * (S 1092 0 - 1) + (S 58 (S 1092 0 - 1) - (p1 + 1))) := congrArg ((S 64)) (la_makeNew_7 h88_)
                have e233_ : sm_dp (S 1100024) (S 1100023 (S 57 (S 1092 0 - 1))) = sm_dp (S 1100024) (S 1100023 (S 1100033 0)) := congrArg ((sm_dp (S 1100024))) e227_
                exact (la_makeNew_43 h47_ e233_)
              refine ⟨?_, ?_⟩
              · skip
                have e234_ : S 1100023 (S 57 (S 1092 0 - 1)) = S 1100023 (S 1100033 0) := congrArg ((S 1100023)) h53_
                have e235_ : S 44 (S 64 (400 * (S 1092 0 - 1) + (S 58 (S 1092 0 - 1) - (p1 + 1)))) = S 44 (S 56 (S 1092 0 - 1)) := congrArg ((S 44)) (la_makeNew_39 h173_ h214_)
                have e236_ : S 44 (S 64 x3) = S 44 (S 56 (S 1092 0 - 1)) := congrArg ((S 44)) (la_makeNew_39 h173_ h214_)
                have e237_ : S 44 (S 64 x3) = S 44 (S 64 (400 * (S 1092 0 - 1) + (S 58 (S 1092 0 - 1) - (p1 + 1)))) := congrArg ((S 44)) (la_makeNew_39 h173_ h214_)
                have e238_ : S 63 x3 = S 63 (400 * (S 1092 0 - 1) + (S 58 (S 1092 0 - 1) - (p1 + 1))) := congrArg ((S 63)) (la_makeNew_7 h88_)
                have e239_ : S 64 x3 = S 64 (400 * (S 1092 0 - 1) + (S 58 (S 1092 0 - 1) - (p1 + 1))) := congrArg ((S 64)) (la_makeNew_7 h88_)
                exact (sm_TC_t h48_ (la_makeNew_44 e234_))
              refine ⟨(sm_LK_m h49_ h152_ (sm_F1_le h154_ (Int.le_refl _))), ?_⟩
              refine ⟨(sm_VO_m h50_ h152_ (Int.le_refl _) (sm_F1_le h153_ (Int.le_refl _))), ?_⟩
              refine ⟨(sm_FW_m h51_ h152_ (sm_F1_le h153_ (Int.le_refl _))), ?_⟩
              refine ⟨(sm_FL_F h52_ sm_F1_rf sm_F1_rf sm_F1_rf sm_F1_rf sm_F1_rf sm_F1_rf sm_F1_rf sm_F1_rf sm_F1_rf sm_F1_rf sm_F1_rf sm_F1_rf h152_ (Int.le_refl _) (sm_F1_le h154_ (Int.le_refl _)) (sm_F1_le h153_ (Int.le_refl _)) (sm_FL_dp h52_ h29_)), ?_⟩
              refine ⟨?_, ?_⟩
              · skip
                have e240_ : S 1100007 (S 57 (S 1092 0 - 1)) = S 1100007 (S 1100033 0) := congrArg ((S 1100007)) h53_
                have e241_ : S 44 (S 64 (400 * (S 1092 0 - 1) + (S 58 (S 1092 0 - 1) - (p1 + 1)))) = S 44 (S 56 (S 1092 0 - 1)) := congrArg ((S 44)) (la_makeNew_39 h173_ h214_)
                have e242_ : S 44 (S 64 x3) = S 44 (S 56 (S 1092 0 - 1)) := congrArg ((S 44)) (la_makeNew_39 h173_ h214_)
                have e243_ : S 44 (S 64 x3) = S 44 (S 64 (400 * (S 1092 0 - 1) + (S 58 (S 1092 0 - 1) - (p1 + 1)))) := congrArg ((S 44)) (la_makeNew_39 h173_ h214_)
                have e244_ : S 63 x3 = S 63 (400 * (S 1092 0 - 1) + (S 58 (S 1092 0 - 1) - (p1 + 1))) := congrArg ((S 63)) (la_makeNew_7 h88_)
                have e245_ : S 64 x3 = S 64 (400 * (S 1092 0 - 1) + (S 58 (S 1092 0 - 1) - (p1 + 1))) := congrArg ((S 64)) (la_makeNew_7 h88_)
                exact (la_makeNew_43 h60_ e240_)
              have e246_ : S 1100025 (S 57 (S 1092 0 - 1)) = S 1100025 (S 1100033 0) := congrArg ((S 1100025)) h53_
              have e247_ : S 44 (S 64 (400 * (S 1092 0 - 1) + (S 58 (S 1092 0 - 1) - (p1 + 1)))) = S 44 (S 56 (S 1092 0 - 1)) := congrArg ((S 44)) (la_makeNew_39 h173_ h214_)
              have e248_ : S 44 (S 64 x3) = S 44 (S 56 (S 1092 0 - 1)) := congrArg ((S 44)) (la_makeNew_39 h173_ h214_)
              have e249_ : S 44 (S 64 x3) = S 44 (S 64 (400 * (S 1092 0 - 1) + (S 58 (S 1092 0 - 1) - (p1 + 1)))) := congrArg ((S 44)) (la_makeNew_39 h173_ h214_)
              have e250_ : S 63 x3 = S 63 (400 * (S 1092 0 - 1) + (S 58 (S 1092 0 - 1) - (p1 + 1))) := congrArg ((S 63)) (la_makeNew_7 h88_)
              have e251_ : S 64 x3 = S 64 (400 * (S 1092 0 - 1) + (S 58 (S 1092 0 - 1) - (p1 + 1))) := congrArg ((S 64)) (la_makeNew_7 h88_)
              exact (sm_SK_q (sm_SK_m h56_ h152_ (Int.le_refl _) (sm_F1_le h153_ (Int.le_refl _))) (la_makeNew_46 h61_ e246_) rfl rfl)
            refine ⟨(la_makeNew_47 h9_ h40_ (la_makeNew_6 h169_ h171_)), ?_⟩
            refine ⟨la_makeNew_36, ?_⟩
            refine ⟨la_makeNew_48, ?_⟩
            refine ⟨h77_, ?_⟩
            refine ⟨h78_, ?_⟩
            exact h79_
          intro h252_
          obtain ⟨h253_, ⟨h254_, ⟨h255_, ⟨h256_, ⟨h257_, ⟨h258_, h259_⟩⟩⟩⟩⟩⟩ := (h158_ (la_makeNew_49 h252_))
          obtain ⟨h260_, h261_⟩ := (h162_ (la_makeNew_52 h143_ h150_ h253_))
          have h262_ := (h168_ (la_makeNew_53 h255_))
          obtain ⟨h263_, ⟨h264_, h265_⟩⟩ := ((sm_VO_e h262_).2.2.2 la_makeNew_55)
          refine ⟨(la_makeNew_57 h4_ h5_), ?_⟩
          refine ⟨?_, ?_⟩
          · skip
            refine ⟨(la_makeNew_58 h169_ h252_), ?_⟩
            refine ⟨h9_, ?_⟩
            refine ⟨(sm_LX_m h10_ h152_), ?_⟩
            refine ⟨h137_, ?_⟩
            refine ⟨h12_, ?_⟩
            refine ⟨h139_, ?_⟩
            refine ⟨h140_, ?_⟩
            refine ⟨h141_, ?_⟩
            refine ⟨h142_, ?_⟩
            refine ⟨h143_, ?_⟩
            refine ⟨h18_, ?_⟩
            refine ⟨h19_, ?_⟩
            refine ⟨h20_, ?_⟩
            refine ⟨h147_, ?_⟩
            refine ⟨h148_, ?_⟩
            refine ⟨h23_, ?_⟩
            refine ⟨h165_, ?_⟩
            refine ⟨(la_makeNew_59 h25_ h261_), ?_⟩
            refine ⟨h26_, ?_⟩
            refine ⟨h27_, ?_⟩
            refine ⟨h28_, ?_⟩
            refine ⟨h29_, ?_⟩
            refine ⟨h30_, ?_⟩
            refine ⟨h31_, ?_⟩
            refine ⟨h32_, ?_⟩
            refine ⟨h33_, ?_⟩
            refine ⟨h34_, ?_⟩
            refine ⟨h35_, ?_⟩
            refine ⟨h36_, ?_⟩
            refine ⟨h37_, ?_⟩
            refine ⟨h38_, ?_⟩
            refine ⟨h39_, ?_⟩
            refine ⟨h40_, ?_⟩
            refine ⟨h41_, ?_⟩
            refine ⟨h42_, ?_⟩
            refine ⟨h43_, ?_⟩
            refine ⟨h44_, ?_⟩
            refine ⟨h45_, ?_⟩
            refine ⟨h46_, ?_⟩
            refine ⟨h47_, ?_⟩
            refine ⟨h48_, ?_⟩
            refine ⟨(sm_LK_m h49_ h152_ (sm_F1_le h154_ (Int.le_refl _))), ?_⟩
            refine ⟨(sm_VO_m h50_ h152_ (Int.le_refl _) (sm_F1_le h153_ (Int.le_refl _))), ?_⟩
            refine ⟨(sm_FW_m h51_ h152_ (sm_F1_le h153_ (Int.le_refl _))), ?_⟩
            refine ⟨(sm_FL_F h52_ sm_F1_rf sm_F1_rf sm_F1_rf sm_F1_rf sm_F1_rf sm_F1_rf sm_F1_rf sm_F1_rf sm_F1_rf sm_F1_rf sm_F1_rf sm_F1_rf h152_ (Int.le_refl _) (sm_F1_le h154_ (Int.le_refl _)) (sm_F1_le h153_ (Int.le_refl _)) (sm_FL_dp h52_ h29_)), ?_⟩
            refine ⟨h53_, ?_⟩
            refine ⟨h54_, ?_⟩
            refine ⟨h55_, ?_⟩
            refine ⟨(sm_SK_m h56_ h152_ (Int.le_refl _) (sm_F1_le h153_ (Int.le_refl _))), ?_⟩
            refine ⟨h57_, ?_⟩
            refine ⟨h58_, ?_⟩
            refine ⟨h59_, ?_⟩
            refine ⟨h60_, ?_⟩
            refine ⟨h61_, ?_⟩
            refine ⟨h62_, ?_⟩
            refine ⟨h63_, ?_⟩
            refine ⟨h64_, ?_⟩
            refine ⟨h65_, ?_⟩
            refine ⟨h66_, ?_⟩
            refine ⟨h67_, ?_⟩
            refine ⟨h68_, ?_⟩
            refine ⟨h69_, ?_⟩
            refine ⟨h70_, ?_⟩
            refine ⟨h71_, ?_⟩
            refine ⟨h72_, ?_⟩
            refine ⟨h4_, ?_⟩
            refine ⟨la_makeNew_60, ?_⟩
            refine ⟨(la_makeNew_61 h88_), ?_⟩
            refine ⟨h73_, ?_⟩
            refine ⟨h74_, ?_⟩
            refine ⟨h75_, ?_⟩
            refine ⟨h76_, ?_⟩
            refine ⟨h77_, ?_⟩
            refine ⟨h78_, ?_⟩
            refine ⟨h79_, ?_⟩
            refine ⟨?_, ?_⟩
            · skip
              have e266_ : S 63 x3 = S 63 (400 * (S 1092 0 - 1) + (S 58 (S 1092 0 - 1) - (p1 + 1))) := congrArg ((S 63)) (la_makeNew_7 h88_)
              have e267_ : S 64 x3 = S 64 (400 * (S 1092 0 - 1) + (S 58 (S 1092 0 - 1) - (p1 + 1))) := congrArg ((S 64)) (la_makeNew_7 h88_)
              obtain ⟨h268_, ⟨h269_, h270_⟩⟩ := ((sm_VO_e h87_).2.2.2 (la_makeNew_9 (sm_VO_e h87_).2.1 h96_ e266_))
              have h271_ := (h112_ (la_makeNew_10 e267_ h268_))
              have h272_ := (h271_ (la_makeNew_13 e267_ h269_))
              have h273_ := (h272_ h97_)
              exact (sm_VO_eq (sm_VO_m h87_ h152_ (Int.le_refl _) (sm_F1_le h153_ (Int.le_refl _))) (la_makeNew_63 (sm_VO_e h87_).2.1 h96_ e266_) e267_)
            refine ⟨h262_, ?_⟩
            exact (Or.inr (la_makeNew_64 h25_ h150_ h253_ h255_))
          refine ⟨?_, ?_⟩
          · skip
            have e274_ : (if (7 : Int) = 7 then 1 else 0 : Int) = 1 := if_pos la_makeNew_55
            have e275_ : S 63 x3 = S 63 (400 * (S 1092 0 - 1) + (S 58 (S 1092 0 - 1) - (p1 + 1))) := congrArg ((S 63)) (la_makeNew_7 h88_)
            have e276_ : S 64 x3 = S 64 (400 * (S 1092 0 - 1) + (S 58 (S 1092 0 - 1) - (p1 + 1))) := congrArg ((S 64)) (la_makeNew_7 h88_)
            obtain ⟨h277_, ⟨h278_, h279_⟩⟩ := ((sm_VO_e h87_).2.2.2 (la_makeNew_9 (sm_VO_e h87_).2.1 h96_ e275_))
            have h280_ := (h112_ (la_makeNew_10 e276_ h277_))
            have h281_ := (h280_ (la_makeNew_13 e276_ h278_))
            have h282_ := (h281_ h97_)
            exact (la_makeNew_65 h4_ e274_)
          refine ⟨?_, ?_⟩
          · skip
            refine ⟨?_, ?_⟩
            · skip
              have e283_ : (if (7 : Int) = 7 then 1 else 0 : Int) = 1 := if_pos la_makeNew_55
              have e284_ : S 63 x3 = S 63 (400 * (S 1092 0 - 1) + (S 58 (S 1092 0 - 1) - (p1 + 1))) := congrArg ((S 63)) (la_makeNew_7 h88_)
              have e285_ : S 64 x3 = S 64 (400 * (S 1092 0 - 1) + (S 58 (S 1092 0 - 1) - (p1 + 1))) := congrArg ((S 64)) (la_makeNew_7 h88_)
              obtain ⟨h286_, ⟨h287_, h288_⟩⟩ := ((sm_VO_e h87_).2.2.2 (la_makeNew_9 (sm_VO_e h87_).2.1 h96_ e284_))
              have h289_ := (h112_ (la_makeNew_10 e285_ h286_))
              have h290_ := (h289_ (la_makeNew_13 e285_ h287_))
              have h291_ := (h290_ h97_)
              exact (la_makeNew_66 h4_ e283_)
            have e292_ : (if (7 : Int) = 7 then 1 else 0 : Int) = 1 := if_pos la_makeNew_55
            have e293_ : S 63 x3 = S 63 (400 * (S 1092 0 - 1) + (S 58 (S 1092 0 - 1) - (p1 + 1))) := congrArg ((S 63)) (la_makeNew_7 h88_)
            have e294_ : S 64 x3 = S 64 (400 * (S 1092 0 - 1) + (S 58 (S 1092 0 - 1) - (p1 + 1))) := congrArg ((S 64)) (la_makeNew_7 h88_)
            obtain ⟨h295_, ⟨h296_, h297_⟩⟩ := ((sm_VO_e h87_).2.2.2 (la_makeNew_9 (sm_VO_e h87_).2.1 h96_ e293_))
            have h298_ := (h112_ (la_makeNew_10 e294_ h295_))
            have h299_ := (h298_ (la_makeNew_13 e294_ h296_))
            have h300_ := (h299_ h97_)
            exact (la_makeNew_67 h5_ (sv_i01 (p := (7 : Int) = 7)).2)
          intro g45
          rintro ⟨h301_, ⟨h302_, ⟨h303_, ⟨h304_, ⟨h305_, ⟨h306_, ⟨h307_, ⟨h308_, ⟨h309_, ⟨h310_, ⟨h311_, ⟨h312_, ⟨h313_, ⟨h314_, ⟨h315_, ⟨h316_, ⟨h317_, ⟨h318_, ⟨h319_, ⟨h320_, ⟨h321_, ⟨h322_, ⟨h323_, ⟨h324_, ⟨h325_, ⟨h326_, ⟨h327_, ⟨h328_, ⟨h329_, h330_⟩⟩⟩⟩⟩⟩⟩⟩⟩⟩⟩⟩⟩⟩⟩⟩⟩⟩⟩⟩⟩⟩⟩⟩⟩⟩⟩⟩⟩
          refine ⟨h301_, ?_⟩
          refine ⟨h302_, ?_⟩
          refine ⟨h303_, ?_⟩
          refine ⟨h304_, ?_⟩
          refine ⟨h305_, ?_⟩
          refine ⟨h306_, ?_⟩
          refine ⟨h307_, ?_⟩
          refine ⟨h308_, ?_⟩
          refine ⟨h309_, ?_⟩
          refine ⟨h310_, ?_⟩
          refine ⟨h311_, ?_⟩
          refine ⟨h312_, ?_⟩
          refine ⟨h313_, ?_⟩
          refine ⟨h314_, ?_⟩
          refine ⟨h315_, ?_⟩
          refine ⟨h316_, ?_⟩
          refine ⟨h317_, ?_⟩
          refine ⟨h318_, ?_⟩
          refine ⟨(la_makeNew_68 h8_), ?_⟩
          refine ⟨h320_, ?_⟩
          refine ⟨h321_, ?_⟩
          refine ⟨h322_, ?_⟩
          refine ⟨h323_, ?_⟩
          refine ⟨h324_, ?_⟩
          refine ⟨h325_, ?_⟩
          refine ⟨h326_, ?_⟩
          refine ⟨h327_, ?_⟩
          refine ⟨h328_, ?_⟩
          refine ⟨h329_, ?_⟩
          exact h330_
        intro h331_
        obtain ⟨h332_, ⟨h333_, h334_⟩⟩ := ((sm_VO_e h131_).2.2.2 (la_makeNew_70 (sm_VO_e h131_).2.1 h331_))
        intro h335_
        refine ⟨(la_makeNew_15 h6_ h7_ h32_ h33_ h39_), ?_⟩
        intro r56
        intro h336_
        intro h337_
        refine ⟨⟨h11_, ⟨h12_, ⟨h13_, ⟨h14_, ⟨h15_, ⟨h16_, ⟨h17_, ⟨h18_, ⟨h19_, ⟨h20_, ⟨h21_, ⟨h22_, (la_makeNew_71 h6_ h7_ h25_ h32_ h33_ h39_ h332_ h333_ h337_)⟩⟩⟩⟩⟩⟩⟩⟩⟩⟩⟩⟩, ?_⟩
        intro r62
        intro h338_
        intro g58
        rintro ⟨h339_, ⟨h340_, ⟨h341_, ⟨h342_, ⟨h343_, ⟨h344_, ⟨h345_, ⟨h346_, ⟨h347_, ⟨h348_, ⟨h349_, ⟨h350_, ⟨h351_, ⟨h352_, ⟨h353_, ⟨h354_, ⟨h355_, ⟨h356_, ⟨h357_, ⟨h358_, ⟨h359_, ⟨h360_, ⟨h361_, ⟨h362_, ⟨h363_, h364_⟩⟩⟩⟩⟩⟩⟩⟩⟩⟩⟩⟩⟩⟩⟩⟩⟩⟩⟩⟩⟩⟩⟩⟩⟩
        have h365_ := (h363_ h24_)
        have h366_ := (h365_ la_makeNew_18)
        have h367_ := (h366_ (la_makeNew_19 h25_))
        intro h368_
        have h369_ := (h368_ h351_)
        have h370_ := (h369_ h352_)
        rintro ⟨h371_, h372_⟩
        refine ⟨?_, ?_⟩
        · skip
          intro h373_
          have h374_ := (h362_ (la_makeNew_20 h372_ (la_makeNew_6 h371_ h373_)))
          have h375_ := (h374_ h8_)
          have h376_ := (h361_ h375_)
          refine ⟨h339_, ?_⟩
          refine ⟨h12_, ?_⟩
          refine ⟨h341_, ?_⟩
          refine ⟨h342_, ?_⟩
          refine ⟨h343_, ?_⟩
          refine ⟨h344_, ?_⟩
          refine ⟨h345_, ?_⟩
          refine ⟨h18_, ?_⟩
          refine ⟨h19_, ?_⟩
          refine ⟨h20_, ?_⟩
          refine ⟨h349_, ?_⟩
          refine ⟨h350_, ?_⟩
          refine ⟨?_, ?_⟩
          · skip
            intro h377_
            obtain ⟨h378_, h379_⟩ := ((sm_VO_e h50_).2.2.1 (la_makeNew_21 (la_makeNew_6 h371_ h373_) h377_))
            obtain ⟨h380_, ⟨h381_, h382_⟩⟩ := ((sm_VO_e h50_).2.2.2 (la_makeNew_23 (la_makeNew_6 h371_ h373_) h377_))
            obtain ⟨h383_, h384_⟩ := ((sm_VO_e h87_).2.2.1 (la_makeNew_21 (la_makeNew_6 h371_ h373_) h377_))
            obtain ⟨h385_, ⟨h386_, h387_⟩⟩ := ((sm_VO_e h87_).2.2.2 (la_makeNew_22 (sm_VO_e h87_).2.1 (la_makeNew_6 h371_ h373_) h377_))
            obtain ⟨h388_, ⟨h389_, h390_⟩⟩ := (h98_.resolve_left (la_makeNew_24 (la_makeNew_6 h371_ h373_) h377_))
            have h391_ := (h112_ (la_makeNew_27 h388_))
            obtain ⟨h392_, h393_⟩ := (h364_ (la_makeNew_28 (la_makeNew_6 h371_ h373_) h377_))
            have h394_ := (h391_ (la_makeNew_32 h25_ (la_makeNew_31 (la_makeNew_30 h375_ h393_) h390_)))
            have h395_ := (h394_ h97_)
            have h396_ := (h395_ (la_makeNew_33 (la_makeNew_26 (la_makeNew_25 (la_makeNew_6 h371_ h373_) h377_) h110_)))
            refine ⟨h23_, ?_⟩
            exact h367_
          refine ⟨(la_makeNew_72 h25_ h375_), ?_⟩
          refine ⟨h26_, ?_⟩
          refine ⟨h27_, ?_⟩
          refine ⟨h28_, ?_⟩
          refine ⟨h37_, ?_⟩
          refine ⟨h353_, ?_⟩
          refine ⟨(la_makeNew_35 h40_), ?_⟩
          refine ⟨h41_, ?_⟩
          refine ⟨la_makeNew_36, ?_⟩
          refine ⟨?_, ?_⟩
          · skip
            intro h397_
            exact (sm_LX_m h10_ h354_)
          refine ⟨?_, ?_⟩
          · skip
            intro h398_
            obtain ⟨h399_, h400_⟩ := ((sm_VO_e h50_).2.2.1 (la_makeNew_21 (la_makeNew_6 h371_ h373_) h398_))
            obtain ⟨h401_, ⟨h402_, h403_⟩⟩ := ((sm_VO_e h50_).2.2.2 (la_makeNew_23 (la_makeNew_6 h371_ h373_) h398_))
            obtain ⟨h404_, h405_⟩ := ((sm_VO_e h87_).2.2.1 (la_makeNew_21 (la_makeNew_6 h371_ h373_) h398_))
            obtain ⟨h406_, ⟨h407_, h408_⟩⟩ := ((sm_VO_e h87_).2.2.2 (la_makeNew_22 (sm_VO_e h87_).2.1 (la_makeNew_6 h371_ h373_) h398_))
            obtain ⟨h409_, ⟨h410_, h411_⟩⟩ := (h98_.resolve_left (la_makeNew_24 (la_makeNew_6 h371_ h373_) h398_))
            have h412_ := (h112_ (la_makeNew_27 h409_))
            obtain ⟨h413_, h414_⟩ := (h364_ (la_makeNew_28 (la_makeNew_6 h371_ h373_) h398_))
            have h415_ := (h412_ (la_makeNew_32 h25_ (la_makeNew_31 (la_makeNew_30 h375_ h414_) h411_)))
            have h416_ := (h415_ h97_)
            have h417_ := (h416_ (la_makeNew_33 (la_makeNew_26 (la_makeNew_25 (la_makeNew_6 h371_ h373_) h398_) h110_)))
            intro h418_
            refine ⟨h40_, ?_⟩
            refine ⟨h41_, ?_⟩
            refine ⟨(la_makeNew_37 h42_ h53_), ?_⟩
            refine ⟨(la_makeNew_38 h53_ h67_), ?_⟩
            refine ⟨?_, ?_⟩
            · skip
              have e419_ : S 29 (S 57 (S 1092 0 - 1)) = S 29 (S 1100033 0) := congrArg ((S 29)) h53_
              have e420_ : S 44 (S 64 (400 * (S 1092 0 - 1) + (S 58 (S 1092 0 - 1) - (p1 + 1)))) = S 44 (S 56 (S 1092 0 - 1)) := congrArg ((S 44)) (la_makeNew_39 h375_ h414_)
              have e421_ : S 44 (S 64 x3) = S 44 (S 56 (S 1092 0 - 1)) := congrArg ((S 44)) (la_makeNew_39 h375_ h414_)
              have e422_ : S 44 (S 64 x3) = S 44 (S 64 (400 * (S 1092 0 - 1) + (S 58 (S 1092 0 - 1) - (p1 + 1)))) := congrArg ((S 44)) (la_makeNew_39 h375_ h414_)
              have e423_ : S 44 (g19 1112 0) = S 44 (S 56 (S 1092 0 - 1)) := congrArg ((S 44)) (la_makeNew_39 h375_ h414_)
              have e424_ : S 44 (g19 1112 0) = S 44 (S 64 (400 * (S 1092 0 - 1) + (S 58 (S 1092 0 - 1) - (p1 + 1)))) := congrArg ((S 44)) (la_makeNew_39 h375_ h414_)
              have e425_ : S 44 (g19 1112 0) = S 44 (S 64 x3) := congrArg ((S 44)) (la_makeNew_39 h375_ h414_)
              have e426_ : S 63 x3 = S 63 (400 * (S 1092 0 - 1) + (S 58 (S 1092 0 - 1) - (p1 + 1))) := congrArg ((S 63)) (la_makeNew_7 h88_)
              have e427_ : S 64 x3 = S 64 (400 * (S 1092 0 - 1) + (S 58 (S 1092 0 - 1) - (p1 + 1))) := congrArg ((S 64)) (la_makeNew_7 h88_)
              exact (la_makeNew_42 h44_ e419_)
            refine ⟨h45_, ?_⟩
            refine ⟨h46_, ?_⟩
            refine ⟨?_, ?_⟩
            · skip
              have e428_ : S 1100023 (S 57 (S 1092 0 - 1)) = S 1100023 (S 1100033 0) := congrArg ((S 1100023)) h53_
              have e429_ : S 44 (S 64 (400 * (S 1092 0 - 1) + (S 58 (S 1092 0 - 1) - (p1 + 1)))) = S 44 (S 56 (S 1092 0 - 1)) := congrArg ((S 44)) (la_makeNew_39 h375_ h414_)
              have e430_ : S 44 (S 64 x3) = S 44 (S 56 (S 1092 0 - 1)) := congrArg ((S 44)) (la_makeNew_39 h375_ h414_)
              have e431_ : S 44 (S 64 x3) = S 44 (S 64 (400 * (S 1092 0 - 1) + (S 58 (S 1092 0 - 1) - (p1 + 1)))) := congrArg ((S 44)) (la_makeNew_39 h375_ h414_)
              have e432_ : S 44 (g19 1112 0) = S 44 (S 56 (S 1092 0 - 1)) := congrArg ((S 44)) (la_makeNew_39 h375_ h414_)
              have e433_ : S 44 (g19 1112 0) = S 44 (S 64 (400 * (S 1092 0 - 1) + (S 58 (S 1092 0 - 1) - (p1 + 1)))) := congrArg ((S 44)) (la_makeNew_39 h375_ h414_)
              have e434_ : S 44 (g19 1112 0) = S 44 (S 64 x3) := congrArg ((S 44)) (la_makeNew_39 h375_ h414_)
              have e435_ : S 63 x3 = S 63 (400 * (S 1092 0 - 1) + (S 58 (S 1092 0 - 1) - (p1 + 1))) := congrArg ((S 63)) (la_makeNew_7 h88_)
              have e436_ : S 64 x3 = S 64 (400 * (S 1092 0 - 1) + (S 58 (S 1092 0 - 1) - (p1 + 1))) := congrArg ((S 64)) (la_makeNew_7 h88_)
              have e437_ : sm_dp (S 1100024) (S 1100023 (S 57 (S 1092 0 - 1))) = sm_dp (S 1100024) (S 1100023 (S 1100033 0)) := congrArg ((sm_dp (S 1100024))) e428_
              exact (la_makeNew_43 h47_ e437_)
            refine ⟨?_, ?_⟩
            · skip
              have e438_ : S 1100023 (S 57 (S 1092 0 - 1)) = S 1100023 (S 1100033 0) := congrArg ((S 1100023)) h53_
              have e439_ : S 44 (S 64 (400 * (S 1092 0 - 1) + (S 58 (S 1092 0 - 1) - (p1 + 1)))) = S 44 (S 56 (S 1092 0 - 1)) := congrArg ((S 44)) (la_makeNew_39 h375_ h414_)
              have e440_ : S 44 (S 64 x3) = S 44 (S 56 (S 1092 0 - 1)) := congrArg ((S 44)) (la_makeNew_39 h375_ h414_)
              have e441_ : S 44 (S 64 x3) = S 44 (S 64 (400 * (S 1092 0 - 1) + (S 58 (S 1092 0 - 1) - (p1 + 1)))) := congrArg ((S 44)) (la_makeNew_39 h375_ h414_)
              have e442_ : S 44 (g19 1112 0) = S 44 (S 56 (S 1092 0 - 1)) := congrArg ((S 44)) (la_makeNew_39 h375_ h414_)
              have e443_ : S 44 (g19 1112 0) = S 44 (S 64 (400 * (S 1092 0 - 1) + (S 58 (S 1092 0 - 1) - (p1 + 1)))) := congrArg ((S 44)) (la_makeNew_39 h375_ h414_)
              have e444_ : S 44 (g19 1112 0) = S 44 (S 64 x3) := congrArg ((S 44)) (la_makeNew_39 h375_ h414_)
              have e445_ : S 63 x3 = S 63 (400 * (S 1092 0 - 1) + (S 58 (S 1092 0 - 1) - (p1 + 1))) := congrArg ((S 63)) (la_makeNew_7 h88_)
              have e446_ : S 64 x3 = S 64 (400 * (S 1092 0 - 1) + (S 58 (S 1092 0 - 1) - (p1 + 1))) := congrArg ((S 64)) (la_makeNew_7 h88_)
              exact (sm_TC_t h48_ (la_makeNew_44 e438_))
            refine ⟨(sm_LK_m h49_ h354_ (sm_F1_le h356_ (Int.le_refl _))), ?_⟩
            refine ⟨(sm_VO_m h50_ h354_ (Int.le_refl _) (sm_F1_le h355_ (Int.le_refl _))), ?_⟩
            refine ⟨(sm_FW_m h51_ h354_ (sm_F1_le h355_ (Int.le_refl _))), ?_⟩
            refine ⟨(sm_FL_F h52_ sm_F1_rf sm_F1_rf sm_F1_rf sm_F1_rf sm_F1_rf sm_F1_rf sm_F1_rf sm_F1_rf sm_F1_rf sm_F1_rf sm_F1_rf sm_F1_rf h354_ (Int.le_refl _) (sm_F1_le h356_ (Int.le_refl _)) (sm_F1_le h355_ (Int.le_refl _)) (sm_FL_dp h52_ h29_)), ?_⟩
            refine ⟨?_, ?_⟩
            · skip
              have e447_ : S 1100007 (S 57 (S 1092 0 - 1)) = S 1100007 (S 1100033 0) := congrArg ((S 1100007)) h53_
              have e448_ : S 44 (S 64 (400 * (S 1092 0 - 1) + (S 58 (S 1092 0 - 1) - (p1 + 1)))) = S 44 (S 56 (S 1092 0 - 1)) := congrArg ((S 44)) (la_makeNew_39 h375_ h414_)
              have e449_ : S 44 (S 64 x3) = S 44 (S 56 (S 1092 0 - 1)) := congrArg ((S 44)) (la_makeNew_39 h375_ h414_)
              have e450_ : S 44 (S 64 x3) = S 44 (S 64 (400 * (S 1092 0 - 1) + (S 58 (S 1092 0 - 1) - (p1 + 1)))) := congrArg ((S 44)) (la_makeNew_39 h375_ h414_)
              have e451_ : S 44 (g19 1112 0) = S 44 (S 56 (S 1092 0 - 1)) := congrArg ((S 44)) (la_makeNew_39 h375_ h414_)
              have e452_ : S 44 (g19 1112 0) = S 44 (S 64 (400 * (S 1092 0 - 1) + (S 58 (S 1092 0 - 1) - (p1 + 1)))) := congrArg ((S 44)) (la_makeNew_39 h375_ h414_)
              have e453_ : S 44 (g19 1112 0) = S 44 (S 64 x3) := congrArg ((S 44)) (la_makeNew_39 h375_ h414_)
              have e454_ : S 63 x3 = S 63 (400 * (S 1092 0 - 1) + (S 58 (S 1092 0 - 1) - (p1 + 1))) := congrArg ((S 63)) (la_makeNew_7 h88_)
              have e455_ : S 64 x3 = S 64 (400 * (S 1092 0 - 1) + (S 58 (S 1092 0 - 1) - (p1 + 1))) := congrArg ((S 64)) (la_makeNew_7 h88_)
              exact (la_makeNew_43 h60_ e447_)
            have e456_ : S 1100025 (S 57 (S 1092 0 - 1)) = S 1100025 (S 1100033 0) := congrArg ((S 1100025)) h53_
            have e457_ : S 44 (S 64 (400 * (S 1092 0 - 1) + (S 58 (S 1092 0 - 1) - (p1 + 1)))) = S 44 (S 56 (S 1092 0 - 1)) := congrArg ((S 44)) (la_makeNew_39 h375_ h414_)
            have e458_ : S 44 (S 64 x3) = S 44 (S 56 (S 1092 0 - 1)) := congrArg ((S 44)) (la_makeNew_39 h375_ h414_)
            have e459_ : S 44 (S 64 x3) = S 44 (S 64 (400 * (S 1092 0 - 1) + (S 58 (S 1092 0 - 1) - (p1 + 1)))) := congrArg ((S 44)) (la_makeNew_39 h375_ h414_)
            have e460_ : S 44 (g19 1112 0) = S 44 (S 56 (S 1092 0 - 1)) := congrArg ((S 44)) (la_makeNew_39 h375_ h414_)
            have e461_ : S 44 (g19 1112 0) = S 44 (S 64 (400 * (S 1092 0 - 1) + (S 58 (S 1092 0 - 1) - (p1 + 1)))) := congrArg ((S 44)) (la_makeNew_39 h375_ h414_)
            have e462_ : S 44 (g19 1112 0) = S 44 (S 64 x3) := congrArg ((S 44)) (la_makeNew_39 h375_ h414_)
            have e463_ : S 63 x3 = S 63 (400 * (S 1092 0 - 1) + (S 58 (S 1092 0 - 1) - (p1 + 1))) := congrArg ((S 63)) (la_makeNew_7 h88_)
            have e464_ : S 64 x3 = S 64 (400 * (S 1092 0 - 1) + (S 58 (S 1092 0 - 1) - (p1 + 1))) := congrArg ((S 64)) (la_makeNew_7 h88_)
            exact (sm_SK_q (sm_SK_m h56_ h354_ (Int.le_refl _) (sm_F1_le h355_ (Int.le_refl _))) (la_makeNew_46 h61_ e456_) rfl rfl)
          refine ⟨(la_makeNew_47 h9_ h40_ (la_makeNew_6 h371_ h373_)), ?_⟩
          refine ⟨la_makeNew_36, ?_⟩
          refine ⟨la_makeNew_48, ?_⟩
          refine ⟨h77_, ?_⟩
          refine ⟨h78_, ?_⟩
          exact h79_
        intro h465_
        obtain ⟨h466_, ⟨h467_, ⟨h468_, ⟨h469_, ⟨h470_, ⟨h471_, h472_⟩⟩⟩⟩⟩⟩ := (h360_ (la_makeNew_49 h465_))
        obtain ⟨h473_, h474_⟩ := (h364_ (la_makeNew_52 h345_ h352_ h466_))
        have h475_ := (h370_ (la_makeNew_53 h468_))
        obtain ⟨h476_, ⟨h477_, h478_⟩⟩ := ((sm_VO_e h475_).2.2.2 la_makeNew_55)
        refine ⟨(la_makeNew_57 h4_ h5_), ?_⟩
        refine ⟨?_, ?_⟩
        · skip
          refine ⟨(la_makeNew_58 h371_ h465_), ?_⟩
          refine ⟨h9_, ?_⟩
          refine ⟨(sm_LX_m h10_ h354_), ?_⟩
          refine ⟨h339_, ?_⟩
          refine ⟨h12_, ?_⟩
          refine ⟨h341_, ?_⟩
          refine ⟨h342_, ?_⟩
          refine ⟨h343_, ?_⟩
          refine ⟨h344_, ?_⟩
          refine ⟨h345_, ?_⟩
          refine ⟨h18_, ?_⟩
          refine ⟨h19_, ?_⟩
          refine ⟨h20_, ?_⟩
          refine ⟨h349_, ?_⟩
          refine ⟨h350_, ?_⟩
          refine ⟨h23_, ?_⟩
          refine ⟨h367_, ?_⟩
          refine ⟨(la_makeNew_59 h25_ h474_), ?_⟩
          refine ⟨h26_, ?_⟩
          refine ⟨h27_, ?_⟩
          refine ⟨h28_, ?_⟩
          refine ⟨h29_, ?_⟩
          refine ⟨h30_, ?_⟩
          refine ⟨h31_, ?_⟩
          refine ⟨h32_, ?_⟩
          refine ⟨h33_, ?_⟩
          refine ⟨h34_, ?_⟩
          refine ⟨h35_, ?_⟩
          refine ⟨h36_, ?_⟩
          refine ⟨h37_, ?_⟩
          refine ⟨h38_, ?_⟩
          refine ⟨h39_, ?_⟩
          refine ⟨h40_, ?_⟩
          refine ⟨h41_, ?_⟩
          refine ⟨h42_, ?_⟩
          refine ⟨h43_, ?_⟩
          refine ⟨h44_, ?_⟩
          refine ⟨h45_, ?_⟩
          refine ⟨h46_, ?_⟩
          refine ⟨h47_, ?_⟩
          refine ⟨h48_, ?_⟩
          refine ⟨(sm_LK_m h49_ h354_ (sm_F1_le h356_ (Int.le_refl _))), ?_⟩
          refine ⟨(sm_VO_m h50_ h354_ (Int.le_refl _) (sm_F1_le h355_ (Int.le_refl _))), ?_⟩
          refine ⟨(sm_FW_m h51_ h354_ (sm_F1_le h355_ (Int.le_refl _))), ?_⟩
          refine ⟨(sm_FL_F h52_ sm_F1_rf sm_F1_rf sm_F1_rf sm_F1_rf sm_F1_rf sm_F1_rf sm_F1_rf sm_F1_rf sm_F1_rf sm_F1_rf sm_F1_rf sm_F1_rf h354_ (Int.le_refl _) (sm_F1_le h356_ (Int.le_refl _)) (sm_F1_le h355_ (Int.le_refl _)) (sm_FL_dp h52_ h29_)), ?_⟩
          refine ⟨h53_, ?_⟩
          refine ⟨h54_, ?_⟩
          refine ⟨h55_, ?_⟩
          refine ⟨(sm_SK_m h56_ h354_ (Int.le_refl _) (sm_F1_le h355_ (Int.le_refl _))), ?_⟩
          refine ⟨h57_, ?_⟩
          refine ⟨h58_, ?_⟩
          refine ⟨h59_, ?_⟩
          refine ⟨h60_, ?_⟩
          refine ⟨h61_, ?_⟩
          refine ⟨h62_, ?_⟩
          refine ⟨h63_, ?_⟩
          refine ⟨h64_, ?_⟩
          refine ⟨h65_, ?_⟩
          refine ⟨h66_, ?_⟩
          refine ⟨h67_, ?_⟩
          refine ⟨h68_, ?_⟩
          refine ⟨h69_, ?_⟩
          refine ⟨h70_, ?_⟩
          refine ⟨h71_, ?_⟩
          refine ⟨h72_, ?_⟩
          refine ⟨h4_, ?_⟩
          refine ⟨la_makeNew_60, ?_⟩
          refine ⟨(la_makeNew_61 h88_), ?_⟩
          refine ⟨h73_, ?_⟩
          refine ⟨h74_, ?_⟩
          refine ⟨h75_, ?_⟩
          refine ⟨h76_, ?_⟩
          refine ⟨h77_, ?_⟩
          refine ⟨h78_, ?_⟩
          refine ⟨h79_, ?_⟩
          refine ⟨?_, ?_⟩
          · skip
            have e479_ : S 63 x3 = S 63 (400 * (S 1092 0 - 1) + (S 58 (S 1092 0 - 1) - (p1 + 1))) := congrArg ((S 63)) (la_makeNew_7 h88_)
            have e480_ : S 64 x3 = S 64 (400 * (S 1092 0 - 1) + (S 58 (S 1092 0 - 1) - (p1 + 1))) := congrArg ((S 64)) (la_makeNew_7 h88_)
            obtain ⟨h481_, ⟨h482_, h483_⟩⟩ := ((sm_VO_e h87_).2.2.2 (la_makeNew_9 (sm_VO_e h87_).2.1 h96_ e479_))
            have h484_ := (h112_ (la_makeNew_10 e480_ h481_))
            have h485_ := (h484_ (la_makeNew_13 e480_ h482_))
            have h486_ := (h485_ h97_)
            exact (sm_VO_eq (sm_VO_m h87_ h354_ (Int.le_refl _) (sm_F1_le h355_ (Int.le_refl _))) (la_makeNew_63 (sm_VO_e h87_).2.1 h96_ e479_) e480_)
          refine ⟨h475_, ?_⟩
          exact (Or.inr (la_makeNew_64 h25_ h352_ h466_ h468_))
        refine ⟨?_, ?_⟩
        · skip
          have e487_ : (if (7 : Int) = 7 then 1 else 0 : Int) = 1 := if_pos la_makeNew_55
          have e488_ : S 63 x3 = S 63 (400 * (S 1092 0 - 1) + (S 58 (S 1092 0 - 1) - (p1 + 1))) := congrArg ((S 63)) (la_makeNew_7 h88_)
          have e489_ : S 64 x3 = S 64 (400 * (S 1092 0 - 1) + (S 58 (S 1092 0 - 1) - (p1 + 1))) := congrArg ((S 64)) (la_makeNew_7 h88_)
          obtain ⟨h490_, ⟨h491_, h492_⟩⟩ := ((sm_VO_e h87_).2.2.2 (la_makeNew_9 (sm_VO_e h87_).2.1 h96_ e488_))
          have h493_ := (h112_ (la_makeNew_10 e489_ h490_))
          have h494_ := (h493_ (la_makeNew_13 e489_ h491_))
          have h495_ := (h494_ h97_)
          exact (la_makeNew_65 h4_ e487_)
        refine ⟨?_, ?_⟩
        · skip
          refine ⟨?_, ?_⟩
          · skip
            have e496_ : (if (7 : Int) = 7 then 1 else 0 : Int) = 1 := if_pos la_makeNew_55
            have e497_ : S 63 x3 = S 63 (400 * (S 1092 0 - 1) + (S 58 (S 1092 0 - 1) - (p1 + 1))) := congrArg ((S 63)) (la_makeNew_7 h88_)
            have e498_ : S 64 x3 = S 64 (400 * (S 1092 0 - 1) + (S 58 (S 1092 0 - 1) - (p1 + 1))) := congrArg ((S 64)) (la_makeNew_7 h88_)
            obtain ⟨h499_, ⟨h500_, h501_⟩⟩ := ((sm_VO_e h87_).2.2.2 (la_makeNew_9 (sm_VO_e h87_).2.1 h96_ e497_))
            have h502_ := (h112_ (la_makeNew_10 e498_ h499_))
            have h503_ := (h502_ (la_makeNew_13 e498_ h500_))
            have h504_ := (h503_ h97_)
            exact (la_makeNew_66 h4_ e496_)
          have e505_ : (if (7 : Int) = 7 then 1 else 0 : Int) = 1 := if_pos la_makeNew_55
          have e506_ : S 63 x3 = S 63 (400 * (S 1092 0 - 1) + (S 58 (S 1092 0 - 1) - (p1 + 1))) := congrArg ((S 63)) (la_makeNew_7 h88_)
          have e507_ : S 64 x3 = S 64 (400 * (S 1092 0 - 1) + (S 58 (S 1092 0 - 1) - (p1 + 1))) := congrArg ((S 64)) (la_makeNew_7 h88_)
          obtain ⟨h508_, ⟨h509_, h510_⟩⟩ := ((sm_VO_e h87_).2.2.2 (la_makeNew_9 (sm_VO_e h87_).2.1 h96_ e506_))
          have h511_ := (h112_ (la_makeNew_10 e507_ h508_))
          have h512_ := (h511_ (la_makeNew_13 e507_ h509_))
          have h513_ := (h512_ h97_)
          exact (la_makeNew_67 h5_ (sv_i01 (p := (7 : Int) = 7)).2)
        intro g70
        rintro ⟨h514_, ⟨h515_, ⟨h516_, ⟨h517_, ⟨h518_, ⟨h519_, ⟨h520_, ⟨h521_, ⟨h522_, ⟨h523_, ⟨h524_, ⟨h525_, ⟨h526_, ⟨h527_, ⟨h528_, ⟨h529_, ⟨h530_, ⟨h531_, ⟨h532_, ⟨h533_, ⟨h534_, ⟨h535_, ⟨h536_, ⟨h537_, ⟨h538_, ⟨h539_, ⟨h540_, ⟨h541_, ⟨h542_, h543_⟩⟩⟩⟩⟩⟩⟩⟩⟩⟩⟩⟩⟩⟩⟩⟩⟩⟩⟩⟩⟩⟩⟩⟩⟩⟩⟩⟩⟩
        refine ⟨h514_, ?_⟩
        refine ⟨h515_, ?_⟩
        refine ⟨h516_, ?_⟩
        refine ⟨h517_, ?_⟩
        refine ⟨h518_, ?_⟩
        refine ⟨h519_, ?_⟩
        refine ⟨h520_, ?_⟩
        refine ⟨h521_, ?_⟩
        refine ⟨h522_, ?_⟩
        refine ⟨h523_, ?_⟩
        refine ⟨h524_, ?_⟩
        refine ⟨h525_, ?_⟩
        refine ⟨h526_, ?_⟩
        refine ⟨h527_, ?_⟩
        refine ⟨h528_, ?_⟩
        refine ⟨h529_, ?_⟩
        refine ⟨h530_, ?_⟩
        refine ⟨h531_, ?_⟩
        refine ⟨(la_makeNew_68 h8_), ?_⟩
        refine ⟨h533_, ?_⟩
        refine ⟨h534_, ?_⟩
        refine ⟨h535_, ?_⟩
        refine ⟨h536_, ?_⟩
        refine ⟨h537_, ?_⟩
        refine ⟨h538_, ?_⟩
        refine ⟨h539_, ?_⟩
        refine ⟨h540_, ?_⟩
        refine ⟨h541_, ?_⟩
        refine ⟨h542_, ?_⟩
        exact h543_
      intro h544_
      obtain ⟨h545_, ⟨h546_, h547_⟩⟩ := (h98_.resolve_left (la_makeNew_75 h544_))
      refine ⟨(la_makeNew_57 h4_ h5_), ?_⟩
      refine ⟨⟨h8_, ⟨h9_, ⟨h10_, ⟨h11_, ⟨h12_, ⟨h13_, ⟨h14_, ⟨h15_, ⟨h16_, ⟨h17_, ⟨h18_, ⟨h19_, ⟨h20_, ⟨h21_, ⟨h22_, ⟨h23_, ⟨h24_, ⟨h25_, ⟨h26_, ⟨h27_, ⟨h28_, ⟨h29_, ⟨h30_, ⟨h31_, ⟨h32_, ⟨h33_, ⟨h34_, ⟨h35_, ⟨h36_, ⟨h37_, ⟨h38_, ⟨h39_, ⟨h40_, ⟨h41_, ⟨h42_, ⟨h43_, ⟨h44_, ⟨h45_, ⟨h46_, ⟨h47_, ⟨h48_, ⟨h49_, ⟨h50_, ⟨h51_, ⟨h52_, ⟨h53_, ⟨h54_, ⟨h55_, ⟨h56_, ⟨h57_, ⟨h58_, ⟨h59_, ⟨h60_, ⟨h61_, ⟨h62_, ⟨h63_, ⟨h64_, ⟨h65_, ⟨h66_, ⟨h67_, ⟨h68_, ⟨h69_, ⟨h70_, ⟨h71_, ⟨h72_, ⟨h4_, ⟨la_makeNew_60, ⟨(la_makeNew_61 h88_), ⟨h73_, ⟨h74_, ⟨h75_, ⟨h76_, ⟨(sm_VO_i la_makeNew_76 la_makeNew_77 la_makeNew_78 la_makeNew_79), ⟨(la_makeNew_80 h545_), ⟨(la_makeNew_81 h546_), ⟨(la_makeNew_82 h546_), ⟨h77_, ⟨h78_, h79_⟩⟩⟩⟩⟩⟩⟩⟩⟩⟩⟩⟩⟩⟩⟩⟩⟩⟩⟩⟩⟩⟩⟩⟩⟩⟩⟩⟩⟩⟩⟩⟩⟩⟩⟩⟩⟩⟩⟩⟩⟩⟩⟩⟩⟩⟩⟩⟩⟩⟩⟩⟩⟩⟩⟩⟩⟩⟩⟩⟩⟩⟩⟩⟩⟩⟩⟩⟩⟩⟩⟩⟩⟩⟩⟩⟩⟩⟩, ?_⟩
      intro g77
      rintro ⟨h548_, ⟨h549_, ⟨h550_, ⟨h551_, ⟨h552_, ⟨h553_, ⟨h554_, ⟨h555_, ⟨h556_, ⟨h557_, ⟨h558_, ⟨h559_, ⟨h560_, ⟨h561_, ⟨h562_, ⟨h563_, ⟨h564_, ⟨h565_, ⟨h566_, ⟨h567_, ⟨h568_, ⟨h569_, ⟨h570_, ⟨h571_, ⟨h572_, ⟨h573_, ⟨h574_, ⟨h575_, ⟨h576_, h577_⟩⟩⟩⟩⟩⟩⟩⟩⟩⟩⟩⟩⟩⟩⟩⟩⟩⟩⟩⟩⟩⟩⟩⟩⟩⟩⟩⟩⟩
      refine ⟨h548_, ?_⟩
      refine ⟨h549_, ?_⟩
      refine ⟨h550_, ?_⟩
      refine ⟨h551_, ?_⟩
      refine ⟨h552_, ?_⟩
      refine ⟨h553_, ?_⟩
      refine ⟨h554_, ?_⟩
      refine ⟨h555_, ?_⟩
      refine ⟨h556_, ?_⟩
      refine ⟨h557_, ?_⟩
      refine ⟨h558_, ?_⟩
      refine ⟨h559_, ?_⟩
      refine ⟨h560_, ?_⟩
      refine ⟨h561_, ?_⟩
      refine ⟨h562_, ?_⟩
      refine ⟨h563_, ?_⟩
      refine ⟨h564_, ?_⟩
      refine ⟨h565_, ?_⟩
      refine ⟨h566_, ?_⟩
      refine ⟨h567_, ?_⟩
      refine ⟨h568_, ?_⟩
      refine ⟨h569_, ?_⟩
      refine ⟨h570_, ?_⟩
      refine ⟨h571_, ?_⟩
      refine ⟨h572_, ?_⟩
      refine ⟨h573_, ?_⟩
      refine ⟨h574_, ?_⟩
      refine ⟨h575_, ?_⟩
      refine ⟨h576_, ?_⟩
      exact h577_
    intro h578_
    have h579_ := (h92_.resolve_right (la_makeNew_51 h578_))
    refine ⟨?_, ?_⟩
    · skip
      refine ⟨h8_, ?_⟩
      refine ⟨h9_, ?_⟩
      refine ⟨h10_, ?_⟩
      refine ⟨h11_, ?_⟩
      refine ⟨h12_, ?_⟩
      refine ⟨h13_, ?_⟩
      refine ⟨h14_, ?_⟩
      refine ⟨h15_, ?_⟩
      refine ⟨h16_, ?_⟩
      refine ⟨h17_, ?_⟩
      refine ⟨h18_, ?_⟩
      refine ⟨h19_, ?_⟩
      refine ⟨h20_, ?_⟩
      refine ⟨h21_, ?_⟩
      refine ⟨h22_, ?_⟩
      refine ⟨h23_, ?_⟩
      refine ⟨h24_, ?_⟩
      refine ⟨h25_, ?_⟩
      refine ⟨h26_, ?_⟩
      refine ⟨h27_, ?_⟩
      refine ⟨h28_, ?_⟩
      refine ⟨h29_, ?_⟩
      refine ⟨h30_, ?_⟩
      refine ⟨h31_, ?_⟩
      refine ⟨h32_, ?_⟩
      refine ⟨h33_, ?_⟩
      refine ⟨h34_, ?_⟩
      refine ⟨h35_, ?_⟩
      refine ⟨h36_, ?_⟩
      refine ⟨h37_, ?_⟩
      refine ⟨h38_, ?_⟩
      refine ⟨h39_, ?_⟩
      refine ⟨h40_, ?_⟩
      refine ⟨h41_, ?_⟩
      refine ⟨(la_makeNew_37 h42_ h53_), ?_⟩
      refine ⟨(la_makeNew_38 h53_ h67_), ?_⟩
      refine ⟨?_, ?_⟩
      · skip
        have e580_ : S 29 (S 57 (S 1092 0 - 1)) = S 29 (S 1100033 0) := congrArg ((S 29)) h53_
        have e581_ : S 63 x3 = S 63 (400 * (S 1092 0 - 1) + (S 58 (S 1092 0 - 1) - (p1 + 1))) := congrArg ((S 63)) (la_makeNew_7 h88_)
        have e582_ : S 64 x3 = S 64 (400 * (S 1092 0 - 1) + (S 58 (S 1092 0 - 1) - (p1 + 1))) := congrArg ((S 64)) (la_makeNew_7 h88_)
        exact (la_makeNew_42 h44_ e580_)
      refine ⟨h45_, ?_⟩
      refine ⟨h46_, ?_⟩
      refine ⟨?_, ?_⟩
      · skip
        have e583_ : S 1100023 (S 57 (S 1092 0 - 1)) = S 1100023 (S 1100033 0) := congrArg ((S 1100023)) h53_
        have e584_ : S 63 x3 = S 63 (400 * (S 1092 0 - 1) + (S 58 (S 1092 0 - 1) - (p1 + 1))) := congrArg ((S 63)) (la_makeNew_7 h88_)
        have e585_ : S 64 x3 = S 64 (400 * (S 1092 0 - 1) + (S 58 (S 1092 0 - 1) - (p1 + 1))) := congrArg ((S 64)) (la_makeNew_7 h88_)
        have e586_ : sm_dp (S 1100024) (S 1100023 (S 57 (S 1092 0 - 1))) = sm_dp (S 1100024) (S 1100023 (S 1100033 0)) := congrArg ((sm_dp (S 1100024))) e583_
        exact (la_makeNew_43 h47_ e586_)
      refine ⟨?_, ?_⟩
      · skip
        have e587_ : S 1100023 (S 57 (S 1092 0 - 1)) = S 1100023 (S 1100033 0) := congrArg ((S 1100023)) h53_
        have e588_ : S 63 x3 = S 63 (400 * (S 1092 0 - 1) + (S 58 (S 1092 0 - 1) - (p1 + 1))) := congrArg ((S 63)) (la_makeNew_7 h88_)
        have e589_ : S 64 x3 = S 64 (400 * (S 1092 0 - 1) + (S 58 (S 1092 0 - 1) - (p1 + 1))) := congrArg ((S 64)) (la_makeNew_7 h88_)
        exact (sm_TC_t h48_ (la_makeNew_44 e587_))
      refine ⟨h49_, ?_⟩
      refine ⟨h50_, ?_⟩
      refine ⟨h51_, ?_⟩
      refine ⟨h52_, ?_⟩
      refine ⟨?_, ?_⟩
      · skip
        have e590_ : S 1100007 (S 57 (S 1092 0 - 1)) = S 1100007 (S 1100033 0) := congrArg ((S 1100007)) h53_
        have e591_ : S 63 x3 = S 63 (400 * (S 1092 0 - 1) + (S 58 (S 1092 0 - 1) - (p1 + 1))) := congrArg ((S 63)) (la_makeNew_7 h88_)
        have e592_ : S 64 x3 = S 64 (400 * (S 1092 0 - 1) + (S 58 (S 1092 0 - 1) - (p1 + 1))) := congrArg ((S 64)) (la_makeNew_7 h88_)
        exact (la_makeNew_43 h60_ e590_)
      refine ⟨?_, ?_⟩
      · skip
        have e593_ : S 1100025 (S 57 (S 1092 0 - 1)) = S 1100025 (S 1100033 0) := congrArg ((S 1100025)) h53_
        have e594_ : S 63 x3 = S 63 (400 * (S 1092 0 - 1) + (S 58 (S 1092 0 - 1) - (p1 + 1))) := congrArg ((S 63)) (la_makeNew_7 h88_)
        have e595_ : S 64 x3 = S 64 (400 * (S 1092 0 - 1) + (S 58 (S 1092 0 - 1) - (p1 + 1))) := congrArg ((S 64)) (la_makeNew_7 h88_)
        exact (sm_SK_q h56_ (la_makeNew_46 h61_ e593_) rfl rfl)
      refine ⟨?_, ?_⟩
      · skip
        intro h596_
        have e597_ : S 1100023 (S 57 (S 1092 0 - 1)) = S 1100023 (S 1100033 0) := congrArg ((S 1100023)) h53_
        have e598_ : S 63 x3 = S 63 (400 * (S 1092 0 - 1) + (S 58 (S 1092 0 - 1) - (p1 + 1))) := congrArg ((S 63)) (la_makeNew_7 h88_)
        have e599_ : S 64 x3 = S 64 (400 * (S 1092 0 - 1) + (S 58 (S 1092 0 - 1) - (p1 + 1))) := congrArg ((S 64)) (la_makeNew_7 h88_)
        have h600_ := (h62_ (la_makeNew_83 h596_ e597_))
        have h601_ := (h72_ (la_makeNew_83 h596_ e597_))
        have e602_ : S 1100007 (S 1100023 (S 57 (S 1092 0 - 1))) = S 1100007 (S 1100023 (S 1100033 0)) := congrArg ((S 1100007)) e597_
        exact (la_makeNew_84 h64_ h601_ e602_)
      refine ⟨la_makeNew_85, ?_⟩
      exact la_makeNew_86
    intro g83
    rintro ⟨h603_, ⟨h604_, ⟨h605_, ⟨h606_, ⟨h607_, ⟨h608_, ⟨h609_, ⟨h610_, ⟨h611_, ⟨h612_, ⟨h613_, ⟨h614_, ⟨h615_, ⟨h616_, ⟨h617_, ⟨h618_, ⟨h619_, ⟨h620_, ⟨h621_, ⟨h622_, ⟨h623_, ⟨h624_, ⟨h625_, ⟨h626_, ⟨h627_, h628_⟩⟩⟩⟩⟩⟩⟩⟩⟩⟩⟩⟩⟩⟩⟩⟩⟩⟩⟩⟩⟩⟩⟩⟩⟩
    refine ⟨h603_, ?_⟩
    refine ⟨h12_, ?_⟩
    refine ⟨h605_, ?_⟩
    refine ⟨h606_, ?_⟩
    refine ⟨h607_, ?_⟩
    refine ⟨h608_, ?_⟩
    refine ⟨h609_, ?_⟩
    refine ⟨h18_, ?_⟩
    refine ⟨h19_, ?_⟩
    refine ⟨h20_, ?_⟩
    refine ⟨h613_, ?_⟩
    refine ⟨h614_, ?_⟩
    refine ⟨h615_, ?_⟩
    refine ⟨h616_, ?_⟩
    refine ⟨h26_, ?_⟩
    refine ⟨h27_, ?_⟩
    refine ⟨h28_, ?_⟩
    refine ⟨h37_, ?_⟩
    refine ⟨h621_, ?_⟩
    refine ⟨h622_, ?_⟩
    refine ⟨h623_, ?_⟩
    refine ⟨h624_, ?_⟩
    refine ⟨h625_, ?_⟩
    refine ⟨h626_, ?_⟩
    refine ⟨h627_, ?_⟩
    refine ⟨la_makeNew_36, ?_⟩
    refine ⟨la_makeNew_48, ?_⟩
    refine ⟨h77_, ?_⟩
    refine ⟨h78_, ?_⟩
    exact h79_
  refine ⟨?_, ?_⟩
  · skip
    intro h629_
    refine ⟨?_, ?_⟩
    · skip
      have e630_ : S 63 x3 = S 63 (400 * (S 1092 0 - 1) + (S 58 (S 1092 0 - 1) - (p1 + 1))) := congrArg ((S 63)) (la_makeNew_7 h88_)
      have e631_ : S 64 x3 = S 64 (400 * (S 1092 0 - 1) + (S 58 (S 1092 0 - 1) - (p1 + 1))) := congrArg ((S 64)) (la_makeNew_7 h88_)
      obtain ⟨h632_, ⟨h633_, h634_⟩⟩ := ((sm_VO_e h87_).2.2.2 (la_makeNew_9 (sm_VO_e h87_).2.1 h629_ e630_))
      exact (la_makeNew_10 e631_ h632_)
    have e635_ : S 63 x3 = S 63 (400 * (S 1092 0 - 1) + (S 58 (S 1092 0 - 1) - (p1 + 1))) := congrArg ((S 63)) (la_makeNew_7 h88_)
    have e636_ : S 64 x3 = S 64 (400 * (S 1092 0 - 1) + (S 58 (S 1092 0 - 1) - (p1 + 1))) := congrArg ((S 64)) (la_makeNew_7 h88_)
    obtain ⟨h637_, ⟨h638_, h639_⟩⟩ := ((sm_VO_e h87_).2.2.2 (la_makeNew_9 (sm_VO_e h87_).2.1 h629_ e635_))
    exact (la_makeNew_11 h17_ e636_ h638_)
  intro r94
  intro h640_
  rintro ⟨h641_, ⟨h642_, h643_⟩⟩
  refine ⟨la_makeNew_87, ?_⟩
  intro h644_
  have h645_ := (h641_.resolve_left h644_)
  obtain ⟨h646_, h647_⟩ := (h642_ h645_)
  refine ⟨?_, ?_⟩
  · skip
    refine ⟨?_, ?_⟩
    · skip
      have e648_ : S 63 x3 = S 63 (400 * (S 1092 0 - 1) + (S 58 (S 1092 0 - 1) - (p1 + 1))) := congrArg ((S 63)) (la_makeNew_7 h88_)
      have e649_ : S 64 x3 = S 64 (400 * (S 1092 0 - 1) + (S 58 (S 1092 0 - 1) - (p1 + 1))) := congrArg ((S 64)) (la_makeNew_7 h88_)
      obtain ⟨h650_, ⟨h651_, h652_⟩⟩ := ((sm_VO_e h87_).2.2.2 (la_makeNew_9 (sm_VO_e h87_).2.1 h646_ e648_))
      exact (la_makeNew_10 e649_ h650_)
    have e653_ : S 63 x3 = S 63 (400 * (S 1092 0 - 1) + (S 58 (S 1092 0 - 1) - (p1 + 1))) := congrArg ((S 63)) (la_makeNew_7 h88_)
    have e654_ : S 64 x3 = S 64 (400 * (S 1092 0 - 1) + (S 58 (S 1092 0 - 1) - (p1 + 1))) := congrArg ((S 64)) (la_makeNew_7 h88_)
    obtain ⟨h655_, ⟨h656_, h657_⟩⟩ := ((sm_VO_e h87_).2.2.2 (la_makeNew_9 (sm_VO_e h87_).2.1 h646_ e653_))
    exact (la_makeNew_11 h17_ e654_ h656_)
  intro h658_
  refine ⟨(la_makeNew_88 h646_ h647_), ?_⟩
  intro h659_
  refine ⟨la_makeNew_89, ?_⟩
  intro h660_
  refine ⟨la_makeNew_90, ?_⟩
  intro h661_
  refine ⟨la_makeNew_91, ?_⟩
  intro h662_
  refine ⟨la_makeNew_92, ?_⟩
  intro h663_
  refine ⟨h646_, ?_⟩
  refine ⟨h647_, ?_⟩
  have e664_ : S 63 x3 = S 63 (400 * (S 1092 0 - 1) + (S 58 (S 1092 0 - 1) - (p1 + 1))) := congrArg ((S 63)) (la_makeNew_7 h88_)
  have e665_ : S 64 x3 = S 64 (400 * (S 1092 0 - 1) + (S 58 (S 1092 0 - 1) - (p1 + 1))) := congrArg ((S 64)) (la_makeNew_7 h88_)
  obtain ⟨h666_, ⟨h667_, h668_⟩⟩ := ((sm_VO_e h87_).2.2.2 (la_makeNew_9 (sm_VO_e h87_).2.1 h646_ e664_))
  exact (la_makeNew_93 h660_ h661_ h662_)
set_option maxRecDepth 8000 in
set_option maxHeartbeats 2000000 in
theorem t_makeNew : ∀ (p1 : Int) (p2 : Int) (S : sv_S), sm_ok S → sv_R p1 → sv_R p2 → (0 ≤ p1 ∧ p1 ≤ 8 ∧ 0 ≤ p2 ∧ p2 < (S 1055 0) ∧ (S 1075 0) = 0 ∧ (S 1073 0) = 1 ∧ sm_LX (S 58) (S 63) (S 64) (S 1092 0) (S 1076 0) ∧ sm_PL (S 1100020) (S 51) (S 52) (S 46) (S 47) (S 1076 0) (S 1086 0) ∧ sm_FR (S 1100020) (S 52) (S 1100021) (S 1100022) (3000 - (S 1084 0)) (S 1085 0) ∧ sm_PV (S 1100020) (S 48) (S 49) (S 50) (S 44) (S 1076 0) (S 1007 0) ∧ sm_AL (S 1100020) (S 48) (S 49) (S 50) (S 44) (S 1076 0) (S 1100032 0) ∧ sm_SV (S 1100020) (S 48) (S 1100029) (S 32) (S 33) (S 1076 0) (S 1032 0) ∧ 0 ≤ (S 1076 0) ∧ (S 1076 0) ≤ 300 ∧ 0 ≤ (S 1084 0) ∧ (S 1084 0) ≤ 3000 ∧ 0 ≤ (S 1086 0) ∧ sm_SC (S 1100029) (S 44) (S 45) (S 43) (S 21) (S 1076 0) (S 1032 0) ∧ sm_PO (S 42) (S 1076 0) ∧ (S 1100032 0) = -1 ∧ sm_FO (S 44) (S 45) (S 1076 0) ∧ 23 ≤ (S 1076 0) ∧ 31 ≤ (S 1007 0) ∧ (S 1007 0) ≤ 400 ∧ sm_LN (S 4) 400 (S 1007 0) ∧ sm_CT (S 26) (S 27) (S 28) (S 29) (S 1100007) (S 1100023) (S 1100024) (S 1100025) (S 21) (S 1046 0) (S 1032 0) (S 1008 0) (S 1055 0) ∧ sm_LS (S 26) (S 1100007) (S 1100025) (S 1046 0) ∧ sm_CL (S 1100007) (S 1100023) (S 1100025) (S 1046 0) ∧ 1 ≤ (S 1032 0) ∧ (S 1032 0) ≤ 11 ∧ 0 ≤ (S 1046 0) ∧ (S 1046 0) ≤ 600 ∧ 31 ≤ (S 1008 0) ∧ (S 1008 0) ≤ (S 1007 0) ∧ 0 ≤ (S 1055 0) ∧ (S 1055 0) ≤ 19 ∧ 1 ≤ (S 1092 0) ∧ (S 1092 0) ≤ 24 ∧ 0 ≤ (S 1100033 0) ∧ (S 1100033 0) < (S 1046 0) ∧ (S 29 (S 1100033 0)) = (S 53 ((S 1092 0) - 1)) ∧ 0 ≤ (S 53 ((S 1092 0) - 1)) ∧ (S 53 ((S 1092 0) - 1)) < (S 1032 0) ∧ (S 60 ((S 1092 0) - 1)) = sm_dp (S 1100024) (S 1100023 (S 1100033 0)) ∧ sm_TC (S 61) (S 62) (S 27) (S 1100007) (S 1100023) (S 1100024) (40 * ((S 1092 0) - 1)) (S 1100023 (S 1100033 0)) ∧ sm_LK (S 1100029) (S 1076 0) (S 54 ((S 1092 0) - 1)) (S 53 ((S 1092 0) - 1)) ∧ sm_VO (S 44) (S 1076 0) (S 1007 0) ((S 55 ((S 1092 0) - 1))) ((S 56 ((S 1092 0) - 1))) ∧ sm_FW (S 44) (S 1076 0) (S 59 ((S 1092 0) - 1)) ∧ sm_FL (S 53) (S 54) (S 55) (S 56) (S 57) (S 58) (S 59) (S 60) (S 61) (S 62) (S 63) (S 64) (S 27) (S 29) (S 1100007) (S 1100023) (S 1100024) (S 1100025) (S 26) (S 1100029) (S 44) (S 1046 0) (S 1032 0) (S 1076 0) (S 1007 0) (((S 1092 0) - 1)) ∧ (S 57 ((S 1092 0) - 1)) = (S 1100033 0) ∧ 0 ≤ (S 58 ((S 1092 0) - 1)) ∧ (S 58 ((S 1092 0) - 1)) ≤ 400 ∧ sm_SK (S 63) (S 64) (S 44) (S 1100007) (S 1100025) (S 1076 0) (S 1007 0) (400 * ((S 1092 0) - 1)) ((S 58 ((S 1092 0) - 1))) ((S 1100034 0)) ∧ -1 ≤ (S 1100034 0) ∧ (S 1100034 0) < (S 1046 0) ∧ (0 ≤ (S 1100034 0) → (S 26 (S 1100034 0)) = 29) ∧ (S 58 ((S 1092 0) - 1)) = (S 1100007 (S 1100033 0)) ∧ (S 1100034 0) = (S 1100025 (S 1100033 0)) ∧ (0 ≤ (S 1100023 (S 1100033 0)) → (S 1100007 (S 1100023 (S 1100033 0))) ≤ (S 58 ((S 1092 0) - 1))) ∧ (S 58 ((S 1092 0) - 1)) ≤ 396 ∧ 1 ≤ (p1 + 1) ∧ (p1 + 1) ≤ (S 58 ((S 1092 0) - 1)) ∧ (0 ≤ (S 1100034 0) → (S 1100007 (S 1100034 0)) ≤ (S 58 ((S 1092 0) - 1)) - (p1 + 1)) ∧ (S 1100033 0) + 1 < (S 1046 0) ∧ (S 29 ((S 1100033 0) + 1)) = (S 29 (S 1100033 0)) ∧ (S 1100007 ((S 1100033 0) + 1)) = (S 58 ((S 1092 0) - 1)) + 1 - (p1 + 1) ∧ (S 1100023 ((S 1100033 0) + 1)) = (S 1100023 (S 1100033 0)) ∧ (S 1100025 ((S 1100033 0) + 1)) = (S 1100034 0) ∧ (0 ≤ (S 1100023 (S 1100033 0)) → (S 1100007 (S 1100023 (S 1100033 0))) ≤ (S 58 ((S 1092 0) - 1)) - (p1 + 1)) ∧ (∀ g : Int, 0 ≤ g → g < (S 1032 0) → 0 ≤ (S 30 g) ∧ (S 30 g) < (S 1046 0) ∧ (S 1100007 (S 30 g)) = 0 ∧ (S 1100023 (S 30 g)) = -1 ∧ 0 ≤ (S 33 g) ∧ (S 33 g) ≤ 100 ∧ 0 ≤ (S 20 g) ∧ (S 20 g) ≤ 8) ∧ sm_VN (S 32) (S 33) (S 1032 0) (S 1008 0) ∧ (∀ f : Int, 0 ≤ f → f < (S 1032 0) → 0 ≤ (S 30 f) ∧ (S 30 f) < (S 1046 0) ∧ (S 29 (S 30 f)) = f ∧ (S 1100007 (S 30 f)) = 0 ∧ (S 1100023 (S 30 f)) = -1 ∧ (S 1100025 (S 30 f)) = -1) ∧ (S 1086 0) ≤ 1900000000 ∧ 0 ≤ (S 1107 0) ∧ (S 1107 0) ≤ 100 ∧ sm_PT (S 67) (S 1107 0) (S 1007 0)) → sv_T sm_XS sm_cs sm_L sm_sh 100 (q_makeNew p1 p2 S) 185 0 (lv_args 0 [.ref 0, sv_I p1, sv_I p2]) [] S := by
  intro p1 p2 S hok hp1 hp2 hpre
  have h := f_makeNew p1 p2 S hok hp1 hp2 hpre
  have hM := sm_h185
  show sv_T sm_XS sm_cs sm_L sm_sh 100 (q_makeNew p1 p2 S) 185 0 [(0, .ref 0), (1, sv_I p1), (2, sv_I p2)] [] S
  have k1 : (sm_SK (S 63) (S 64) (S 44) (S 1100007) (S 1100025) (S 1076 0) (S 1007 0) (400 * ((S 1092 0) - 1)) ((S 58 ((S 1092 0) - 1))) ((S 1100034 0)) → sm_LS (S 26) (S 1100007) (S 1100025) (S 1046 0) → 0 ≤ (S 58 ((S 1092 0) - 1)) - (p1 + 1) → (S 58 ((S 1092 0) - 1)) - (p1 + 1) < (S 58 ((S 1092 0) - 1)) → (S 1100034 0) < (S 1046 0) → (0 ≤ (S 1100034 0) → (S 26 (S 1100034 0)) = 29) → (0 ≤ (S 1100034 0) → (S 1100007 (S 1100034 0)) ≤ (S 58 ((S 1092 0) - 1)) - (p1 + 1)) → sm_VO (S 44) (S 1076 0) (S 1007 0) ((S 63 (400 * ((S 1092 0) - 1) + ((S 58 ((S 1092 0) - 1)) - (p1 + 1))))) ((S 64 (400 * ((S 1092 0) - 1) + ((S 58 ((S 1092 0) - 1)) - (p1 + 1)))))) := fun h a b e g i j => sm_SK_at h a _ b e g (fun z => ⟨i z, by have := j z; omega⟩)
  have h := h k1
  refine sv_aload_n hM dX12_makeNew_0 rfl rfl ?_
  obtain ⟨o2, h⟩ := h
  refine sv_callV hM dX12_makeNew_1 sm_iv_879 (by decide) (sm_a0 _) rfl rfl (Nat.le_of_ble_eq_true rfl) sm_h149 (Nat.le_of_ble_eq_true rfl) (Nat.le_of_ble_eq_true rfl) (F' := 0) (Nat.le_of_ble_eq_true rfl) rfl (t_top  S hok o2) (fun v S1 hq => ?_)
  obtain ⟨rfl, hS1⟩ := hq
  obtain rfl : S = S1 := hS1.symm
  show sv_T sm_XS sm_cs sm_L sm_sh 100 (q_makeNew p1 p2 S) 185 4 [(0, .ref 0), (1, sv_I p1), (2, sv_I p2)] [sv_I ((400 * ((S 1092 0) - 1) + (S 58 ((S 1092 0) - 1))))] S
  refine sv_iload_n hM dX12_makeNew_4 rfl rfl ?_
  refine sv_isub hM dX12_makeNew_5 rfl ?_
  refine sv_iconst (d := (1 : Int)) hM dX12_makeNew_6 rfl rfl ?_
  refine sv_isub hM dX12_makeNew_7 rfl ?_
  obtain ⟨x3, e4⟩ : ∃ x : Int, ((((400 * ((S 1092 0) - 1) + (S 58 ((S 1092 0) - 1)))) - p1) - (1 : Int)) = x := ⟨_, rfl⟩
  have h := h x3 e4
  refine sv_nameI e4 ?_
  refine sv_istore_n hM dX12_makeNew_8 (by decide) rfl ?_
  show sv_T sm_XS sm_cs sm_L sm_sh 100 (q_makeNew p1 p2 S) 185 9 [(0, .ref 0), (1, sv_I p1), (2, sv_I p2), (3, sv_I x3)] [] S
  refine sv_aload_n hM dX12_makeNew_9 rfl rfl ?_
  refine sv_getA hM dX12_makeNew_10 sm_fl_200 (sm_a0 _) sm_k103 rfl ?_
  refine sv_iload_n hM dX12_makeNew_13 rfl rfl ?_
  obtain ⟨o5, h⟩ := h
  have k6 : sv_R (S 63 x3) := sm_okI hok sm_r63 x3
  have h := h k6
  refine sv_iald hM dX12_makeNew_14 (sm_a63 _) (by decide) o5.1 o5.2 rfl (x := (S 63 x3)) rfl ?_
  refine sv_istore hM dX12_makeNew_15 (by decide) rfl ?_
  show sv_T sm_XS sm_cs sm_L sm_sh 100 (q_makeNew p1 p2 S) 185 17 [(0, .ref 0), (1, sv_I p1), (2, sv_I p2), (3, sv_I x3), (4, sv_I (S 63 x3))] [] S
  refine sv_aload_n hM dX12_makeNew_17 rfl rfl ?_
  refine sv_getA hM dX12_makeNew_18 sm_fl_203 (sm_a0 _) sm_k104 rfl ?_
  refine sv_iload_n hM dX12_makeNew_21 rfl rfl ?_
  have k7 : sv_R (S 64 x3) := sm_okI hok sm_r64 x3
  have h := h k7
  refine sv_iald hM dX12_makeNew_22 (sm_a64 _) (by decide) o5.1 o5.2 rfl (x := (S 64 x3)) rfl ?_
  refine sv_istore hM dX12_makeNew_23 (by decide) rfl ?_
  show sv_T sm_XS sm_cs sm_L sm_sh 100 (q_makeNew p1 p2 S) 185 25 [(0, .ref 0), (1, sv_I p1), (2, sv_I p2), (3, sv_I x3), (4, sv_I (S 63 x3)), (5, sv_I (S 64 x3))] [] S
  refine sv_aload_n hM dX12_makeNew_25 rfl rfl ?_
  refine sv_iload_n hM dX12_makeNew_26 rfl rfl ?_
  refine sv_iconst (d := (1 : Int)) hM dX12_makeNew_27 rfl rfl ?_
  refine sv_iadd hM dX12_makeNew_28 rfl ?_
  obtain ⟨o8, h⟩ := h
  refine sv_putI sm_X hM dX12_makeNew_29 sm_fp_998 (sm_a0 _) sm_q114 (Or.inl rfl) rfl rfl rfl rfl ?_
  have ok9 : sm_ok (sv_up S 1114 0 (x3 + (1 : Int))) := sm_upI hok sm_r1114 o8
  have md10 : sv_mod [1076, 41, 42, 43, 44, 45, 46, 47, 1075, 1100029, 1084, 1085, 48, 1086, 51, 52, 49, 50, 1100020, 1100021, 1100022, 58, 63, 64, 57, 1092, 53, 54, 55, 56, 59, 60, 1073, 1109, 1110, 1111, 1112, 5, 1011, 3, 4, 1007, 1113, 1107, 67, 1100032, 1114, 1115] S (sv_up S 1114 0 (x3 + (1 : Int))) := sv_mod.up sv_mod.rf (by decide)
  refine sv_aload_n hM dX12_makeNew_32 rfl rfl ?_
  refine sv_iload_n hM dX12_makeNew_33 rfl rfl ?_
  refine sv_putI sm_X hM dX12_makeNew_34 sm_fp_995 (sm_a0 _) sm_q115 (Or.inl rfl) rfl rfl rfl rfl ?_
  have ok11 : sm_ok (sv_up (sv_up S 1114 0 (x3 + (1 : Int))) 1115 0 p1) := sm_upI ok9 sm_r1115 hp1
  have md12 : sv_mod [1076, 41, 42, 43, 44, 45, 46, 47, 1075, 1100029, 1084, 1085, 48, 1086, 51, 52, 49, 50, 1100020, 1100021, 1100022, 58, 63, 64, 57, 1092, 53, 54, 55, 56, 59, 60, 1073, 1109, 1110, 1111, 1112, 5, 1011, 3, 4, 1007, 1113, 1107, 67, 1100032, 1114, 1115] S (sv_up (sv_up S 1114 0 (x3 + (1 : Int))) 1115 0 p1) := sv_mod.up md10 (by decide)
  have J88 : ∀ s13 : Int, sv_R s13 → ((s13 = 0 ∨ s13 = 1) ∧ (s13 = 1 → (S 63 x3) = 7 ∧ (S 44 (S 64 x3)) = 1 ∧ (1 ≤ (S 45 (S 64 x3)) ∨ (10 ≤ (S 64 x3) ∧ (S 64 x3) ≤ 17 ∧ ¬ (S 64 x3) = 13)))) → sv_T sm_XS sm_cs sm_L sm_sh 100 (q_makeNew p1 p2 S) 185 84 [(0, .ref 0), (1, sv_I p1), (2, sv_I p2), (3, sv_I x3), (4, sv_I (S 63 x3)), (5, sv_I (S 64 x3))] [sv_I s13] (sv_up (sv_up S 1114 0 (x3 + (1 : Int))) 1115 0 p1) := by
    intro s13 hs13 hin14
    have h := h.1 s13 hs13 hin14
    refine sv_istore hM dX12_makeNew_84 (by decide) rfl ?_
    show sv_T sm_XS sm_cs sm_L sm_sh 100 (q_makeNew p1 p2 S) 185 86 [(0, .ref 0), (1, sv_I p1), (2, sv_I p2), (3, sv_I x3), (4, sv_I (S 63 x3)), (5, sv_I (S 64 x3)), (6, sv_I s13)] [] (sv_up (sv_up S 1114 0 (x3 + (1 : Int))) 1115 0 p1)
    refine sv_iload hM dX12_makeNew_86 rfl rfl ?_
    refine sv_cond_ne hM dX12_makeNew_88 hs13 (t := 98) rfl rfl (fun hc => ?_) (fun hc => ?_)
    · have h := h.1 (hc)
      refine sv_aload_n hM dX12_makeNew_98 rfl rfl ?_
      refine sv_getA hM dX12_makeNew_99 sm_fl_146 (sm_a0 _) sm_k81 rfl ?_
      refine sv_iload hM dX12_makeNew_102 rfl rfl ?_
      obtain ⟨o15, h⟩ := h
      have k16 : sv_R (S 45 (S 64 x3)) := sm_okI ok11 sm_r45 (S 64 x3)
      have h := h k16
      refine sv_iald hM dX12_makeNew_104 (sm_a45 _) (by decide) o15.1 o15.2 rfl (x := (S 45 (S 64 x3))) rfl ?_
      refine sv_cond_ne hM dX12_makeNew_105 k16 (t := 120) rfl rfl (fun hc => ?_) (fun hc => ?_)
      · have h := h.1 (hc)
        have k17 : (sm_FO (S 44) (S 45) (S 1076 0) → 0 ≤ (S 64 x3) → (S 64 x3) < (S 1076 0) → (S 44 (S 64 x3)) = 1 → ¬ (9 ≤ (S 64 x3) ∧ (S 64 x3) < 23 ∧ (S 45 (S 64 x3)) = 0) → 1 ≤ (S 45 (S 64 x3))) := fun h a b d e => sm_FO_at h a b d e
        have h := h k17
        refine sv_aload_n hM dX12_makeNew_120 rfl rfl ?_
        refine sv_iload hM dX12_makeNew_121 rfl rfl ?_
        refine sv_iconst (d := (1 : Int)) hM dX12_makeNew_123 rfl rfl ?_
        obtain ⟨o18, h⟩ := h
        refine sv_callV hM dX12_makeNew_124 sm_iv_972 (by decide) (sm_a0 _) rfl rfl (Nat.le_of_ble_eq_true rfl) sm_h143 (Nat.le_of_ble_eq_true rfl) (Nat.le_of_ble_eq_true rfl) (F' := 1) (Nat.le_of_ble_eq_true rfl) rfl (t_read_ (S 64 x3) (1 : Int) (sv_up (sv_up S 1114 0 (x3 + (1 : Int))) 1115 0 p1) ok11 k7 (⟨by decide, by decide⟩ : sv_R (1 : Int)) o18) (fun v S1 hq => ?_)
        obtain ⟨r23, rfl, hr23, ok20, md21, hpo22⟩ := hq
        obtain ⟨g19, rfl⟩ : ∃ g, S1 = sv_sts (sv_up (sv_up S 1114 0 (x3 + (1 : Int))) 1115 0 p1) [1111, 1112] g := ⟨_, md21.eq⟩
        show sv_T sm_XS sm_cs sm_L sm_sh 100 (q_makeNew p1 p2 S) 185 127 [(0, .ref 0), (1, sv_I p1), (2, sv_I p2), (3, sv_I x3), (4, sv_I (S 63 x3)), (5, sv_I (S 64 x3)), (6, sv_I s13)] [sv_I r23] (sv_sts (sv_up (sv_up S 1114 0 (x3 + (1 : Int))) 1115 0 p1) [1111, 1112] g19)
        have md24 : sv_mod [1076, 41, 42, 43, 44, 45, 46, 47, 1075, 1100029, 1084, 1085, 48, 1086, 51, 52, 49, 50, 1100020, 1100021, 1100022, 58, 63, 64, 57, 1092, 53, 54, 55, 56, 59, 60, 1073, 1109, 1110, 1111, 1112, 5, 1011, 3, 4, 1007, 1113, 1107, 67, 1100032, 1114, 1115] S (sv_sts (sv_up (sv_up S 1114 0 (x3 + (1 : Int))) 1115 0 p1) [1111, 1112] g19) := sv_mod.sts md12 (by decide)
        have h := h r23 hr23 g19 hpo22
        refine sv_istore hM dX12_makeNew_127 (by decide) rfl ?_
        show sv_T sm_XS sm_cs sm_L sm_sh 100 (q_makeNew p1 p2 S) 185 129 [(0, .ref 0), (1, sv_I p1), (2, sv_I p2), (3, sv_I x3), (4, sv_I (S 63 x3)), (5, sv_I (S 64 x3)), (6, sv_I s13), (7, sv_I r23)] [] (sv_sts (sv_up (sv_up S 1114 0 (x3 + (1 : Int))) 1115 0 p1) [1111, 1112] g19)
        refine sv_aload_n hM dX12_makeNew_129 rfl rfl ?_
        refine sv_aload_n hM dX12_makeNew_130 rfl rfl ?_
        have k25 : sv_R (g19 1111 0) := sm_okI ok20 sm_r1111 0
        have h := h k25
        refine sv_getI hM dX12_makeNew_131 sm_fl_788 (sm_a0 _) sm_k111 rfl (x := (g19 1111 0)) rfl ?_
        refine sv_bipush (d := (7 : Int)) hM dX12_makeNew_134 rfl rfl ?_
        refine sv_icmp_ne hM dX12_makeNew_136 k25 (⟨by decide, by decide⟩ : sv_R (7 : Int)) (t := 146) rfl rfl (fun hc => ?_) (fun hc => ?_)
        · have h := h.1 (hc)
          refine sv_iconst (d := (1 : Int)) hM dX12_makeNew_146 rfl rfl ?_
          refine sv_aload_n hM dX12_makeNew_147 rfl rfl ?_
          refine sv_iload_n hM dX12_makeNew_148 rfl rfl ?_
          obtain ⟨o26, h⟩ := h
          refine sv_callV hM dX12_makeNew_149 sm_iv_920 (by decide) (sm_a0 _) rfl rfl (Nat.le_of_ble_eq_true rfl) sm_h166 (Nat.le_of_ble_eq_true rfl) (Nat.le_of_ble_eq_true rfl) (F' := 0) (Nat.le_of_ble_eq_true rfl) rfl (t_siteLabel p2 (sv_sts (sv_up (sv_up S 1114 0 (x3 + (1 : Int))) 1115 0 p1) [1111, 1112] g19) ok20 hp2 o26) (fun v S1 hq => ?_)
          obtain ⟨r31, rfl, hr31, ok28, md29, hpo30⟩ := hq
          obtain rfl : (sv_sts (sv_up (sv_up S 1114 0 (x3 + (1 : Int))) 1115 0 p1) [1111, 1112] g19) = S1 := (funext fun j => md29 j (by intro q; cases q)).symm
          show sv_T sm_XS sm_cs sm_L sm_sh 100 (q_makeNew p1 p2 S) 185 152 [(0, .ref 0), (1, sv_I p1), (2, sv_I p2), (3, sv_I x3), (4, sv_I (S 63 x3)), (5, sv_I (S 64 x3)), (6, sv_I s13), (7, sv_I r23)] [sv_I r31, sv_I (1 : Int), .ref 0] (sv_sts (sv_up (sv_up S 1114 0 (x3 + (1 : Int))) 1115 0 p1) [1111, 1112] g19)
          have h := h r31 hr31 hpo30
          refine sv_iconst (d := (0 : Int)) hM dX12_makeNew_152 rfl rfl ?_
          obtain ⟨o32, h⟩ := h
          refine sv_callV hM dX12_makeNew_153 sm_iv_858 (by decide) (sm_a0 _) rfl rfl (Nat.le_of_ble_eq_true rfl) sm_h139 (Nat.le_of_ble_eq_true rfl) (Nat.le_of_ble_eq_true rfl) (F' := 0) (Nat.le_of_ble_eq_true rfl) rfl (t_newObject (1 : Int) r31 (0 : Int) (sv_sts (sv_up (sv_up S 1114 0 (x3 + (1 : Int))) 1115 0 p1) [1111, 1112] g19) ok28 (⟨by decide, by decide⟩ : sv_R (1 : Int)) hr31 (⟨by decide, by decide⟩ : sv_R (0 : Int)) o32) (fun v S1 hq => ?_)
          obtain ⟨r37, rfl, hr37, ok34, md35, hpo36⟩ := hq
          obtain ⟨g33, rfl⟩ : ∃ g, S1 = sv_sts (sv_sts (sv_up (sv_up S 1114 0 (x3 + (1 : Int))) 1115 0 p1) [1111, 1112] g19) [1076, 41, 42, 43, 44, 45, 46, 47, 1075, 1100029] g := ⟨_, md35.eq⟩
          show sv_T sm_XS sm_cs sm_L sm_sh 100 (q_makeNew p1 p2 S) 185 156 [(0, .ref 0), (1, sv_I p1), (2, sv_I p2), (3, sv_I x3), (4, sv_I (S 63 x3)), (5, sv_I (S 64 x3)), (6, sv_I s13), (7, sv_I r23)] [sv_I r37] (sv_sts (sv_sts (sv_up (sv_up S 1114 0 (x3 + (1 : Int))) 1115 0 p1) [1111, 1112] g19) [1076, 41, 42, 43, 44, 45, 46, 47, 1075, 1100029] g33)
          have md38 : sv_mod [1076, 41, 42, 43, 44, 45, 46, 47, 1075, 1100029, 1084, 1085, 48, 1086, 51, 52, 49, 50, 1100020, 1100021, 1100022, 58, 63, 64, 57, 1092, 53, 54, 55, 56, 59, 60, 1073, 1109, 1110, 1111, 1112, 5, 1011, 3, 4, 1007, 1113, 1107, 67, 1100032, 1114, 1115] S (sv_sts (sv_sts (sv_up (sv_up S 1114 0 (x3 + (1 : Int))) 1115 0 p1) [1111, 1112] g19) [1076, 41, 42, 43, 44, 45, 46, 47, 1075, 1100029] g33) := sv_mod.sts md24 (by decide)
          have h := h r37 hr37 g33 hpo36
          refine sv_istore hM dX12_makeNew_156 (by decide) rfl ?_
          show sv_T sm_XS sm_cs sm_L sm_sh 100 (q_makeNew p1 p2 S) 185 158 [(0, .ref 0), (1, sv_I p1), (2, sv_I p2), (3, sv_I x3), (4, sv_I (S 63 x3)), (5, sv_I (S 64 x3)), (6, sv_I s13), (7, sv_I r23), (8, sv_I r37)] [] (sv_sts (sv_sts (sv_up (sv_up S 1114 0 (x3 + (1 : Int))) 1115 0 p1) [1111, 1112] g19) [1076, 41, 42, 43, 44, 45, 46, 47, 1075, 1100029] g33)
          have k39 : (0 ≤ r37 → r37 < (g33 1076 0) → ¬ (g33 44 r37) = 3 → sm_VO (g33 44) (g33 1076 0) (S 1007 0) (7) (r37)) := fun a b e => sm_VO_7 a b e
          have h := h k39
          refine sv_aload_n hM dX12_makeNew_158 rfl rfl ?_
          have k40 : (0 ≤ (g33 1075 0) ∧ (g33 1075 0) ≤ 1) := sm_okZ ok34 sm_r1075 0
          have h := h k40
          refine sv_getI hM dX12_makeNew_159 sm_fl_794 (sm_a0 _) sm_k75 rfl (x := (g33 1075 0)) rfl ?_
          refine sv_cond_ne hM dX12_makeNew_162 (sv_R01 k40) (t := 182) rfl rfl (fun hc => ?_) (fun hc => ?_)
          · have h := h.1 (hc)
            exact sv_vret hM dX12_makeNew_182 rfl ⟨rfl, ok34, md38, h⟩
          · have h := h.2 (hc)
            refine sv_aload_n hM dX12_makeNew_165 rfl rfl ?_
            refine sv_bipush (d := (7 : Int)) hM dX12_makeNew_166 rfl rfl ?_
            refine sv_iload hM dX12_makeNew_168 rfl rfl ?_
            refine sv_bipush (d := (7 : Int)) hM dX12_makeNew_170 rfl rfl ?_
            refine sv_iload hM dX12_makeNew_172 rfl rfl ?_
            refine sv_iload_n hM dX12_makeNew_174 rfl rfl ?_
            refine sv_iconst (d := (1 : Int)) hM dX12_makeNew_175 rfl rfl ?_
            refine sv_iadd hM dX12_makeNew_176 rfl ?_
            refine sv_iload hM dX12_makeNew_177 rfl rfl ?_
            obtain ⟨o41, h⟩ := h
            obtain ⟨o42, h⟩ := h
            obtain ⟨o43, h⟩ := h
            obtain ⟨o44, h⟩ := h
            refine sv_callV hM dX12_makeNew_179 sm_iv_1001 (by decide) (sm_a0 _) rfl rfl (Nat.le_of_ble_eq_true rfl) sm_h181 (Nat.le_of_ble_eq_true rfl) (Nat.le_of_ble_eq_true rfl) (F' := ((2 * (4 * p1 + (if (7 : Int) = 7 then 1 else 0) + (if (7 : Int) = 7 then 1 else 0)) + 20)).toNat) (sv_Fe o44) rfl (t_callOf (7 : Int) (S 64 x3) (7 : Int) r37 (p1 + (1 : Int)) r37 (sv_sts (sv_sts (sv_up (sv_up S 1114 0 (x3 + (1 : Int))) 1115 0 p1) [1111, 1112] g19) [1076, 41, 42, 43, 44, 45, 46, 47, 1075, 1100029] g33) ok34 (⟨by decide, by decide⟩ : sv_R (7 : Int)) k7 (⟨by decide, by decide⟩ : sv_R (7 : Int)) hr37 o41 hr37 o42 o43) (fun v S1 hq => ?_)
            obtain ⟨rfl, ok46, md47, hpo48⟩ := hq
            obtain ⟨g45, rfl⟩ : ∃ g, S1 = sv_sts (sv_sts (sv_sts (sv_up (sv_up S 1114 0 (x3 + (1 : Int))) 1115 0 p1) [1111, 1112] g19) [1076, 41, 42, 43, 44, 45, 46, 47, 1075, 1100029] g33) [1076, 41, 42, 43, 44, 45, 46, 47, 1075, 1100029, 1084, 1085, 48, 1086, 51, 52, 49, 50, 1100020, 1100021, 1100022, 58, 63, 64, 57, 1092, 53, 54, 55, 56, 59, 60, 1073, 1109, 1110, 1111, 1112, 5, 1011, 3, 4, 1007, 1113, 1107, 67, 1100032, 1114, 1115] g := ⟨_, md47.eq⟩
            show sv_T sm_XS sm_cs sm_L sm_sh 100 (q_makeNew p1 p2 S) 185 182 [(0, .ref 0), (1, sv_I p1), (2, sv_I p2), (3, sv_I x3), (4, sv_I (S 63 x3)), (5, sv_I (S 64 x3)), (6, sv_I s13), (7, sv_I r23), (8, sv_I r37)] [] (sv_sts (sv_sts (sv_sts (sv_up (sv_up S 1114 0 (x3 + (1 : Int))) 1115 0 p1) [1111, 1112] g19) [1076, 41, 42, 43, 44, 45, 46, 47, 1075, 1100029] g33) [1076, 41, 42, 43, 44, 45, 46, 47, 1075, 1100029, 1084, 1085, 48, 1086, 51, 52, 49, 50, 1100020, 1100021, 1100022, 58, 63, 64, 57, 1092, 53, 54, 55, 56, 59, 60, 1073, 1109, 1110, 1111, 1112, 5, 1011, 3, 4, 1007, 1113, 1107, 67, 1100032, 1114, 1115] g45)
            have md49 : sv_mod [1076, 41, 42, 43, 44, 45, 46, 47, 1075, 1100029, 1084, 1085, 48, 1086, 51, 52, 49, 50, 1100020, 1100021, 1100022, 58, 63, 64, 57, 1092, 53, 54, 55, 56, 59, 60, 1073, 1109, 1110, 1111, 1112, 5, 1011, 3, 4, 1007, 1113, 1107, 67, 1100032, 1114, 1115] S (sv_sts (sv_sts (sv_sts (sv_up (sv_up S 1114 0 (x3 + (1 : Int))) 1115 0 p1) [1111, 1112] g19) [1076, 41, 42, 43, 44, 45, 46, 47, 1075, 1100029] g33) [1076, 41, 42, 43, 44, 45, 46, 47, 1075, 1100029, 1084, 1085, 48, 1086, 51, 52, 49, 50, 1100020, 1100021, 1100022, 58, 63, 64, 57, 1092, 53, 54, 55, 56, 59, 60, 1073, 1109, 1110, 1111, 1112, 5, 1011, 3, 4, 1007, 1113, 1107, 67, 1100032, 1114, 1115] g45) := sv_mod.sts md38 (by decide)
            have h := h g45 hpo48
            exact sv_vret hM dX12_makeNew_182 rfl ⟨rfl, ok46, md49, h⟩
        · have h := h.2 (hc)
          refine sv_aload_n hM dX12_makeNew_139 rfl rfl ?_
          have k50 : sv_R (g19 1112 0) := sm_okI ok20 sm_r1112 0
          have h := h k50
          refine sv_getI hM dX12_makeNew_140 sm_fl_791 (sm_a0 _) sm_k112 rfl (x := (g19 1112 0)) rfl ?_
          refine sv_goto hM dX12_makeNew_143 (pc' := 147) rfl ?_
          refine sv_aload_n hM dX12_makeNew_147 rfl rfl ?_
          refine sv_iload_n hM dX12_makeNew_148 rfl rfl ?_
          obtain ⟨o51, h⟩ := h
          refine sv_callV hM dX12_makeNew_149 sm_iv_920 (by decide) (sm_a0 _) rfl rfl (Nat.le_of_ble_eq_true rfl) sm_h166 (Nat.le_of_ble_eq_true rfl) (Nat.le_of_ble_eq_true rfl) (F' := 0) (Nat.le_of_ble_eq_true rfl) rfl (t_siteLabel p2 (sv_sts (sv_up (sv_up S 1114 0 (x3 + (1 : Int))) 1115 0 p1) [1111, 1112] g19) ok20 hp2 o51) (fun v S1 hq => ?_)
          obtain ⟨r56, rfl, hr56, ok53, md54, hpo55⟩ := hq
          obtain rfl : (sv_sts (sv_up (sv_up S 1114 0 (x3 + (1 : Int))) 1115 0 p1) [1111, 1112] g19) = S1 := (funext fun j => md54 j (by intro q; cases q)).symm
          show sv_T sm_XS sm_cs sm_L sm_sh 100 (q_makeNew p1 p2 S) 185 152 [(0, .ref 0), (1, sv_I p1), (2, sv_I p2), (3, sv_I x3), (4, sv_I (S 63 x3)), (5, sv_I (S 64 x3)), (6, sv_I s13), (7, sv_I r23)] [sv_I r56, sv_I (g19 1112 0), .ref 0] (sv_sts (sv_up (sv_up S 1114 0 (x3 + (1 : Int))) 1115 0 p1) [1111, 1112] g19)
          have h := h r56 hr56 hpo55
          refine sv_iconst (d := (0 : Int)) hM dX12_makeNew_152 rfl rfl ?_
          obtain ⟨o57, h⟩ := h
          refine sv_callV hM dX12_makeNew_153 sm_iv_858 (by decide) (sm_a0 _) rfl rfl (Nat.le_of_ble_eq_true rfl) sm_h139 (Nat.le_of_ble_eq_true rfl) (Nat.le_of_ble_eq_true rfl) (F' := 0) (Nat.le_of_ble_eq_true rfl) rfl (t_newObject (g19 1112 0) r56 (0 : Int) (sv_sts (sv_up (sv_up S 1114 0 (x3 + (1 : Int))) 1115 0 p1) [1111, 1112] g19) ok53 k50 hr56 (⟨by decide, by decide⟩ : sv_R (0 : Int)) o57) (fun v S1 hq => ?_)
          obtain ⟨r62, rfl, hr62, ok59, md60, hpo61⟩ := hq
          obtain ⟨g58, rfl⟩ : ∃ g, S1 = sv_sts (sv_sts (sv_up (sv_up S 1114 0 (x3 + (1 : Int))) 1115 0 p1) [1111, 1112] g19) [1076, 41, 42, 43, 44, 45, 46, 47, 1075, 1100029] g := ⟨_, md60.eq⟩
          show sv_T sm_XS sm_cs sm_L sm_sh 100 (q_makeNew p1 p2 S) 185 156 [(0, .ref 0), (1, sv_I p1), (2, sv_I p2), (3, sv_I x3), (4, sv_I (S 63 x3)), (5, sv_I (S 64 x3)), (6, sv_I s13), (7, sv_I r23)] [sv_I r62] (sv_sts (sv_sts (sv_up (sv_up S 1114 0 (x3 + (1 : Int))) 1115 0 p1) [1111, 1112] g19) [1076, 41, 42, 43, 44, 45, 46, 47, 1075, 1100029] g58)
          have md63 : sv_mod [1076, 41, 42, 43, 44, 45, 46, 47, 1075, 1100029, 1084, 1085, 48, 1086, 51, 52, 49, 50, 1100020, 1100021, 1100022, 58, 63, 64, 57, 1092, 53, 54, 55, 56, 59, 60, 1073, 1109, 1110, 1111, 1112, 5, 1011, 3, 4, 1007, 1113, 1107, 67, 1100032, 1114, 1115] S (sv_sts (sv_sts (sv_up (sv_up S 1114 0 (x3 + (1 : Int))) 1115 0 p1) [1111, 1112] g19) [1076, 41, 42, 43, 44, 45, 46, 47, 1075, 1100029] g58) := sv_mod.sts md24 (by decide)
          have h := h r62 hr62 g58 hpo61
          refine sv_istore hM dX12_makeNew_156 (by decide) rfl ?_
          show sv_T sm_XS sm_cs sm_L sm_sh 100 (q_makeNew p1 p2 S) 185 158 [(0, .ref 0), (1, sv_I p1), (2, sv_I p2), (3, sv_I x3), (4, sv_I (S 63 x3)), (5, sv_I (S 64 x3)), (6, sv_I s13), (7, sv_I r23), (8, sv_I r62)] [] (sv_sts (sv_sts (sv_up (sv_up S 1114 0 (x3 + (1 : Int))) 1115 0 p1) [1111, 1112] g19) [1076, 41, 42, 43, 44, 45, 46, 47, 1075, 1100029] g58)
          have k64 : (0 ≤ r62 → r62 < (g58 1076 0) → ¬ (g58 44 r62) = 3 → sm_VO (g58 44) (g58 1076 0) (S 1007 0) (7) (r62)) := fun a b e => sm_VO_7 a b e
          have h := h k64
          refine sv_aload_n hM dX12_makeNew_158 rfl rfl ?_
          have k65 : (0 ≤ (g58 1075 0) ∧ (g58 1075 0) ≤ 1) := sm_okZ ok59 sm_r1075 0
          have h := h k65
          refine sv_getI hM dX12_makeNew_159 sm_fl_794 (sm_a0 _) sm_k75 rfl (x := (g58 1075 0)) rfl ?_
          refine sv_cond_ne hM dX12_makeNew_162 (sv_R01 k65) (t := 182) rfl rfl (fun hc => ?_) (fun hc => ?_)
          · have h := h.1 (hc)
            exact sv_vret hM dX12_makeNew_182 rfl ⟨rfl, ok59, md63, h⟩
          · have h := h.2 (hc)
            refine sv_aload_n hM dX12_makeNew_165 rfl rfl ?_
            refine sv_bipush (d := (7 : Int)) hM dX12_makeNew_166 rfl rfl ?_
            refine sv_iload hM dX12_makeNew_168 rfl rfl ?_
            refine sv_bipush (d := (7 : Int)) hM dX12_makeNew_170 rfl rfl ?_
            refine sv_iload hM dX12_makeNew_172 rfl rfl ?_
            refine sv_iload_n hM dX12_makeNew_174 rfl rfl ?_
            refine sv_iconst (d := (1 : Int)) hM dX12_makeNew_175 rfl rfl ?_
            refine sv_iadd hM dX12_makeNew_176 rfl ?_
            refine sv_iload hM dX12_makeNew_177 rfl rfl ?_
            obtain ⟨o66, h⟩ := h
            obtain ⟨o67, h⟩ := h
            obtain ⟨o68, h⟩ := h
            obtain ⟨o69, h⟩ := h
            refine sv_callV hM dX12_makeNew_179 sm_iv_1001 (by decide) (sm_a0 _) rfl rfl (Nat.le_of_ble_eq_true rfl) sm_h181 (Nat.le_of_ble_eq_true rfl) (Nat.le_of_ble_eq_true rfl) (F' := ((2 * (4 * p1 + (if (7 : Int) = 7 then 1 else 0) + (if (7 : Int) = 7 then 1 else 0)) + 20)).toNat) (sv_Fe o69) rfl (t_callOf (7 : Int) (S 64 x3) (7 : Int) r62 (p1 + (1 : Int)) r62 (sv_sts (sv_sts (sv_up (sv_up S 1114 0 (x3 + (1 : Int))) 1115 0 p1) [1111, 1112] g19) [1076, 41, 42, 43, 44, 45, 46, 47, 1075, 1100029] g58) ok59 (⟨by decide, by decide⟩ : sv_R (7 : Int)) k7 (⟨by decide, by decide⟩ : sv_R (7 : Int)) hr62 o66 hr62 o67 o68) (fun v S1 hq => ?_)
            obtain ⟨rfl, ok71, md72, hpo73⟩ := hq
            obtain ⟨g70, rfl⟩ : ∃ g, S1 = sv_sts (sv_sts (sv_sts (sv_up (sv_up S 1114 0 (x3 + (1 : Int))) 1115 0 p1) [1111, 1112] g19) [1076, 41, 42, 43, 44, 45, 46, 47, 1075, 1100029] g58) [1076, 41, 42, 43, 44, 45, 46, 47, 1075, 1100029, 1084, 1085, 48, 1086, 51, 52, 49, 50, 1100020, 1100021, 1100022, 58, 63, 64, 57, 1092, 53, 54, 55, 56, 59, 60, 1073, 1109, 1110, 1111, 1112, 5, 1011, 3, 4, 1007, 1113, 1107, 67, 1100032, 1114, 1115] g := ⟨_, md72.eq⟩
            show sv_T sm_XS sm_cs sm_L sm_sh 100 (q_makeNew p1 p2 S) 185 182 [(0, .ref 0), (1, sv_I p1), (2, sv_I p2), (3, sv_I x3), (4, sv_I (S 63 x3)), (5, sv_I (S 64 x3)), (6, sv_I s13), (7, sv_I r23), (8, sv_I r62)] [] (sv_sts (sv_sts (sv_sts (sv_up (sv_up S 1114 0 (x3 + (1 : Int))) 1115 0 p1) [1111, 1112] g19) [1076, 41, 42, 43, 44, 45, 46, 47, 1075, 1100029] g58) [1076, 41, 42, 43, 44, 45, 46, 47, 1075, 1100029, 1084, 1085, 48, 1086, 51, 52, 49, 50, 1100020, 1100021, 1100022, 58, 63, 64, 57, 1092, 53, 54, 55, 56, 59, 60, 1073, 1109, 1110, 1111, 1112, 5, 1011, 3, 4, 1007, 1113, 1107, 67, 1100032, 1114, 1115] g70)
            have md74 : sv_mod [1076, 41, 42, 43, 44, 45, 46, 47, 1075, 1100029, 1084, 1085, 48, 1086, 51, 52, 49, 50, 1100020, 1100021, 1100022, 58, 63, 64, 57, 1092, 53, 54, 55, 56, 59, 60, 1073, 1109, 1110, 1111, 1112, 5, 1011, 3, 4, 1007, 1113, 1107, 67, 1100032, 1114, 1115] S (sv_sts (sv_sts (sv_sts (sv_up (sv_up S 1114 0 (x3 + (1 : Int))) 1115 0 p1) [1111, 1112] g19) [1076, 41, 42, 43, 44, 45, 46, 47, 1075, 1100029] g58) [1076, 41, 42, 43, 44, 45, 46, 47, 1075, 1100029, 1084, 1085, 48, 1086, 51, 52, 49, 50, 1100020, 1100021, 1100022, 58, 63, 64, 57, 1092, 53, 54, 55, 56, 59, 60, 1073, 1109, 1110, 1111, 1112, 5, 1011, 3, 4, 1007, 1113, 1107, 67, 1100032, 1114, 1115] g70) := sv_mod.sts md63 (by decide)
            have h := h g70 hpo73
            exact sv_vret hM dX12_makeNew_182 rfl ⟨rfl, ok71, md74, h⟩
      · have h := h.2 (hc)
        refine sv_aload_n hM dX12_makeNew_108 rfl rfl ?_
        refine sv_iload hM dX12_makeNew_109 rfl rfl ?_
        refine sv_iconst (d := (0 : Int)) hM dX12_makeNew_111 rfl rfl ?_
        refine sv_iconst (d := (0 : Int)) hM dX12_makeNew_112 rfl rfl ?_
        refine sv_iload_n hM dX12_makeNew_113 rfl rfl ?_
        refine sv_iconst (d := (1 : Int)) hM dX12_makeNew_114 rfl rfl ?_
        refine sv_iadd hM dX12_makeNew_115 rfl ?_
        obtain ⟨o75, h⟩ := h
        obtain ⟨o76, h⟩ := h
        refine sv_callV hM dX12_makeNew_116 sm_iv_1008 (by decide) (sm_a0 _) rfl rfl (Nat.le_of_ble_eq_true rfl) sm_h186 (Nat.le_of_ble_eq_true rfl) (Nat.le_of_ble_eq_true rfl) (F' := 6) (Nat.le_of_ble_eq_true rfl) rfl (t_nativeOf (S 64 x3) (0 : Int) (0 : Int) (p1 + (1 : Int)) (sv_up (sv_up S 1114 0 (x3 + (1 : Int))) 1115 0 p1) ok11 k7 (⟨by decide, by decide⟩ : sv_R (0 : Int)) (⟨by decide, by decide⟩ : sv_R (0 : Int)) o75 o76) (fun v S1 hq => ?_)
        obtain ⟨rfl, ok78, md79, hpo80⟩ := hq
        obtain ⟨g77, rfl⟩ : ∃ g, S1 = sv_sts (sv_up (sv_up S 1114 0 (x3 + (1 : Int))) 1115 0 p1) [1076, 41, 42, 43, 44, 45, 46, 47, 1075, 1100029, 1092, 60, 58, 57, 63, 64, 1073, 1109, 1110, 1111, 1112, 5, 1011, 3, 4, 1007, 1084, 1085, 48, 1086, 51, 52, 49, 50, 1100020, 1100021, 1100022, 1113, 1107, 67, 1100032] g := ⟨_, md79.eq⟩
        show sv_T sm_XS sm_cs sm_L sm_sh 100 (q_makeNew p1 p2 S) 185 119 [(0, .ref 0), (1, sv_I p1), (2, sv_I p2), (3, sv_I x3), (4, sv_I (S 63 x3)), (5, sv_I (S 64 x3)), (6, sv_I s13)] [] (sv_sts (sv_up (sv_up S 1114 0 (x3 + (1 : Int))) 1115 0 p1) [1076, 41, 42, 43, 44, 45, 46, 47, 1075, 1100029, 1092, 60, 58, 57, 63, 64, 1073, 1109, 1110, 1111, 1112, 5, 1011, 3, 4, 1007, 1084, 1085, 48, 1086, 51, 52, 49, 50, 1100020, 1100021, 1100022, 1113, 1107, 67, 1100032] g77)
        have md81 : sv_mod [1076, 41, 42, 43, 44, 45, 46, 47, 1075, 1100029, 1084, 1085, 48, 1086, 51, 52, 49, 50, 1100020, 1100021, 1100022, 58, 63, 64, 57, 1092, 53, 54, 55, 56, 59, 60, 1073, 1109, 1110, 1111, 1112, 5, 1011, 3, 4, 1007, 1113, 1107, 67, 1100032, 1114, 1115] S (sv_sts (sv_up (sv_up S 1114 0 (x3 + (1 : Int))) 1115 0 p1) [1076, 41, 42, 43, 44, 45, 46, 47, 1075, 1100029, 1092, 60, 58, 57, 63, 64, 1073, 1109, 1110, 1111, 1112, 5, 1011, 3, 4, 1007, 1084, 1085, 48, 1086, 51, 52, 49, 50, 1100020, 1100021, 1100022, 1113, 1107, 67, 1100032] g77) := sv_mod.sts md12 (by decide)
        have h := h g77 hpo80
        exact sv_vret hM dX12_makeNew_119 rfl ⟨rfl, ok78, md81, h⟩
    · have h := h.2 (hc)
      refine sv_aload_n hM dX12_makeNew_91 rfl rfl ?_
      refine sv_bipush (d := (6 : Int)) hM dX12_makeNew_92 rfl rfl ?_
      obtain ⟨o82, h⟩ := h
      refine sv_callV hM dX12_makeNew_94 sm_iv_966 (by decide) (sm_a0 _) rfl rfl (Nat.le_of_ble_eq_true rfl) sm_h157 (Nat.le_of_ble_eq_true rfl) (Nat.le_of_ble_eq_true rfl) (F' := 3) (Nat.le_of_ble_eq_true rfl) rfl (t_error (6 : Int) (sv_up (sv_up S 1114 0 (x3 + (1 : Int))) 1115 0 p1) ok11 (⟨by decide, by decide⟩ : sv_R (6 : Int)) o82) (fun v S1 hq => ?_)
      obtain ⟨rfl, ok84, md85, hpo86⟩ := hq
      obtain ⟨g83, rfl⟩ : ∃ g, S1 = sv_sts (sv_up (sv_up S 1114 0 (x3 + (1 : Int))) 1115 0 p1) [1076, 41, 42, 43, 44, 45, 46, 47, 1075, 1100029, 1092, 60, 58, 57, 63, 64, 1073, 1109, 1110] g := ⟨_, md85.eq⟩
      show sv_T sm_XS sm_cs sm_L sm_sh 100 (q_makeNew p1 p2 S) 185 97 [(0, .ref 0), (1, sv_I p1), (2, sv_I p2), (3, sv_I x3), (4, sv_I (S 63 x3)), (5, sv_I (S 64 x3)), (6, sv_I s13)] [] (sv_sts (sv_up (sv_up S 1114 0 (x3 + (1 : Int))) 1115 0 p1) [1076, 41, 42, 43, 44, 45, 46, 47, 1075, 1100029, 1092, 60, 58, 57, 63, 64, 1073, 1109, 1110] g83)
      have md87 : sv_mod [1076, 41, 42, 43, 44, 45, 46, 47, 1075, 1100029, 1084, 1085, 48, 1086, 51, 52, 49, 50, 1100020, 1100021, 1100022, 58, 63, 64, 57, 1092, 53, 54, 55, 56, 59, 60, 1073, 1109, 1110, 1111, 1112, 5, 1011, 3, 4, 1007, 1113, 1107, 67, 1100032, 1114, 1115] S (sv_sts (sv_up (sv_up S 1114 0 (x3 + (1 : Int))) 1115 0 p1) [1076, 41, 42, 43, 44, 45, 46, 47, 1075, 1100029, 1092, 60, 58, 57, 63, 64, 1073, 1109, 1110] g83) := sv_mod.sts md12 (by decide)
      have h := h g83 hpo86
      exact sv_vret hM dX12_makeNew_97 rfl ⟨rfl, ok84, md87, h⟩
  have h := h.2
  refine sv_aload_n hM dX12_makeNew_37 rfl rfl ?_
  refine sv_iload hM dX12_makeNew_38 rfl rfl ?_
  refine sv_iload hM dX12_makeNew_40 rfl rfl ?_
  obtain ⟨o89, h⟩ := h
  refine sv_callV hM dX12_makeNew_42 sm_iv_992 (by decide) (sm_a0 _) rfl rfl (Nat.le_of_ble_eq_true rfl) sm_h176 (Nat.le_of_ble_eq_true rfl) (Nat.le_of_ble_eq_true rfl) (F' := 0) (Nat.le_of_ble_eq_true rfl) rfl (t_isFunction (S 63 x3) (S 64 x3) (sv_up (sv_up S 1114 0 (x3 + (1 : Int))) 1115 0 p1) ok11 k6 k7 o89) (fun v S1 hq => ?_)
  obtain ⟨r94, rfl, hr94, ok91, md92, hpo93⟩ := hq
  obtain rfl : (sv_up (sv_up S 1114 0 (x3 + (1 : Int))) 1115 0 p1) = S1 := (funext fun j => md92 j (by intro q; cases q)).symm
  show sv_T sm_XS sm_cs sm_L sm_sh 100 (q_makeNew p1 p2 S) 185 45 [(0, .ref 0), (1, sv_I p1), (2, sv_I p2), (3, sv_I x3), (4, sv_I (S 63 x3)), (5, sv_I (S 64 x3))] [sv_I r94] (sv_up (sv_up S 1114 0 (x3 + (1 : Int))) 1115 0 p1)
  have h := h r94 hr94 hpo93
  refine sv_cond_eq hM dX12_makeNew_45 hr94 (t := 83) rfl rfl (fun hc => ?_) (fun hc => ?_)
  · have h := h.1 (hc)
    refine sv_iconst (d := (0 : Int)) hM dX12_makeNew_83 rfl rfl ?_
    have hb := J88 (0 : Int) (⟨by decide, by decide⟩ : sv_R (0 : Int)) h
    exact sv_less (lv := [(0, .ref 0), (1, sv_I p1), (2, sv_I p2), (3, sv_I x3), (4, sv_I (S 63 x3)), (5, sv_I (S 64 x3))]) (sv_Sub_cons rfl (sv_Sub_cons rfl (sv_Sub_cons rfl (sv_Sub_cons rfl (sv_Sub_cons rfl (sv_Sub_cons rfl sv_Sub_nil)))))) hb
  · have h := h.2 (hc)
    refine sv_aload_n hM dX12_makeNew_48 rfl rfl ?_
    refine sv_getA hM dX12_makeNew_49 sm_fl_146 (sm_a0 _) sm_k81 rfl ?_
    refine sv_iload hM dX12_makeNew_52 rfl rfl ?_
    obtain ⟨o95, h⟩ := h
    have k96 : sv_R (S 45 (S 64 x3)) := sm_okI ok91 sm_r45 (S 64 x3)
    have h := h k96
    refine sv_iald hM dX12_makeNew_54 (sm_a45 _) (by decide) o95.1 o95.2 rfl (x := (S 45 (S 64 x3))) rfl ?_
    refine sv_cond_gt hM dX12_makeNew_55 k96 (t := 79) rfl rfl (fun hc => ?_) (fun hc => ?_)
    · have h := h.1 (hc)
      refine sv_iconst (d := (1 : Int)) hM dX12_makeNew_79 rfl rfl ?_
      refine sv_goto hM dX12_makeNew_80 (pc' := 84) rfl ?_
      have hb := J88 (1 : Int) (⟨by decide, by decide⟩ : sv_R (1 : Int)) h
      exact sv_less (lv := [(0, .ref 0), (1, sv_I p1), (2, sv_I p2), (3, sv_I x3), (4, sv_I (S 63 x3)), (5, sv_I (S 64 x3))]) (sv_Sub_cons rfl (sv_Sub_cons rfl (sv_Sub_cons rfl (sv_Sub_cons rfl (sv_Sub_cons rfl (sv_Sub_cons rfl sv_Sub_nil)))))) hb
    · have h := h.2 (hc)
      refine sv_iload hM dX12_makeNew_58 rfl rfl ?_
      refine sv_bipush (d := (10 : Int)) hM dX12_makeNew_60 rfl rfl ?_
      refine sv_icmp_lt hM dX12_makeNew_62 k7 (⟨by decide, by decide⟩ : sv_R (10 : Int)) (t := 83) rfl rfl (fun hc => ?_) (fun hc => ?_)
      · have h := h.1 (hc)
        refine sv_iconst (d := (0 : Int)) hM dX12_makeNew_83 rfl rfl ?_
        have hb := J88 (0 : Int) (⟨by decide, by decide⟩ : sv_R (0 : Int)) h
        exact sv_less (lv := [(0, .ref 0), (1, sv_I p1), (2, sv_I p2), (3, sv_I x3), (4, sv_I (S 63 x3)), (5, sv_I (S 64 x3))]) (sv_Sub_cons rfl (sv_Sub_cons rfl (sv_Sub_cons rfl (sv_Sub_cons rfl (sv_Sub_cons rfl (sv_Sub_cons rfl sv_Sub_nil)))))) hb
      · have h := h.2 (hc)
        refine sv_iload hM dX12_makeNew_65 rfl rfl ?_
        refine sv_bipush (d := (17 : Int)) hM dX12_makeNew_67 rfl rfl ?_
        refine sv_icmp_gt hM dX12_makeNew_69 k7 (⟨by decide, by decide⟩ : sv_R (17 : Int)) (t := 83) rfl rfl (fun hc => ?_) (fun hc => ?_)
        · have h := h.1 (hc)
          refine sv_iconst (d := (0 : Int)) hM dX12_makeNew_83 rfl rfl ?_
          have hb := J88 (0 : Int) (⟨by decide, by decide⟩ : sv_R (0 : Int)) h
          exact sv_less (lv := [(0, .ref 0), (1, sv_I p1), (2, sv_I p2), (3, sv_I x3), (4, sv_I (S 63 x3)), (5, sv_I (S 64 x3))]) (sv_Sub_cons rfl (sv_Sub_cons rfl (sv_Sub_cons rfl (sv_Sub_cons rfl (sv_Sub_cons rfl (sv_Sub_cons rfl sv_Sub_nil)))))) hb
        · have h := h.2 (hc)
          refine sv_iload hM dX12_makeNew_72 rfl rfl ?_
          refine sv_bipush (d := (13 : Int)) hM dX12_makeNew_74 rfl rfl ?_
          refine sv_icmp_eq hM dX12_makeNew_76 k7 (⟨by decide, by decide⟩ : sv_R (13 : Int)) (t := 83) rfl rfl (fun hc => ?_) (fun hc => ?_)
          · have h := h.1 (hc)
            refine sv_iconst (d := (0 : Int)) hM dX12_makeNew_83 rfl rfl ?_
            have hb := J88 (0 : Int) (⟨by decide, by decide⟩ : sv_R (0 : Int)) h
            exact sv_less (lv := [(0, .ref 0), (1, sv_I p1), (2, sv_I p2), (3, sv_I x3), (4, sv_I (S 63 x3)), (5, sv_I (S 64 x3))]) (sv_Sub_cons rfl (sv_Sub_cons rfl (sv_Sub_cons rfl (sv_Sub_cons rfl (sv_Sub_cons rfl (sv_Sub_cons rfl sv_Sub_nil)))))) hb
          · have h := h.2 (hc)
            refine sv_iconst (d := (1 : Int)) hM dX12_makeNew_79 rfl rfl ?_
            refine sv_goto hM dX12_makeNew_80 (pc' := 84) rfl ?_
            have hb := J88 (1 : Int) (⟨by decide, by decide⟩ : sv_R (1 : Int)) h
            exact sv_less (lv := [(0, .ref 0), (1, sv_I p1), (2, sv_I p2), (3, sv_I x3), (4, sv_I (S 63 x3)), (5, sv_I (S 64 x3))]) (sv_Sub_cons rfl (sv_Sub_cons rfl (sv_Sub_cons rfl (sv_Sub_cons rfl (sv_Sub_cons rfl (sv_Sub_cons rfl sv_Sub_nil)))))) hb
def q_step_ (S : sv_S) : Option Value → sv_S → Prop := fun v S' => v = none ∧ sm_ok S' ∧ sv_mod [1076, 41, 42, 43, 44, 45, 46, 47, 1075, 1100029, 1084, 1085, 48, 1086, 51, 52, 49, 50, 1100020, 1100021, 1100022, 58, 63, 64, 57, 1092, 53, 54, 55, 56, 59, 60, 1073, 1109, 1110, 1111, 1112, 5, 1011, 3, 4, 1007, 1113, 1107, 67, 1100032, 1114, 1115, 65, 66, 61, 62, 1100033, 1100034, 1100031] S S' ∧ (sm_PL (S' 1100020) (S' 51) (S' 52) (S' 46) (S' 47) (S' 1076 0) (S' 1086 0) ∧ sm_FR (S' 1100020) (S' 52) (S' 1100021) (S' 1100022) (3000 - (S' 1084 0)) (S' 1085 0) ∧ sm_PV (S' 1100020) (S' 48) (S' 49) (S' 50) (S' 44) (S' 1076 0) (S' 1007 0) ∧ sm_AL (S' 1100020) (S' 48) (S' 49) (S' 50) (S' 44) (S' 1076 0) (S' 1100032 0) ∧ sm_SV (S' 1100020) (S' 48) (S' 1100029) (S' 32) (S' 33) (S' 1076 0) (S' 1032 0) ∧ 0 ≤ (S' 1076 0) ∧ (S' 1076 0) ≤ 300 ∧ 0 ≤ (S' 1084 0) ∧ (S' 1084 0) ≤ 3000 ∧ 0 ≤ (S' 1086 0) ∧ sm_SC (S' 1100029) (S' 44) (S' 45) (S' 43) (S' 21) (S' 1076 0) (S' 1032 0) ∧ sm_PO (S' 42) (S' 1076 0) ∧ ((S' 1075 0) = 0 → (S' 1100032 0) = -1 ∧ sm_FO (S' 44) (S' 45) (S' 1076 0)) ∧ 23 ≤ (S' 1076 0) ∧ 31 ≤ (S' 1007 0) ∧ (S' 1007 0) ≤ 400 ∧ sm_LN (S' 4) 400 (S' 1007 0) ∧ (S' 1008 0) ≤ (S' 1007 0) ∧ ((S 1075 0) = 1 → (S' 1075 0) = 1) ∧ 0 ≤ (S' 1092 0) ∧ (S' 1092 0) ≤ 24 ∧ (S 1007 0) ≤ (S' 1007 0) ∧ (¬ (S' 1075 0) = 0 → sm_LX (S' 58) (S' 63) (S' 64) (S' 1092 0) (S' 1076 0)) ∧ ((S' 1075 0) = 0 → (S' 1073 0) = 1 → 1 ≤ (S' 1092 0) ∧ (S' 1092 0) ≤ 24 ∧ 0 ≤ (S' 57 ((S' 1092 0) - 1)) ∧ (S' 57 ((S' 1092 0) - 1)) < (S' 1046 0) ∧ (S' 29 (S' 57 ((S' 1092 0) - 1))) = (S' 53 ((S' 1092 0) - 1)) ∧ 0 ≤ (S' 53 ((S' 1092 0) - 1)) ∧ (S' 53 ((S' 1092 0) - 1)) < (S' 1032 0) ∧ (S' 60 ((S' 1092 0) - 1)) = sm_dp (S' 1100024) (S' 1100023 (S' 57 ((S' 1092 0) - 1))) ∧ sm_TC (S' 61) (S' 62) (S' 27) (S' 1100007) (S' 1100023) (S' 1100024) (40 * ((S' 1092 0) - 1)) (S' 1100023 (S' 57 ((S' 1092 0) - 1))) ∧ sm_LK (S' 1100029) (S' 1076 0) (S' 54 ((S' 1092 0) - 1)) (S' 53 ((S' 1092 0) - 1)) ∧ sm_VO (S' 44) (S' 1076 0) (S' 1007 0) ((S' 55 ((S' 1092 0) - 1))) ((S' 56 ((S' 1092 0) - 1))) ∧ sm_FW (S' 44) (S' 1076 0) (S' 59 ((S' 1092 0) - 1)) ∧ sm_FL (S' 53) (S' 54) (S' 55) (S' 56) (S' 57) (S' 58) (S' 59) (S' 60) (S' 61) (S' 62) (S' 63) (S' 64) (S' 27) (S' 29) (S' 1100007) (S' 1100023) (S' 1100024) (S' 1100025) (S' 26) (S' 1100029) (S' 44) (S' 1046 0) (S' 1032 0) (S' 1076 0) (S' 1007 0) (((S' 1092 0) - 1)) ∧ (S' 58 ((S' 1092 0) - 1)) = (S' 1100007 (S' 57 ((S' 1092 0) - 1))) ∧ sm_SK (S' 63) (S' 64) (S' 44) (S' 1100007) (S' 1100025) (S' 1076 0) (S' 1007 0) (400 * ((S' 1092 0) - 1)) ((S' 58 ((S' 1092 0) - 1))) ((S' 1100025 (S' 57 ((S' 1092 0) - 1))))) ∧ ((S' 1073 0) = 1 ∨ (S' 1092 0) = 0 ∧ (S' 1075 0) = 0 ∧ ((S' 1073 0) = 2 ∨ (S' 1073 0) = 3)) ∧ (S 1086 0) ≤ (S' 1086 0) ∧ (S' 1086 0) ≤ (S 1086 0) + 110 ∧ 0 ≤ (S' 1107 0) ∧ (S' 1107 0) ≤ 100 ∧ sm_PT (S' 67) (S' 1107 0) (S' 1007 0))
theorem la_step__0 {x0 : Int} (h0 : 1 ≤ x0) (h1 : x0 ≤ 24) : 0 ≤ x0 - 1 ∧ x0 - 1 < 24 := by omega
theorem la_step__1 {x0 x1 x2 : Int} (h0 : x0 ≤ 600) (h1 : 0 ≤ x1) (h2 : x1 < x0) (h3 : x1 = x2) : sv_R x2 := by omega
theorem la_step__2 {x0 x1 : Int} (h0 : x0 = x1) : x1 = x0 := by omega
theorem la_step__3 {x0 x1 x2 : Int} (h0 : sv_R x0) (h1 : (-1) ≤ x1) (h2 : x1 < x0) (h3 : x2 = x1) : sv_R x2 := by omega
theorem la_step__4 {x0 x1 : Int} (h0 : 0 ≤ x0) (h1 : x0 = x1) : 0 ≤ x1 := by omega
theorem la_step__5 {x0 x1 x2 : Int} (h0 : x0 < x1) (h1 : x0 = x2) : x2 < x1 := by omega
theorem la_step__6 {x0 x1 : Int} (h0 : (-1) ≤ x0) (h1 : x0 < x1) : 0 ≤ x1 := by omega
theorem la_step__7 {x0 x1 x2 x3 : Int} (h0 : x0 ≤ 600) (h1 : x1 < x0) (h2 : x1 = x2) (h3 : (-1) ≤ x3) (h4 : x3 < x2) : 0 ≤ x2 ∧ x2 < 600 := by omega
theorem la_step__8 {x0 : Int} (h0 : 0 ≤ x0) : ¬ x0 < 0 := by omega
theorem la_step__9 {x0 : Int} (h0 : 16 < x0) : 17 ≤ x0 := by omega
theorem la_step__10 {x0 x1 x2 : Int} (h0 : x0 = x1) (h1 : x0 = x2) : x2 = x1 := by omega
theorem la_step__11 {x0 x1 x2 : Int} (h0 : x0 = x1) (h1 : x2 = x1) : x0 = x2 := by omega
theorem la_step__12 {x0 x1 : Int} (h0 : x0 = x1) (h1 : 0 ≤ x1) : 0 ≤ x0 := by omega
theorem la_step__13 {x0 x1 : Int} (h0 : x0 = x1) (h1 : x1 ≤ 396) : x0 ≤ 400 := by omega
theorem la_step__14 {x0 : Int} : x0 ≤ x0 := by omega
theorem la_step__15 {x0 x1 x2 x3 : Int} (h0 : x0 < x1) (h1 : x2 < x0) (h2 : x2 = x3) : x3 < x1 := by omega
theorem la_step__16 {x0 x1 x2 x3 : Int} (h0 : 0 ≤ x0 → x1 = 29 ∧ x2 ≤ x3) : 0 ≤ x0 → x1 = 29 := by omega
theorem la_step__17 {x0 x1 x2 : Int} (h0 : x0 = x1) (h1 : x1 = x2) : x0 = x2 := by omega
theorem la_step__18 {x0 : Int} : x0 = x0 := by omega
theorem la_step__19 {x0 x1 x2 x3 x4 : Int} (h0 : x0 = x1) (h1 : 0 ≤ x2 → x3 ≤ x4) (h2 : x1 = x4) : 0 ≤ x2 → x3 ≤ x0 := by omega
theorem la_step__20 {x0 x1 : Int} (h0 : x0 = x1) (h1 : x1 ≤ 396) : x0 ≤ 396 := by omega
theorem la_step__21 {x0 x1 x2 x3 : Int} (h0 : x0 = x1) (h1 : x1 = x2) (h2 : x3 = 21 ∨ x3 = 27 ∨ x3 = 28 ∨ 1 ≤ x2) : x3 = 21 ∨ x3 = 27 ∨ x3 = 28 ∨ 1 ≤ x0 := by omega
theorem la_step__22 {x0 : Int} (h0 : x0 = 0) : ¬ x0 = 1 := by omega
theorem la_step__23 {x0 : Int} (h0 : x0 = 0) : ¬ ¬ x0 = 0 := by omega
theorem la_step__24 {x0 : Int} : x0 ≤ x0 + 110 := by omega
theorem la_step__25 {x0 : Int} (h0 : x0 = 0) : ¬ 17 ≤ x0 := by omega
theorem la_step__26 {x0 x1 : Int} (h0 : x0 + 1 < x1) : x0 < x1 := by omega
theorem la_step__27 {x0 x1 x2 : Int} (h0 : x0 < x1) (h1 : x1 + 1 < x2) : x0 < x2 := by omega
theorem la_step__28 : (0 : Int) ≤ 0 := by omega
theorem la_step__29 {x0 x1 : Int} (h0 : x0 = x1) (h1 : x1 ≤ 396) : x0 - 0 ≤ 399 := by omega
theorem la_step__30 {x0 x1 : Int} (h0 : 0 ≤ x0) (h1 : x1 = x0) : 0 ≤ x1 := by omega
theorem la_step__31 {x0 x1 : Int} (h0 : x0 ≤ 6) (h1 : x1 = x0) : x1 ≤ 7 := by omega
theorem la_step__32 {x0 x1 x2 x3 x4 x5 : Int} (h0 : x0 ≤ x1) (h1 : x2 ≤ 6) (h2 : x2 = 6 → 0 ≤ x3 ∧ x3 < x0) (h3 : x4 = x2) (h4 : x5 = x3) : x4 = 6 → 0 ≤ x5 ∧ x5 < x1 := by omega
theorem la_step__33 {x0 x1 x2 x3 x4 : Int} (h0 : x0 ≤ 6) (h1 : x1 = x0) : x1 = 7 → 0 ≤ x2 ∧ x2 < x3 ∧ ¬ x4 = 3 := by omega
theorem la_step__34 {x0 x1 x2 x3 x4 x5 : Int} (h0 : x0 = x1) (h1 : 0 ≤ x2 → x3 = 29 ∧ x4 ≤ x5) (h2 : x1 = x5) : 0 ≤ x2 → x4 ≤ x0 - 0 := by omega
theorem la_step__35 {x0 x1 x2 x3 : Int} (h0 : x0 = x1) (h1 : x1 = x2) (h2 : x3 = x2 + 1) : x3 = x0 - 0 + 1 := by omega
theorem la_step__36 {x0 : Int} (h0 : x0 = 0) : x0 ≤ 0 := by omega
theorem la_step__37 {x0 : Int} (h0 : x0 ≤ 0) (h1 : ¬ x0 = 0) : x0 < 0 := by omega
theorem la_step__38 {x0 : Int} (h0 : x0 = 0) : x0 = 1 → x0 = 1 := by omega
theorem la_step__39 {x0 : Int} (h0 : 1 ≤ x0) : 0 ≤ x0 := by omega
theorem la_step__40 {x0 x1 x2 : Int} (h0 : x0 = 0) (h1 : x1 = 1) (h2 : 1 ≤ x2) : x1 = 1 ∨ x2 = 0 ∧ x0 = 0 ∧ (x1 = 2 ∨ x1 = 3) := by omega
theorem la_step__41 {x0 : Int} (h0 : x0 = 1) : ¬ 17 ≤ x0 := by omega
theorem la_step__42 {x0 : Int} (h0 : x0 = 1) : x0 = 1 ∨ x0 = 3 ∨ x0 = 5 := by omega
theorem la_step__43 {x0 : Int} (h0 : x0 = 1) : x0 = 1 ∨ x0 = 2 := by omega
theorem la_step__44 {x0 x1 x2 x3 : Int} (h0 : x0 ≤ 300) (h1 : 0 ≤ x1) (h2 : x1 ≤ 3000) (h3 : 0 ≤ x2) (h4 : 23 ≤ x0) (h5 : 0 ≤ x3) (h6 : x3 < x0) : 0 ≤ x0 ∧ x0 ≤ 300 ∧ 0 ≤ x1 ∧ x1 ≤ 3000 ∧ 0 ≤ x2 ∧ 0 ≤ x3 ∧ x3 < x0 := by omega
theorem la_step__45 {x0 : Int} (h0 : 0 ≤ x0) : (-1) ≤ x0 := by omega
theorem la_step__46 {x0 : Int} (h0 : (-1) ≤ x0) (h1 : ¬ x0 = (-1)) : (-1) < x0 := by omega
theorem la_step__47 {x0 : Int} (h0 : 0 ≤ x0) (h1 : x0 < 3000) : 0 ≤ x0 ∧ x0 < 3000 := by omega
theorem la_step__48 {x0 : Int} (h0 : x0 = 2) : ¬ 17 ≤ x0 := by omega
theorem la_step__49 {x0 : Int} (h0 : x0 = 2) : x0 = 2 ∨ x0 = 4 := by omega
theorem la_step__50 {x0 : Int} (h0 : x0 = 2) : x0 = 1 ∨ x0 = 2 := by omega
theorem la_step__51 {x0 x1 : Int} (h0 : x0 = x1) (h1 : 1 ≤ x1) : 1 ≤ x0 := by omega
theorem la_step__52 {x0 x1 x2 : Int} (h0 : x0 = x1) (h1 : x1 = x2) (h2 : 0 ≤ x2 - 1) : 0 ≤ x0 - 1 := by omega
theorem la_step__53 {x0 : Int} : x0 - 1 < x0 := by omega
theorem la_step__54 {x0 x1 x2 x3 : Int} (h0 : 1 ≤ x0) (h1 : x0 ≤ 24) (h2 : x1 = x2) (h3 : x2 ≤ 396) (h4 : x2 = x3) (h5 : 0 ≤ x3 - 1) : 1 ≤ x0 ∧ x0 ≤ 24 ∧ 0 ≤ x1 ∧ x1 ≤ 400 ∧ (0 : Int) ≤ 0 ∧ 0 < x1 := by omega
theorem la_step__55 {x0 x1 x2 : Int} (h0 : x0 ≤ x1) (h1 : x2 < x0) : x2 < x1 := by omega
theorem la_step__56 {x0 x1 x2 x3 x4 : Int} (h0 : x0 ≤ 1900000000) (h1 : x1 = 3) : (x1 = 2 → x2 = 0 → x3 = 5 ∧ 0 ≤ x4 ∧ x4 ≤ 100) ∧ x0 < 2000000000 := by omega
theorem la_step__57 {x0 x1 x2 x3 : Int} (h0 : x0 ≤ 600) (h1 : 1 ≤ x1) (h2 : x1 ≤ 24) (h3 : 0 ≤ x2) (h4 : x2 = x3) (h5 : x3 + 1 < x0) : 1 ≤ x1 ∧ x1 ≤ 24 ∧ 0 ≤ x2 ∧ x2 ≤ 600 := by omega
theorem la_step__58 {x0 x1 : Int} (h0 : 0 ≤ x0) (h1 : x1 = x0 + 1) : 0 ≤ x1 := by omega
theorem la_step__59 {x0 x1 x2 x3 : Int} (h0 : x0 = x1) (h1 : x1 + 1 < x2) (h2 : x3 = x0 + 1) : x3 < x2 := by omega
theorem la_step__60 {x0 : Int} : ¬ ¬ x0 - 1 = x0 - 1 := by omega
theorem la_step__61 {x0 x1 x2 : Int} (h0 : x0 = x1) (h1 : x2 = x0 + 1) : x2 = x1 + 1 := by omega
theorem la_step__62 {x0 x1 x2 x3 x4 : Int} (h0 : x0 = x1) (h1 : x0 = x2) (h2 : x3 = x2) (h3 : x4 = x3) (h4 : x2 = x0) : x4 = x1 := by omega
theorem la_step__63 {x0 x1 x2 x3 : Int} (h0 : x0 = x1) (h1 : x2 = x1) (h2 : x3 = x2) : x3 = x0 := by omega
theorem la_step__64 {x0 x1 x2 x3 : Int} (h0 : x0 = x1) (h1 : x2 = x1) (h2 : x3 = x2) : x0 = x3 := by omega
theorem la_step__65 {x0 x1 x2 x3 x4 : Int} (h0 : x0 = x1) (h1 : x2 = x3) (h2 : x4 = x2) (h3 : x3 = x1) : x0 = x4 := by omega
theorem la_step__66 {x0 : Int} : x0 = x0 - 1 + 1 := by omega
theorem la_step__67 {x0 x1 x2 : Int} (h0 : x0 = 1) (h1 : 1 ≤ x1) : x0 = 1 ∨ x1 = 0 ∧ x2 = 0 ∧ (x0 = 2 ∨ x0 = 3) := by omega
theorem la_step__68 {x0 x1 : Int} (h0 : x0 ≤ x1 + 1) : x0 ≤ x1 + 110 := by omega
theorem la_step__69 {x0 : Int} (h0 : x0 = 5) : x0 = 1 ∨ x0 = 3 ∨ x0 = 5 := by omega
theorem la_step__70 {x0 : Int} (h0 : x0 = 5) : 3 ≤ x0 := by omega
theorem la_step__71 {x0 : Int} (h0 : 3 ≤ x0) (h1 : ¬ x0 = 3) : 3 < x0 := by omega
theorem la_step__72 {x0 : Int} (h0 : x0 = 5) : ¬ 17 ≤ x0 := by omega
theorem la_step__73 {x0 x1 x2 x3 : Int} (h0 : x0 = x1) (h1 : x1 = x2) (h2 : x3 = x2 + 1) : x3 = x0 + 1 := by omega
theorem la_step__74 : (0 : Int) = 0 ∨ (0 : Int) = 1 := by omega
theorem la_step__75 {x0 : Int} (h0 : ¬ ¬ x0 = 3) : ¬ 17 ≤ x0 := by omega
theorem la_step__76 {x0 : Int} (h0 : ¬ ¬ x0 = 3) : ¬ x0 = 5 := by omega
theorem la_step__77 {x0 : Int} (h0 : ¬ ¬ x0 = 3) (h1 : x0 = 3) : x0 = 1 ∨ x0 = 3 ∨ x0 = 5 := by omega
theorem la_step__78 : (1 : Int) = 0 ∨ (1 : Int) = 1 := by omega
theorem la_step__79 {x0 : Int} (h0 : x0 = 4) : ¬ 17 ≤ x0 := by omega
theorem la_step__80 {x0 : Int} (h0 : x0 = 4) : x0 = 2 ∨ x0 = 4 := by omega
theorem la_step__81 {x0 : Int} (h0 : 23 ≤ x0) : 1 ≤ x0 := by omega
theorem la_step__82 {x0 : Int} (h0 : 23 ≤ x0) : 0 < x0 := by omega
theorem la_step__83 {x0 x1 x2 x3 x4 : Int} (h0 : x0 ≤ 1900000000) (h1 : x1 = 0) : (x1 = 2 → x2 = 0 → x3 = 5 ∧ 0 ≤ x4 ∧ x4 ≤ 100) ∧ x0 < 2000000000 := by omega
theorem la_step__84 {x0 : Int} (h0 : 0 ≤ x0) (h1 : ¬ x0 = 0) : 0 < x0 := by omega
theorem la_step__85 {x0 x1 : Int} (h0 : x0 = 0) (h1 : 0 < x1) : ¬ x1 = x0 := by omega
theorem la_step__86 {x0 x1 x2 : Int} (h0 : x0 = 1) (h1 : 1 ≤ x1) (h2 : 0 < x2) : x0 = 1 ∨ x1 = 0 ∧ x2 = 0 ∧ (x0 = 2 ∨ x0 = 3) := by omega
theorem la_step__87 {x0 : Int} (h0 : ¬ ¬ x0 = 0) : x0 = 0 := by omega
theorem la_step__88 {x0 : Int} (h0 : ¬ ¬ x0 = 0) : x0 ≤ 0 := by omega
theorem la_step__89 {x0 x1 : Int} (h0 : 0 ≤ x0) (h1 : x0 < 0) : x1 < 3000 := by omega
theorem la_step__90 {x0 : Int} (h0 : x0 = 6) : ¬ 17 ≤ x0 := by omega
theorem la_step__91 {x0 : Int} (h0 : x0 = 7) : ¬ 17 ≤ x0 := by omega
theorem la_step__92 {x0 : Int} (h0 : x0 = 7) : x0 = 7 ∨ x0 = 8 := by omega
theorem la_step__93 {x0 x1 x2 : Int} (h0 : 1 ≤ x0) (h1 : x0 ≤ 11) (h2 : x1 ≤ 19) (h3 : 0 ≤ x2) (h4 : x2 < x1) : 0 ≤ x2 ∧ x2 ≤ 600 ∧ 1 ≤ x0 ∧ x0 ≤ 4001 := by omega
theorem la_step__94 {x0 x1 x2 x3 x4 x5 : Int} (h0 : 23 ≤ x0) (h1 : 1 ≤ x1) (h2 : x1 ≤ 11) (h3 : x2 ≤ 19) (h4 : 0 ≤ x3) (h5 : x3 < x2) (h6 : x4 = 29 + 6 * (x1 - 1) + 2 * x3) : ((1 : Int) = (-1) ∨ (0 : Int) ≤ 1 ∧ 1 < x0 ∨ x0 = 0 ∧ (1 : Int) = 1) ∧ (x0 = 1 → (1 : Int) = (-1)) ∧ 0 ≤ x4 ∧ x4 ≤ 1000 ∧ (0 : Int) ≤ 0 ∧ (0 : Int) ≤ 3 ∧ ((0 : Int) = 2 → x5 = x0) := by omega
theorem la_step__95 {x0 : Int} : ¬ (0 : Int) = 1 ∨ 9 ≤ x0 ∧ x0 < 23 := by omega
theorem la_step__96 {x0 : Int} (h0 : 23 ≤ x0) : 1 ≤ x0 ∨ x0 = 0 ∧ (0 : Int) = 0 := by omega
theorem la_step__97 {x0 x1 x2 : Int} (h0 : x0 < x1) (h1 : x0 = x2) : ¬ x1 = x2 := by omega
theorem la_step__98 {x0 x1 x2 : Int} (h0 : x0 ≤ 300) (h1 : x1 < x0) (h2 : x1 = x2) : x2 < 300 := by omega
theorem la_step__99 {x0 : Int} (h0 : x0 = 0) : ¬ x0 = 3 := by omega
theorem la_step__100 : ¬ (7 : Int) = 6 := by omega
theorem la_step__101 : (7 : Int) = 7 := by omega
theorem la_step__102 {x0 : Int} (h0 : x0 = 0) : x0 ≤ 3 := by omega
theorem la_step__103 {x0 : Int} (h0 : x0 ≤ 3) (h1 : ¬ x0 = 3) : x0 < 3 := by omega
theorem la_step__104 {x0 x1 : Int} (h0 : 23 ≤ x0) (h1 : x1 = x0 + 1) : 23 ≤ x1 := by omega
theorem la_step__105 {x0 x1 : Int} (h0 : 23 ≤ x0) (h1 : x0 ≤ x1) : 23 ≤ x1 := by omega
theorem la_step__106 {x0 : Int} (h0 : x0 = 8) : ¬ 17 ≤ x0 := by omega
theorem la_step__107 {x0 : Int} (h0 : x0 = 8) : x0 = 7 ∨ x0 = 8 := by omega
theorem la_step__108 {x0 x1 x2 x3 x4 x5 x6 x7 : Int} (h0 : x0 = (-1)) (h1 : 23 ≤ x1) (h2 : 31 ≤ x2) (h3 : x2 ≤ 400) (h4 : 1 ≤ x3) (h5 : x3 ≤ 11) (h6 : x4 ≤ 19) (h7 : x5 ≤ 1900000000) (h8 : 0 ≤ x6) (h9 : x6 < x4) (h10 : x7 = 29 + 6 * (x3 - 1) + 2 * x6) : x0 = (-1) ∧ 23 ≤ x1 ∧ 31 ≤ x2 ∧ x2 ≤ 400 ∧ 0 ≤ x7 ∧ x7 ≤ 1000 ∧ x5 ≤ 1900000000 := by omega
theorem la_step__109 {x0 : Int} (h0 : x0 = 2) : ¬ x0 = 3 := by omega
theorem la_step__110 {x0 : Int} (h0 : x0 = 2) : x0 ≤ 3 := by omega
theorem la_step__111 {x0 x1 x2 : Int} (h0 : 23 ≤ x0) (h1 : x1 < x2) (h2 : x1 = x0) : 23 ≤ x2 := by omega
theorem la_step__112 {x0 : Int} (h0 : x0 = 9) : ¬ 17 ≤ x0 := by omega
theorem la_step__113 {x0 x1 x2 x3 : Int} (h0 : x0 = x1) (h1 : x0 = x2) (h2 : x3 = x2) : x3 = x1 := by omega
theorem la_step__114 {x0 : Int} (h0 : x0 = 10) : ¬ 17 ≤ x0 := by omega
theorem la_step__115 {x0 : Int} (h0 : x0 = 10) : x0 = 10 ∨ x0 = 12 := by omega
theorem la_step__116 {x0 x1 x2 : Int} (h0 : x0 = x1) (h1 : x1 = x2) (h2 : 0 ≤ x2 - 2) : 0 ≤ x0 := by omega
theorem la_step__117 {x0 x1 x2 : Int} (h0 : x0 = x1) (h1 : x1 = x2) (h2 : 0 ≤ x2 - 2) : 2 ≤ x0 := by omega
theorem la_step__118 {x0 x1 x2 x3 x4 : Int} (h0 : x0 = x1) (h1 : x1 = x2) (h2 : 0 ≤ x3 → x4 ≤ x2 - 2) : 0 ≤ x3 → x4 ≤ x0 - 2 := by omega
theorem la_step__119 {x0 x1 x2 x3 : Int} (h0 : x0 = x1) (h1 : x1 = x2) (h2 : x3 = x2 - 1) : x3 = x0 + (-1) := by omega
theorem la_step__120 {x0 : Int} (h0 : x0 = 11) : ¬ 17 ≤ x0 := by omega
theorem la_step__121 {x0 x1 : Int} (h0 : x0 ≤ x1 + 2) (h1 : 0 ≤ x0 - 3) : 0 ≤ x1 := by omega
theorem la_step__122 {x0 x1 x2 : Int} (h0 : x0 = x1) (h1 : x1 = x2) (h2 : 0 ≤ x2 - 3) : 0 ≤ x0 := by omega
theorem la_step__123 {x0 x1 x2 : Int} (h0 : x0 = x1) (h1 : x1 = x2) (h2 : 0 ≤ x2 - 3) : 3 ≤ x0 := by omega
theorem la_step__124 {x0 x1 x2 x3 x4 : Int} (h0 : x0 = x1) (h1 : x1 = x2) (h2 : 0 ≤ x3 → x4 ≤ x2 - 3) : 0 ≤ x3 → x4 ≤ x0 - 3 := by omega
theorem la_step__125 {x0 x1 x2 x3 : Int} (h0 : x0 = x1) (h1 : x1 = x2) (h2 : x3 = x2 - 2) : x3 = x0 + (-2) := by omega
theorem la_step__126 {x0 : Int} (h0 : x0 = 12) : ¬ 17 ≤ x0 := by omega
theorem la_step__127 {x0 : Int} (h0 : x0 = 12) : x0 = 10 ∨ x0 = 12 := by omega
theorem la_step__128 {x0 : Int} (h0 : x0 = 13) : ¬ 17 ≤ x0 := by omega
theorem la_step__129 {x0 x1 x2 : Int} (h0 : x0 = x1) (h1 : x1 = x2) (h2 : 0 ≤ x2 - 1) : 0 ≤ x0 := by omega
theorem la_step__130 : (0 : Int) ≤ 1 := by omega
theorem la_step__131 {x0 x1 x2 : Int} (h0 : x0 = x1) (h1 : x1 = x2) (h2 : 0 ≤ x2 - 1) : 1 ≤ x0 := by omega
theorem la_step__132 {x0 x1 : Int} (h0 : x0 = x1) (h1 : x1 ≤ 396) : x0 - 1 ≤ 399 := by omega
theorem la_step__133 {x0 x1 x2 x3 x4 : Int} (h0 : x0 = x1) (h1 : x1 = x2) (h2 : 0 ≤ x3 → x4 ≤ x2 - 1) : 0 ≤ x3 → x4 ≤ x0 - 1 := by omega
theorem la_step__134 {x0 x1 x2 x3 : Int} (h0 : x0 = x1) (h1 : x1 = x2) (h2 : x3 = x2) : x3 = x0 - 1 + 1 := by omega
theorem la_step__135 {x0 : Int} (h0 : x0 ≤ 4) (h1 : ¬ x0 = 4) : x0 < 4 := by omega
theorem la_step__136 {x0 x1 x2 : Int} (h0 : x0 ≤ 400) (h1 : x1 = 6 → 0 ≤ x2 ∧ x2 < x0) : x1 = 6 → 0 ≤ x2 ∧ x2 < 400 := by omega
theorem la_step__137 {x0 : Int} (h0 : 2 ≤ x0) : 0 ≤ x0 := by omega
theorem la_step__138 {x0 : Int} (h0 : x0 ≤ 5) : x0 ≤ 7 := by omega
theorem la_step__139 {x0 x1 x2 : Int} (h0 : x0 ≤ 5) : x0 = 6 → 0 ≤ x1 ∧ x1 < x2 := by omega
theorem la_step__140 {x0 x1 x2 x3 : Int} (h0 : x0 ≤ 5) : x0 = 7 → 0 ≤ x1 ∧ x1 < x2 ∧ ¬ x3 = 3 := by omega
theorem la_step__141 {x0 x1 x2 x3 : Int} (h0 : x0 ≤ 300) (h1 : x1 ≤ 7) (h2 : x1 = 7 → 0 ≤ x2 ∧ x2 < x0 ∧ ¬ x3 = 3) : x1 = 7 → 0 ≤ x2 ∧ x2 < 300 := by omega
theorem la_step__142 {x0 : Int} (h0 : x0 = 6) : 0 ≤ x0 := by omega
theorem la_step__143 {x0 : Int} (h0 : x0 = 6) : x0 ≤ 7 := by omega
theorem la_step__144 {x0 x1 x2 x3 : Int} (h0 : 31 ≤ x0) (h1 : 19 ≤ x1) (h2 : x1 ≤ 24) (h3 : x2 = x1) : x3 = 6 → 0 ≤ x2 ∧ x2 < x0 := by omega
theorem la_step__145 {x0 x1 x2 x3 x4 : Int} (h0 : 19 ≤ x0) (h1 : x1 = 6) (h2 : x2 = x0) : x1 = 7 → 0 ≤ x2 ∧ x2 < x3 ∧ ¬ x4 = 3 := by omega
theorem la_step__146 {x0 : Int} (h0 : x0 = 14) : ¬ 17 ≤ x0 := by omega
theorem la_step__147 {x0 : Int} (h0 : x0 = 15) : ¬ 17 ≤ x0 := by omega
theorem la_step__148 {x0 : Int} (h0 : 0 ≤ x0) : 1 ≤ x0 + 2 := by omega
theorem la_step__149 {x0 x1 x2 x3 : Int} (h0 : x0 = x1) (h1 : x1 = x2) (h2 : 0 ≤ x2 - x3 - 2) : x3 + 2 ≤ x0 := by omega
theorem la_step__150 {x0 x1 x2 x3 x4 x5 : Int} (h0 : x0 = x1) (h1 : x1 = x2) (h2 : 0 ≤ x3 → x4 ≤ x2 - x5 - 2) : 0 ≤ x3 → x4 ≤ x0 - (x5 + 2) := by omega
theorem la_step__151 {x0 x1 x2 x3 x4 : Int} (h0 : x0 = x1) (h1 : x1 = x2) (h2 : x3 = x2 - x4 - 1) : x3 = x0 + 1 - (x4 + 2) := by omega
theorem la_step__152 {x0 : Int} (h0 : x0 = 16) : ¬ 17 ≤ x0 := by omega
theorem la_step__153 {x0 : Int} (h0 : 0 ≤ x0) : 1 ≤ x0 + 1 := by omega
theorem la_step__154 {x0 x1 x2 x3 : Int} (h0 : x0 = x1) (h1 : x1 = x2) (h2 : 0 ≤ x2 - x3 - 1) : x3 + 1 ≤ x0 := by omega
theorem la_step__155 {x0 x1 x2 x3 x4 x5 : Int} (h0 : x0 = x1) (h1 : x1 = x2) (h2 : 0 ≤ x3 → x4 ≤ x2 - x5 - 1) : 0 ≤ x3 → x4 ≤ x0 - (x5 + 1) := by omega
theorem la_step__156 {x0 x1 x2 x3 x4 : Int} (h0 : x0 = x1) (h1 : x1 = x2) (h2 : x3 = x2 - x4) : x3 = x0 + 1 - (x4 + 1) := by omega
set_option maxHeartbeats 16000000 in
theorem f_step_ : ∀ (S : sv_S), sm_ok S → ((S 1075 0) = 0 ∧ (S 1073 0) = 1 ∧ sm_PL (S 1100020) (S 51) (S 52) (S 46) (S 47) (S 1076 0) (S 1086 0) ∧ sm_FR (S 1100020) (S 52) (S 1100021) (S 1100022) (3000 - (S 1084 0)) (S 1085 0) ∧ sm_PV (S 1100020) (S 48) (S 49) (S 50) (S 44) (S 1076 0) (S 1007 0) ∧ sm_AL (S 1100020) (S 48) (S 49) (S 50) (S 44) (S 1076 0) (S 1100032 0) ∧ sm_SV (S 1100020) (S 48) (S 1100029) (S 32) (S 33) (S 1076 0) (S 1032 0) ∧ 0 ≤ (S 1076 0) ∧ (S 1076 0) ≤ 300 ∧ 0 ≤ (S 1084 0) ∧ (S 1084 0) ≤ 3000 ∧ 0 ≤ (S 1086 0) ∧ sm_SC (S 1100029) (S 44) (S 45) (S 43) (S 21) (S 1076 0) (S 1032 0) ∧ sm_PO (S 42) (S 1076 0) ∧ (S 1100032 0) = -1 ∧ sm_FO (S 44) (S 45) (S 1076 0) ∧ 23 ≤ (S 1076 0) ∧ 31 ≤ (S 1007 0) ∧ (S 1007 0) ≤ 400 ∧ sm_LN (S 4) 400 (S 1007 0) ∧ sm_CT (S 26) (S 27) (S 28) (S 29) (S 1100007) (S 1100023) (S 1100024) (S 1100025) (S 21) (S 1046 0) (S 1032 0) (S 1008 0) (S 1055 0) ∧ sm_LS (S 26) (S 1100007) (S 1100025) (S 1046 0) ∧ sm_CL (S 1100007) (S 1100023) (S 1100025) (S 1046 0) ∧ 1 ≤ (S 1032 0) ∧ (S 1032 0) ≤ 11 ∧ 0 ≤ (S 1046 0) ∧ (S 1046 0) ≤ 600 ∧ 31 ≤ (S 1008 0) ∧ (S 1008 0) ≤ (S 1007 0) ∧ 0 ≤ (S 1055 0) ∧ (S 1055 0) ≤ 19 ∧ 1 ≤ (S 1092 0) ∧ (S 1092 0) ≤ 24 ∧ 0 ≤ (S 57 ((S 1092 0) - 1)) ∧ (S 57 ((S 1092 0) - 1)) < (S 1046 0) ∧ (S 29 (S 57 ((S 1092 0) - 1))) = (S 53 ((S 1092 0) - 1)) ∧ 0 ≤ (S 53 ((S 1092 0) - 1)) ∧ (S 53 ((S 1092 0) - 1)) < (S 1032 0) ∧ (S 60 ((S 1092 0) - 1)) = sm_dp (S 1100024) (S 1100023 (S 57 ((S 1092 0) - 1))) ∧ sm_TC (S 61) (S 62) (S 27) (S 1100007) (S 1100023) (S 1100024) (40 * ((S 1092 0) - 1)) (S 1100023 (S 57 ((S 1092 0) - 1))) ∧ sm_LK (S 1100029) (S 1076 0) (S 54 ((S 1092 0) - 1)) (S 53 ((S 1092 0) - 1)) ∧ sm_VO (S 44) (S 1076 0) (S 1007 0) ((S 55 ((S 1092 0) - 1))) ((S 56 ((S 1092 0) - 1))) ∧ sm_FW (S 44) (S 1076 0) (S 59 ((S 1092 0) - 1)) ∧ sm_FL (S 53) (S 54) (S 55) (S 56) (S 57) (S 58) (S 59) (S 60) (S 61) (S 62) (S 63) (S 64) (S 27) (S 29) (S 1100007) (S 1100023) (S 1100024) (S 1100025) (S 26) (S 1100029) (S 44) (S 1046 0) (S 1032 0) (S 1076 0) (S 1007 0) (((S 1092 0) - 1)) ∧ (S 58 ((S 1092 0) - 1)) = (S 1100007 (S 57 ((S 1092 0) - 1))) ∧ sm_SK (S 63) (S 64) (S 44) (S 1100007) (S 1100025) (S 1076 0) (S 1007 0) (400 * ((S 1092 0) - 1)) ((S 58 ((S 1092 0) - 1))) ((S 1100025 (S 57 ((S 1092 0) - 1)))) ∧ sm_CV (S 26) (S 27) (S 28) (S 29) (S 21) (S 32) (S 33) (S 1046 0) ∧ (∀ g : Int, 0 ≤ g → g < (S 1032 0) → 0 ≤ (S 30 g) ∧ (S 30 g) < (S 1046 0) ∧ (S 1100007 (S 30 g)) = 0 ∧ (S 1100023 (S 30 g)) = -1 ∧ 0 ≤ (S 33 g) ∧ (S 33 g) ≤ 100 ∧ 0 ≤ (S 20 g) ∧ (S 20 g) ≤ 8) ∧ sm_VN (S 32) (S 33) (S 1032 0) (S 1008 0) ∧ (∀ f : Int, 0 ≤ f → f < (S 1032 0) → 0 ≤ (S 30 f) ∧ (S 30 f) < (S 1046 0) ∧ (S 29 (S 30 f)) = f ∧ (S 1100007 (S 30 f)) = 0 ∧ (S 1100023 (S 30 f)) = -1 ∧ (S 1100025 (S 30 f)) = -1) ∧ (S 1086 0) ≤ 1900000000 ∧ 0 ≤ (S 1107 0) ∧ (S 1107 0) ≤ 100 ∧ sm_PT (S 67) (S 1107 0) (S 1007 0) ∧ sm_LX (S 58) (S 63) (S 64) (S 1092 0) (S 1076 0)) → (sv_R (S 1092 0) → (0 ≤ ((S 1092 0) - (1 : Int)) ∧ ((S 1092 0) - (1 : Int)) < 24) ∧ (sv_R (S 57 ((S 1092 0) - (1 : Int))) → ((sm_CT (S 26) (S 27) (S 28) (S 29) (S 1100007) (S 1100023) (S 1100024) (S 1100025) (S 21) (S 1046 0) (S 1032 0) (S 1008 0) (S 1055 0) → 0 ≤ (S 57 ((S 1092 0) - (1 : Int))) → (S 57 ((S 1092 0) - (1 : Int))) < (S 1046 0) → (0 ≤ (S 26 (S 57 ((S 1092 0) - (1 : Int)))) ∧ (S 26 (S 57 ((S 1092 0) - (1 : Int)))) ≤ 30 ∧ 0 ≤ (S 29 (S 57 ((S 1092 0) - (1 : Int)))) ∧ (S 29 (S 57 ((S 1092 0) - (1 : Int)))) < (S 1032 0) ∧ 0 ≤ (S 1100007 (S 57 ((S 1092 0) - (1 : Int)))) ∧ (S 1100007 (S 57 ((S 1092 0) - (1 : Int)))) ≤ 396 ∧ (S 1100007 (S 57 ((S 1092 0) - (1 : Int)))) ≤ (S 57 ((S 1092 0) - (1 : Int))) + 2 ∧ -1 ≤ (S 1100023 (S 57 ((S 1092 0) - (1 : Int)))) ∧ (S 1100023 (S 57 ((S 1092 0) - (1 : Int)))) < (S 57 ((S 1092 0) - (1 : Int))) ∧ 0 ≤ (S 1100024 (S 57 ((S 1092 0) - (1 : Int)))) ∧ (S 1100024 (S 57 ((S 1092 0) - (1 : Int)))) ≤ 40 ∧ -1 ≤ (S 1100025 (S 57 ((S 1092 0) - (1 : Int)))) ∧ (S 1100025 (S 57 ((S 1092 0) - (1 : Int)))) < (S 57 ((S 1092 0) - (1 : Int))))) → (∀ x5 : Int, (S 57 ((S 1092 0) - (1 : Int))) = x5 → (sv_R (x5)) ∧ (sv_R ((S 1100025 x5))) ∧ ((sm_CT (S 26) (S 27) (S 28) (S 29) (S 1100007) (S 1100023) (S 1100024) (S 1100025) (S 21) (S 1046 0) (S 1032 0) (S 1008 0) (S 1055 0) → 0 ≤ (x5) → (x5) < (S 1046 0) → (0 ≤ (S 26 (x5)) ∧ (S 26 (x5)) ≤ 30 ∧ 0 ≤ (S 29 (x5)) ∧ (S 29 (x5)) < (S 1032 0) ∧ 0 ≤ (S 1100007 (x5)) ∧ (S 1100007 (x5)) ≤ 396 ∧ (S 1100007 (x5)) ≤ (x5) + 2 ∧ -1 ≤ (S 1100023 (x5)) ∧ (S 1100023 (x5)) < (x5) ∧ 0 ≤ (S 1100024 (x5)) ∧ (S 1100024 (x5)) ≤ 40 ∧ -1 ≤ (S 1100025 (x5)) ∧ (S 1100025 (x5)) < (x5))) → ((sm_CT (S 26) (S 27) (S 28) (S 29) (S 1100007) (S 1100023) (S 1100024) (S 1100025) (S 21) (S 1046 0) (S 1032 0) (S 1008 0) (S 1055 0) → 0 ≤ (x5) → (x5) < (S 1046 0) → (0 ≤ (S 1100025 (x5)) → (S 26 (S 1100025 (x5))) = 29 ∧ (S 1100007 (S 1100025 (x5))) ≤ (S 1100007 (x5))) ∧ (0 ≤ (S 1100007 (x5)) ∧ (S 1100007 (x5)) ≤ 396 ∧ -1 ≤ (S 1100023 (x5)) ∧ (S 1100023 (x5)) < (x5) ∧ -1 ≤ (S 1100025 (x5)) ∧ (S 1100025 (x5)) < (x5) ∧ 0 ≤ (S 26 (x5)) ∧ (S 26 (x5)) ≤ 30)) → ((sm_CT (S 26) (S 27) (S 28) (S 29) (S 1100007) (S 1100023) (S 1100024) (S 1100025) (S 21) (S 1046 0) (S 1032 0) (S 1008 0) (S 1055 0) → 0 ≤ (x5) → (x5) < (S 1046 0) → (0 ≤ (S 1100023 (x5)) → (S 1100007 (S 1100023 (x5))) ≤ (S 1100007 (x5)))) → ((sm_CT (S 26) (S 27) (S 28) (S 29) (S 1100007) (S 1100023) (S 1100024) (S 1100025) (S 21) (S 1046 0) (S 1032 0) (S 1008 0) (S 1055 0) → 0 ≤ (x5) → (x5) < (S 1046 0) → 17 ≤ (S 26 (x5)) → (S 26 (x5)) = 21 ∨ (S 26 (x5)) = 27 ∨ (S 26 (x5)) = 28 ∨ 1 ≤ (S 1100007 (x5))) → (((S 57 ((S 1092 0) - 1)) = x5 → (S 1100025 (S 57 ((S 1092 0) - 1))) = (S 1100025 x5)) → (((S 57 ((S 1092 0) - 1)) = x5 → (S 1100007 (S 57 ((S 1092 0) - 1))) = (S 1100007 x5)) → (((S 57 ((S 1092 0) - 1)) = x5 → (S 1100023 (S 57 ((S 1092 0) - 1))) = (S 1100023 x5)) → (((S 57 ((S 1092 0) - 1)) = x5 → (S 29 (S 57 ((S 1092 0) - 1))) = (S 29 x5)) → (0 ≤ x5 ∧ x5 < 600) ∧ (sv_R (S 27 x5) → (sv_R (S 28 x5) → (sv_R (S 26 x5) → ((((S 26 x5) < (0 : Int) ∨ (16 : Int) < (S 26 x5)) → ((S 1075 0) = 0 ∧ (S 1073 0) = 1 ∧ sm_LX (S 58) (S 63) (S 64) (S 1092 0) (S 1076 0) ∧ sm_PL (S 1100020) (S 51) (S 52) (S 46) (S 47) (S 1076 0) (S 1086 0) ∧ sm_FR (S 1100020) (S 52) (S 1100021) (S 1100022) (3000 - (S 1084 0)) (S 1085 0) ∧ sm_PV (S 1100020) (S 48) (S 49) (S 50) (S 44) (S 1076 0) (S 1007 0) ∧ sm_AL (S 1100020) (S 48) (S 49) (S 50) (S 44) (S 1076 0) (S 1100032 0) ∧ sm_SV (S 1100020) (S 48) (S 1100029) (S 32) (S 33) (S 1076 0) (S 1032 0) ∧ 0 ≤ (S 1076 0) ∧ (S 1076 0) ≤ 300 ∧ 0 ≤ (S 1084 0) ∧ (S 1084 0) ≤ 3000 ∧ 0 ≤ (S 1086 0) ∧ sm_SC (S 1100029) (S 44) (S 45) (S 43) (S 21) (S 1076 0) (S 1032 0) ∧ sm_PO (S 42) (S 1076 0) ∧ (S 1100032 0) = -1 ∧ sm_FO (S 44) (S 45) (S 1076 0) ∧ 23 ≤ (S 1076 0) ∧ 31 ≤ (S 1007 0) ∧ (S 1007 0) ≤ 400 ∧ sm_LN (S 4) 400 (S 1007 0) ∧ sm_CT (S 26) (S 27) (S 28) (S 29) (S 1100007) (S 1100023) (S 1100024) (S 1100025) (S 21) (S 1046 0) (S 1032 0) (S 1008 0) (S 1055 0) ∧ sm_LS (S 26) (S 1100007) (S 1100025) (S 1046 0) ∧ sm_CL (S 1100007) (S 1100023) (S 1100025) (S 1046 0) ∧ 1 ≤ (S 1032 0) ∧ (S 1032 0) ≤ 11 ∧ 0 ≤ (S 1046 0) ∧ (S 1046 0) ≤ 600 ∧ 31 ≤ (S 1008 0) ∧ (S 1008 0) ≤ (S 1007 0) ∧ 0 ≤ (S 1055 0) ∧ (S 1055 0) ≤ 19 ∧ 1 ≤ (S 1092 0) ∧ (S 1092 0) ≤ 24 ∧ 0 ≤ (x5) ∧ (x5) < (S 1046 0) ∧ (S 29 (x5)) = (S 53 ((S 1092 0) - 1)) ∧ 0 ≤ (S 53 ((S 1092 0) - 1)) ∧ (S 53 ((S 1092 0) - 1)) < (S 1032 0) ∧ (S 60 ((S 1092 0) - 1)) = sm_dp (S 1100024) (S 1100023 (x5)) ∧ sm_TC (S 61) (S 62) (S 27) (S 1100007) (S 1100023) (S 1100024) (40 * ((S 1092 0) - 1)) (S 1100023 (x5)) ∧ sm_LK (S 1100029) (S 1076 0) (S 54 ((S 1092 0) - 1)) (S 53 ((S 1092 0) - 1)) ∧ sm_VO (S 44) (S 1076 0) (S 1007 0) ((S 55 ((S 1092 0) - 1))) ((S 56 ((S 1092 0) - 1))) ∧ sm_FW (S 44) (S 1076 0) (S 59 ((S 1092 0) - 1)) ∧ sm_FL (S 53) (S 54) (S 55) (S 56) (S 57) (S 58) (S 59) (S 60) (S 61) (S 62) (S 63) (S 64) (S 27) (S 29) (S 1100007) (S 1100023) (S 1100024) (S 1100025) (S 26) (S 1100029) (S 44) (S 1046 0) (S 1032 0) (S 1076 0) (S 1007 0) (((S 1092 0) - 1)) ∧ (S 57 ((S 1092 0) - 1)) = (x5) ∧ 0 ≤ (S 58 ((S 1092 0) - 1)) ∧ (S 58 ((S 1092 0) - 1)) ≤ 400 ∧ sm_SK (S 63) (S 64) (S 44) (S 1100007) (S 1100025) (S 1076 0) (S 1007 0) (400 * ((S 1092 0) - 1)) ((S 58 ((S 1092 0) - 1))) (((S 1100025 x5))) ∧ -1 ≤ ((S 1100025 x5)) ∧ ((S 1100025 x5)) < (S 1046 0) ∧ (0 ≤ ((S 1100025 x5)) → (S 26 ((S 1100025 x5))) = 29) ∧ (S 58 ((S 1092 0) - 1)) = (S 1100007 (x5)) ∧ ((S 1100025 x5)) = (S 1100025 (x5)) ∧ (0 ≤ (S 1100023 (x5)) → (S 1100007 (S 1100023 (x5))) ≤ (S 58 ((S 1092 0) - 1))) ∧ (S 58 ((S 1092 0) - 1)) ≤ 396 ∧ 17 ≤ (S 26 x5) ∧ (S 26 x5) ≤ 30 ∧ (S 26 x5) = (S 26 (x5)) ∧ (S 27 x5) = (S 27 (x5)) ∧ ((S 26 x5) = 21 ∨ (S 26 x5) = 27 ∨ (S 26 x5) = 28 ∨ 1 ≤ (S 58 ((S 1092 0) - 1)))) ∧ (∀ g30 : sv_S, (sm_PL (S 1100020) (S 51) (S 52) (S 46) (S 47) (S 1076 0) (S 1086 0) ∧ sm_FR (S 1100020) (S 52) (S 1100021) (S 1100022) (3000 - (S 1084 0)) (S 1085 0) ∧ sm_PV (S 1100020) (S 48) (S 49) (S 50) (S 44) (S 1076 0) (S 1007 0) ∧ sm_AL (S 1100020) (S 48) (S 49) (S 50) (S 44) (S 1076 0) (S 1100032 0) ∧ sm_SV (S 1100020) (S 48) (S 1100029) (S 32) (S 33) (S 1076 0) (S 1032 0) ∧ 0 ≤ (S 1076 0) ∧ (S 1076 0) ≤ 300 ∧ 0 ≤ (S 1084 0) ∧ (S 1084 0) ≤ 3000 ∧ 0 ≤ (S 1086 0) ∧ sm_SC (S 1100029) (S 44) (S 45) (S 43) (S 21) (S 1076 0) (S 1032 0) ∧ sm_PO (S 42) (S 1076 0) ∧ ((S 1075 0) = 0 → (S 1100032 0) = -1 ∧ sm_FO (S 44) (S 45) (S 1076 0)) ∧ 23 ≤ (S 1076 0) ∧ 31 ≤ (S 1007 0) ∧ (S 1007 0) ≤ 400 ∧ sm_LN (S 4) 400 (S 1007 0) ∧ (S 1008 0) ≤ (S 1007 0) ∧ ((S 1075 0) = 1 → (S 1075 0) = 1) ∧ 0 ≤ (g30 1092 0) ∧ (g30 1092 0) ≤ 24 ∧ (S 1007 0) ≤ (S 1007 0) ∧ (¬ (S 1075 0) = 0 → sm_LX (g30 58) (g30 63) (g30 64) (g30 1092 0) (S 1076 0)) ∧ ((S 1075 0) = 0 → (g30 1073 0) = 1 → 1 ≤ (g30 1092 0) ∧ (g30 1092 0) ≤ 24 ∧ 0 ≤ (g30 57 ((g30 1092 0) - 1)) ∧ (g30 57 ((g30 1092 0) - 1)) < (S 1046 0) ∧ (S 29 (g30 57 ((g30 1092 0) - 1))) = (S 53 ((g30 1092 0) - 1)) ∧ 0 ≤ (S 53 ((g30 1092 0) - 1)) ∧ (S 53 ((g30 1092 0) - 1)) < (S 1032 0) ∧ (g30 60 ((g30 1092 0) - 1)) = sm_dp (S 1100024) (S 1100023 (g30 57 ((g30 1092 0) - 1))) ∧ sm_TC (g30 61) (g30 62) (S 27) (S 1100007) (S 1100023) (S 1100024) (40 * ((g30 1092 0) - 1)) (S 1100023 (g30 57 ((g30 1092 0) - 1))) ∧ sm_LK (S 1100029) (S 1076 0) (S 54 ((g30 1092 0) - 1)) (S 53 ((g30 1092 0) - 1)) ∧ sm_VO (S 44) (S 1076 0) (S 1007 0) ((S 55 ((g30 1092 0) - 1))) ((S 56 ((g30 1092 0) - 1))) ∧ sm_FW (S 44) (S 1076 0) (S 59 ((g30 1092 0) - 1)) ∧ sm_FL (S 53) (S 54) (S 55) (S 56) (g30 57) (g30 58) (S 59) (g30 60) (g30 61) (g30 62) (g30 63) (g30 64) (S 27) (S 29) (S 1100007) (S 1100023) (S 1100024) (S 1100025) (S 26) (S 1100029) (S 44) (S 1046 0) (S 1032 0) (S 1076 0) (S 1007 0) (((g30 1092 0) - 1)) ∧ (g30 58 ((g30 1092 0) - 1)) = (S 1100007 (g30 57 ((g30 1092 0) - 1))) ∧ sm_SK (g30 63) (g30 64) (S 44) (S 1100007) (S 1100025) (S 1076 0) (S 1007 0) (400 * ((g30 1092 0) - 1)) ((g30 58 ((g30 1092 0) - 1))) ((S 1100025 (g30 57 ((g30 1092 0) - 1))))) ∧ ((g30 1073 0) = 1 ∨ (g30 1092 0) = 0 ∧ (S 1075 0) = 0 ∧ ((g30 1073 0) = 2 ∨ (g30 1073 0) = 3))) → (sm_PL (S 1100020) (S 51) (S 52) (S 46) (S 47) (S 1076 0) (S 1086 0) ∧ sm_FR (S 1100020) (S 52) (S 1100021) (S 1100022) (3000 - (S 1084 0)) (S 1085 0) ∧ sm_PV (S 1100020) (S 48) (S 49) (S 50) (S 44) (S 1076 0) (S 1007 0) ∧ sm_AL (S 1100020) (S 48) (S 49) (S 50) (S 44) (S 1076 0) (S 1100032 0) ∧ sm_SV (S 1100020) (S 48) (S 1100029) (S 32) (S 33) (S 1076 0) (S 1032 0) ∧ 0 ≤ (S 1076 0) ∧ (S 1076 0) ≤ 300 ∧ 0 ≤ (S 1084 0) ∧ (S 1084 0) ≤ 3000 ∧ 0 ≤ (S 1086 0) ∧ sm_SC (S 1100029) (S 44) (S 45) (S 43) (S 21) (S 1076 0) (S 1032 0) ∧ sm_PO (S 42) (S 1076 0) ∧ ((S 1075 0) = 0 → (S 1100032 0) = -1 ∧ sm_FO (S 44) (S 45) (S 1076 0)) ∧ 23 ≤ (S 1076 0) ∧ 31 ≤ (S 1007 0) ∧ (S 1007 0) ≤ 400 ∧ sm_LN (S 4) 400 (S 1007 0) ∧ (S 1008 0) ≤ (S 1007 0) ∧ ((S 1075 0) = 1 → (S 1075 0) = 1) ∧ 0 ≤ (g30 1092 0) ∧ (g30 1092 0) ≤ 24 ∧ (S 1007 0) ≤ (S 1007 0) ∧ (¬ (S 1075 0) = 0 → sm_LX (g30 58) (g30 63) (g30 64) (g30 1092 0) (S 1076 0)) ∧ ((S 1075 0) = 0 → (g30 1073 0) = 1 → 1 ≤ (g30 1092 0) ∧ (g30 1092 0) ≤ 24 ∧ 0 ≤ (g30 57 ((g30 1092 0) - 1)) ∧ (g30 57 ((g30 1092 0) - 1)) < (S 1046 0) ∧ (S 29 (g30 57 ((g30 1092 0) - 1))) = (S 53 ((g30 1092 0) - 1)) ∧ 0 ≤ (S 53 ((g30 1092 0) - 1)) ∧ (S 53 ((g30 1092 0) - 1)) < (S 1032 0) ∧ (g30 60 ((g30 1092 0) - 1)) = sm_dp (S 1100024) (S 1100023 (g30 57 ((g30 1092 0) - 1))) ∧ sm_TC (g30 61) (g30 62) (S 27) (S 1100007) (S 1100023) (S 1100024) (40 * ((g30 1092 0) - 1)) (S 1100023 (g30 57 ((g30 1092 0) - 1))) ∧ sm_LK (S 1100029) (S 1076 0) (S 54 ((g30 1092 0) - 1)) (S 53 ((g30 1092 0) - 1)) ∧ sm_VO (S 44) (S 1076 0) (S 1007 0) ((S 55 ((g30 1092 0) - 1))) ((S 56 ((g30 1092 0) - 1))) ∧ sm_FW (S 44) (S 1076 0) (S 59 ((g30 1092 0) - 1)) ∧ sm_FL (S 53) (S 54) (S 55) (S 56) (g30 57) (g30 58) (S 59) (g30 60) (g30 61) (g30 62) (g30 63) (g30 64) (S 27) (S 29) (S 1100007) (S 1100023) (S 1100024) (S 1100025) (S 26) (S 1100029) (S 44) (S 1046 0) (S 1032 0) (S 1076 0) (S 1007 0) (((g30 1092 0) - 1)) ∧ (g30 58 ((g30 1092 0) - 1)) = (S 1100007 (g30 57 ((g30 1092 0) - 1))) ∧ sm_SK (g30 63) (g30 64) (S 44) (S 1100007) (S 1100025) (S 1076 0) (S 1007 0) (400 * ((g30 1092 0) - 1)) ((g30 58 ((g30 1092 0) - 1))) ((S 1100025 (g30 57 ((g30 1092 0) - 1))))) ∧ ((g30 1073 0) = 1 ∨ (g30 1092 0) = 0 ∧ (S 1075 0) = 0 ∧ ((g30 1073 0) = 2 ∨ (g30 1073 0) = 3)) ∧ (S 1086 0) ≤ (S 1086 0) ∧ (S 1086 0) ≤ (S 1086 0) + 110 ∧ 0 ≤ (S 1107 0) ∧ (S 1107 0) ≤ 100 ∧ sm_PT (S 67) (S 1107 0) (S 1007 0)))) ∧ (((S 26 x5) = (0 : Int)) → ((sm_CT (S 26) (S 27) (S 28) (S 29) (S 1100007) (S 1100023) (S 1100024) (S 1100025) (S 21) (S 1046 0) (S 1032 0) (S 1008 0) (S 1055 0) → 0 ≤ (x5) → (x5) < (S 1046 0) → ((S 26 (x5)) = 0 → (0 ≤ (S 27 (x5)) ∧ (S 27 (x5)) ≤ 6 ∧ ((S 27 (x5)) = 6 → 0 ≤ (S 28 (x5)) ∧ (S 28 (x5)) < (S 1008 0))) ∧ (0 ≤ ((S 1100007 (x5))) ∧ (0 ≤ (S 1100023 (x5)) → (S 1100007 (S 1100023 (x5))) ≤ ((S 1100007 (x5)))) ∧ (0 ≤ (S 1100025 (x5)) → (S 1100007 (S 1100025 (x5))) ≤ ((S 1100007 (x5))))) ∧ (0 ≤ ((x5) + 1) ∧ ((x5) + 1) < (S 1046 0) ∧ (S 29 ((x5) + 1)) = ((S 29 (x5))) ∧ (S 1100007 ((x5) + 1)) = ((S 1100007 (x5)) + 1) ∧ (S 1100023 ((x5) + 1)) = ((S 1100023 (x5))) ∧ (S 1100025 ((x5) + 1)) = ((S 1100025 (x5)))))) → (∀ g36 : sv_S, ((g36 1111 0) = (S 27 x5) ∧ (g36 1112 0) = (S 28 x5)) → (((S 1075 0) = 0 → (S 1073 0) = 1 → sm_PL (S 1100020) (S 51) (S 52) (S 46) (S 47) (S 1076 0) (S 1086 0) ∧ sm_FR (S 1100020) (S 52) (S 1100021) (S 1100022) (3000 - (S 1084 0)) (S 1085 0) ∧ sm_PV (S 1100020) (S 48) (S 49) (S 50) (S 44) (S 1076 0) (S 1007 0) ∧ sm_AL (S 1100020) (S 48) (S 49) (S 50) (S 44) (S 1076 0) (S 1100032 0) ∧ sm_SV (S 1100020) (S 48) (S 1100029) (S 32) (S 33) (S 1076 0) (S 1032 0) ∧ 0 ≤ (S 1076 0) ∧ (S 1076 0) ≤ 300 ∧ 0 ≤ (S 1084 0) ∧ (S 1084 0) ≤ 3000 ∧ 0 ≤ (S 1086 0) ∧ sm_SC (S 1100029) (S 44) (S 45) (S 43) (S 21) (S 1076 0) (S 1032 0) ∧ sm_PO (S 42) (S 1076 0) ∧ (S 1100032 0) = -1 ∧ sm_FO (S 44) (S 45) (S 1076 0) ∧ 23 ≤ (S 1076 0) ∧ 31 ≤ (S 1007 0) ∧ (S 1007 0) ≤ 400 ∧ sm_LN (S 4) 400 (S 1007 0) ∧ sm_CT (S 26) (S 27) (S 28) (S 29) (S 1100007) (S 1100023) (S 1100024) (S 1100025) (S 21) (S 1046 0) (S 1032 0) (S 1008 0) (S 1055 0) ∧ sm_LS (S 26) (S 1100007) (S 1100025) (S 1046 0) ∧ sm_CL (S 1100007) (S 1100023) (S 1100025) (S 1046 0) ∧ 1 ≤ (S 1032 0) ∧ (S 1032 0) ≤ 11 ∧ 0 ≤ (S 1046 0) ∧ (S 1046 0) ≤ 600 ∧ 31 ≤ (S 1008 0) ∧ (S 1008 0) ≤ (S 1007 0) ∧ 0 ≤ (S 1055 0) ∧ (S 1055 0) ≤ 19 ∧ 1 ≤ (S 1092 0) ∧ (S 1092 0) ≤ 24 ∧ 0 ≤ (x5) ∧ (x5) < (S 1046 0) ∧ (S 29 (x5)) = (S 53 ((S 1092 0) - 1)) ∧ 0 ≤ (S 53 ((S 1092 0) - 1)) ∧ (S 53 ((S 1092 0) - 1)) < (S 1032 0) ∧ (S 60 ((S 1092 0) - 1)) = sm_dp (S 1100024) (S 1100023 (x5)) ∧ sm_TC (S 61) (S 62) (S 27) (S 1100007) (S 1100023) (S 1100024) (40 * ((S 1092 0) - 1)) (S 1100023 (x5)) ∧ sm_LK (S 1100029) (S 1076 0) (S 54 ((S 1092 0) - 1)) (S 53 ((S 1092 0) - 1)) ∧ sm_VO (S 44) (S 1076 0) (S 1007 0) ((S 55 ((S 1092 0) - 1))) ((S 56 ((S 1092 0) - 1))) ∧ sm_FW (S 44) (S 1076 0) (S 59 ((S 1092 0) - 1)) ∧ sm_FL (S 53) (S 54) (S 55) (S 56) (S 57) (S 58) (S 59) (S 60) (S 61) (S 62) (S 63) (S 64) (S 27) (S 29) (S 1100007) (S 1100023) (S 1100024) (S 1100025) (S 26) (S 1100029) (S 44) (S 1046 0) (S 1032 0) (S 1076 0) (S 1007 0) (((S 1092 0) - 1)) ∧ (S 57 ((S 1092 0) - 1)) = (x5) ∧ 0 ≤ (S 58 ((S 1092 0) - 1)) ∧ (S 58 ((S 1092 0) - 1)) ≤ 400 ∧ sm_SK (S 63) (S 64) (S 44) (S 1100007) (S 1100025) (S 1076 0) (S 1007 0) (400 * ((S 1092 0) - 1)) ((S 58 ((S 1092 0) - 1))) (((S 1100025 x5))) ∧ -1 ≤ ((S 1100025 x5)) ∧ ((S 1100025 x5)) < (S 1046 0) ∧ (0 ≤ ((S 1100025 x5)) → (S 26 ((S 1100025 x5))) = 29) ∧ 0 ≤ (0 : Int) ∧ (0 : Int) ≤ (S 58 ((S 1092 0) - 1)) ∧ (S 58 ((S 1092 0) - 1)) - (0 : Int) ≤ 399 ∧ sm_VO (S 44) (S 1076 0) (S 1007 0) ((g36 1111 0)) ((g36 1112 0)) ∧ (0 ≤ ((S 1100025 x5)) → (S 1100007 ((S 1100025 x5))) ≤ (S 58 ((S 1092 0) - 1)) - (0 : Int)) ∧ (x5) + 1 < (S 1046 0) ∧ (S 29 ((x5) + 1)) = (S 29 (x5)) ∧ (S 1100007 ((x5) + 1)) = (S 58 ((S 1092 0) - 1)) - (0 : Int) + 1 ∧ (S 1100023 ((x5) + 1)) = (S 1100023 (x5)) ∧ (S 1100025 ((x5) + 1)) = ((S 1100025 x5))) ∧ (¬ (S 1075 0) = 0 → sm_LX (S 58) (S 63) (S 64) (S 1092 0) (S 1076 0))) ∧ (∀ g42 : sv_S, (((S 1075 0) = 0 → (S 1073 0) = 1 → 1 ≤ (S 1092 0) ∧ (S 1092 0) ≤ 24 ∧ 0 ≤ (g42 57 ((S 1092 0) - 1)) ∧ (g42 57 ((S 1092 0) - 1)) < (S 1046 0) ∧ (S 29 (g42 57 ((S 1092 0) - 1))) = (S 53 ((S 1092 0) - 1)) ∧ 0 ≤ (S 53 ((S 1092 0) - 1)) ∧ (S 53 ((S 1092 0) - 1)) < (S 1032 0) ∧ (S 60 ((S 1092 0) - 1)) = sm_dp (S 1100024) (S 1100023 (g42 57 ((S 1092 0) - 1))) ∧ sm_TC (S 61) (S 62) (S 27) (S 1100007) (S 1100023) (S 1100024) (40 * ((S 1092 0) - 1)) (S 1100023 (g42 57 ((S 1092 0) - 1))) ∧ sm_LK (S 1100029) (S 1076 0) (S 54 ((S 1092 0) - 1)) (S 53 ((S 1092 0) - 1)) ∧ sm_VO (S 44) (S 1076 0) (S 1007 0) ((S 55 ((S 1092 0) - 1))) ((S 56 ((S 1092 0) - 1))) ∧ sm_FW (S 44) (S 1076 0) (S 59 ((S 1092 0) - 1)) ∧ sm_FL (S 53) (S 54) (S 55) (S 56) (g42 57) (g42 58) (S 59) (S 60) (S 61) (S 62) (g42 63) (g42 64) (S 27) (S 29) (S 1100007) (S 1100023) (S 1100024) (S 1100025) (S 26) (S 1100029) (S 44) (S 1046 0) (S 1032 0) (S 1076 0) (S 1007 0) (((S 1092 0) - 1)) ∧ (g42 58 ((S 1092 0) - 1)) = (S 1100007 (g42 57 ((S 1092 0) - 1))) ∧ sm_SK (g42 63) (g42 64) (S 44) (S 1100007) (S 1100025) (S 1076 0) (S 1007 0) (400 * ((S 1092 0) - 1)) ((g42 58 ((S 1092 0) - 1))) ((S 1100025 (g42 57 ((S 1092 0) - 1))))) ∧ (¬ (S 1075 0) = 0 → sm_LX (g42 58) (g42 63) (g42 64) (S 1092 0) (S 1076 0))) → (sm_PL (S 1100020) (S 51) (S 52) (S 46) (S 47) (S 1076 0) (S 1086 0) ∧ sm_FR (S 1100020) (S 52) (S 1100021) (S 1100022) (3000 - (S 1084 0)) (S 1085 0) ∧ sm_PV (S 1100020) (S 48) (S 49) (S 50) (S 44) (S 1076 0) (S 1007 0) ∧ sm_AL (S 1100020) (S 48) (S 49) (S 50) (S 44) (S 1076 0) (S 1100032 0) ∧ sm_SV (S 1100020) (S 48) (S 1100029) (S 32) (S 33) (S 1076 0) (S 1032 0) ∧ 0 ≤ (S 1076 0) ∧ (S 1076 0) ≤ 300 ∧ 0 ≤ (S 1084 0) ∧ (S 1084 0) ≤ 3000 ∧ 0 ≤ (S 1086 0) ∧ sm_SC (S 1100029) (S 44) (S 45) (S 43) (S 21) (S 1076 0) (S 1032 0) ∧ sm_PO (S 42) (S 1076 0) ∧ ((S 1075 0) = 0 → (S 1100032 0) = -1 ∧ sm_FO (S 44) (S 45) (S 1076 0)) ∧ 23 ≤ (S 1076 0) ∧ 31 ≤ (S 1007 0) ∧ (S 1007 0) ≤ 400 ∧ sm_LN (S 4) 400 (S 1007 0) ∧ (S 1008 0) ≤ (S 1007 0) ∧ ((S 1075 0) = 1 → (S 1075 0) = 1) ∧ 0 ≤ (S 1092 0) ∧ (S 1092 0) ≤ 24 ∧ (S 1007 0) ≤ (S 1007 0) ∧ (¬ (S 1075 0) = 0 → sm_LX (g42 58) (g42 63) (g42 64) (S 1092 0) (S 1076 0)) ∧ ((S 1075 0) = 0 → (S 1073 0) = 1 → 1 ≤ (S 1092 0) ∧ (S 1092 0) ≤ 24 ∧ 0 ≤ (g42 57 ((S 1092 0) - 1)) ∧ (g42 57 ((S 1092 0) - 1)) < (S 1046 0) ∧ (S 29 (g42 57 ((S 1092 0) - 1))) = (S 53 ((S 1092 0) - 1)) ∧ 0 ≤ (S 53 ((S 1092 0) - 1)) ∧ (S 53 ((S 1092 0) - 1)) < (S 1032 0) ∧ (S 60 ((S 1092 0) - 1)) = sm_dp (S 1100024) (S 1100023 (g42 57 ((S 1092 0) - 1))) ∧ sm_TC (S 61) (S 62) (S 27) (S 1100007) (S 1100023) (S 1100024) (40 * ((S 1092 0) - 1)) (S 1100023 (g42 57 ((S 1092 0) - 1))) ∧ sm_LK (S 1100029) (S 1076 0) (S 54 ((S 1092 0) - 1)) (S 53 ((S 1092 0) - 1)) ∧ sm_VO (S 44) (S 1076 0) (S 1007 0) ((S 55 ((S 1092 0) - 1))) ((S 56 ((S 1092 0) - 1))) ∧ sm_FW (S 44) (S 1076 0) (S 59 ((S 1092 0) - 1)) ∧ sm_FL (S 53) (S 54) (S 55) (S 56) (g42 57) (g42 58) (S 59) (S 60) (S 61) (S 62) (g42 63) (g42 64) (S 27) (S 29) (S 1100007) (S 1100023) (S 1100024) (S 1100025) (S 26) (S 1100029) (S 44) (S 1046 0) (S 1032 0) (S 1076 0) (S 1007 0) (((S 1092 0) - 1)) ∧ (g42 58 ((S 1092 0) - 1)) = (S 1100007 (g42 57 ((S 1092 0) - 1))) ∧ sm_SK (g42 63) (g42 64) (S 44) (S 1100007) (S 1100025) (S 1076 0) (S 1007 0) (400 * ((S 1092 0) - 1)) ((g42 58 ((S 1092 0) - 1))) ((S 1100025 (g42 57 ((S 1092 0) - 1))))) ∧ ((S 1073 0) = 1 ∨ (S 1092 0) = 0 ∧ (S 1075 0) = 0 ∧ ((S 1073 0) = 2 ∨ (S 1073 0) = 3)) ∧ (S 1086 0) ≤ (S 1086 0) ∧ (S 1086 0) ≤ (S 1086 0) + 110 ∧ 0 ≤ (S 1107 0) ∧ (S 1107 0) ≤ 100 ∧ sm_PT (S 67) (S 1107 0) (S 1007 0)))))) ∧ (((S 26 x5) = (1 : Int)) → ((sm_CT (S 26) (S 27) (S 28) (S 29) (S 1100007) (S 1100023) (S 1100024) (S 1100025) (S 21) (S 1046 0) (S 1032 0) (S 1008 0) (S 1055 0) → 0 ≤ (x5) → (x5) < (S 1046 0) → (((S 26 (x5)) = 1 ∨ (S 26 (x5)) = 3 ∨ (S 26 (x5)) = 5) → (0 ≤ (S 27 (x5)) ∧ 0 ≤ (S 28 (x5)) ∧ (S 28 (x5)) < (S 1008 0)) ∧ (0 ≤ ((S 1100007 (x5))) ∧ (0 ≤ (S 1100023 (x5)) → (S 1100007 (S 1100023 (x5))) ≤ ((S 1100007 (x5)))) ∧ (0 ≤ (S 1100025 (x5)) → (S 1100007 (S 1100025 (x5))) ≤ ((S 1100007 (x5))))) ∧ (0 ≤ ((x5) + 1) ∧ ((x5) + 1) < (S 1046 0) ∧ (S 29 ((x5) + 1)) = ((S 29 (x5))) ∧ (S 1100007 ((x5) + 1)) = ((S 1100007 (x5)) + 1) ∧ (S 1100023 ((x5) + 1)) = ((S 1100023 (x5))) ∧ (S 1100025 ((x5) + 1)) = ((S 1100025 (x5)))))) → ((sm_CV (S 26) (S 27) (S 28) (S 29) (S 21) (S 32) (S 33) (S 1046 0) → 0 ≤ (x5) → (x5) < (S 1046 0) → ((S 26 (x5)) = 1 ∨ (S 26 (x5)) = 2) → (S 29 (x5)) = (S 53 ((S 1092 0) - 1)) → (S 27 x5) = (S 27 (x5)) → sm_UA (S 21) (S 53 ((S 1092 0) - 1)) (S 27 x5)) → (1 ≤ (S 1092 0) ∧ (S 1092 0) ≤ 24 ∧ 0 ≤ (S 27 x5) ∧ (S 1076 0) ≤ 300 ∧ sm_SC (S 1100029) (S 44) (S 45) (S 43) (S 21) (S 1076 0) (S 1032 0) ∧ sm_LK (S 1100029) (S 1076 0) (S 54 ((S 1092 0) - 1)) (S 53 ((S 1092 0) - 1)) ∧ sm_UA (S 21) (S 53 ((S 1092 0) - 1)) (S 27 x5)) ∧ (∀ r54 : Int, sv_R r54 → (0 ≤ r54 ∧ r54 < (S 1076 0) ∧ (S 1100029 r54) = sm_ua (S 21) ((S 53 ((S 1092 0) - 1))) ((S 27 x5))) → (sv_R (r54)) ∧ (((S 29 (x5)) = (S 53 ((S 1092 0) - 1)) → (S 27 x5) = (S 27 (x5)) → (S 1100029 r54) = sm_ua (S 21) ((S 53 ((S 1092 0) - 1))) ((S 27 x5)) → (S 1100029 r54) = sm_ua (S 21) ((S 29 (x5))) ((S 27 (x5)))) → (sm_PL (S 1100020) (S 51) (S 52) (S 46) (S 47) (S 1076 0) (S 1086 0) ∧ 0 ≤ (S 1076 0) ∧ (S 1076 0) ≤ 300 ∧ 0 ≤ (S 1084 0) ∧ (S 1084 0) ≤ 3000 ∧ 0 ≤ (S 1086 0) ∧ 0 ≤ r54 ∧ r54 < (S 1076 0)) ∧ (∀ r66 : Int, sv_R r66 → ((r66 = -1 ∨ (0 ≤ r66 ∧ r66 < 3000 ∧ (S 1100020 r66) = r54 ∧ (S 48 r66) = (S 28 x5))) ∧ (r66 = -1 → sm_NB (S 1100020) (S 51) (S 48) (r54) ((S 28 x5)) (-1))) → ((sm_CV (S 26) (S 27) (S 28) (S 29) (S 21) (S 32) (S 33) (S 1046 0) → sm_SV (S 1100020) (S 48) (S 1100029) (S 32) (S 33) (S 1076 0) (S 1032 0) → 0 ≤ (x5) → (x5) < (S 1046 0) → ((S 26 (x5)) = 1 ∨ (S 26 (x5)) = 2) → 0 ≤ (r54) → (r54) < (S 1076 0) → (S 1100029 (r54)) = sm_ua (S 21) ((S 29 (x5))) ((S 27 (x5))) → (S 28 x5) = (S 28 (x5)) → (r66 = -1 → sm_NB (S 1100020) (S 51) (S 48) ((r54)) ((S 28 x5)) (-1)) → ¬ r66 = -1) → ((sm_PV (S 1100020) (S 48) (S 49) (S 50) (S 44) (S 1076 0) (S 1007 0) → 0 ≤ r66 → r66 < 3000 → 0 ≤ (S 1100020 r66) → (0 ≤ (S 48 r66) ∧ (S 48 r66) < (S 1007 0)) ∧ sm_VO (S 44) (S 1076 0) (S 1007 0) ((S 49 r66)) ((S 50 r66))) → (0 ≤ r66 ∧ r66 < 3000) ∧ (sv_R (S 49 r66) → (sv_R (S 50 r66) → (∀ g72 : sv_S, ((g72 1111 0) = (S 49 r66) ∧ (g72 1112 0) = (S 50 r66)) → (((S 1075 0) = 0 → (S 1073 0) = 1 → sm_PL (S 1100020) (S 51) (S 52) (S 46) (S 47) (S 1076 0) (S 1086 0) ∧ sm_FR (S 1100020) (S 52) (S 1100021) (S 1100022) (3000 - (S 1084 0)) (S 1085 0) ∧ sm_PV (S 1100020) (S 48) (S 49) (S 50) (S 44) (S 1076 0) (S 1007 0) ∧ sm_AL (S 1100020) (S 48) (S 49) (S 50) (S 44) (S 1076 0) (S 1100032 0) ∧ sm_SV (S 1100020) (S 48) (S 1100029) (S 32) (S 33) (S 1076 0) (S 1032 0) ∧ 0 ≤ (S 1076 0) ∧ (S 1076 0) ≤ 300 ∧ 0 ≤ (S 1084 0) ∧ (S 1084 0) ≤ 3000 ∧ 0 ≤ (S 1086 0) ∧ sm_SC (S 1100029) (S 44) (S 45) (S 43) (S 21) (S 1076 0) (S 1032 0) ∧ sm_PO (S 42) (S 1076 0) ∧ (S 1100032 0) = -1 ∧ sm_FO (S 44) (S 45) (S 1076 0) ∧ 23 ≤ (S 1076 0) ∧ 31 ≤ (S 1007 0) ∧ (S 1007 0) ≤ 400 ∧ sm_LN (S 4) 400 (S 1007 0) ∧ sm_CT (S 26) (S 27) (S 28) (S 29) (S 1100007) (S 1100023) (S 1100024) (S 1100025) (S 21) (S 1046 0) (S 1032 0) (S 1008 0) (S 1055 0) ∧ sm_LS (S 26) (S 1100007) (S 1100025) (S 1046 0) ∧ sm_CL (S 1100007) (S 1100023) (S 1100025) (S 1046 0) ∧ 1 ≤ (S 1032 0) ∧ (S 1032 0) ≤ 11 ∧ 0 ≤ (S 1046 0) ∧ (S 1046 0) ≤ 600 ∧ 31 ≤ (S 1008 0) ∧ (S 1008 0) ≤ (S 1007 0) ∧ 0 ≤ (S 1055 0) ∧ (S 1055 0) ≤ 19 ∧ 1 ≤ (S 1092 0) ∧ (S 1092 0) ≤ 24 ∧ 0 ≤ (x5) ∧ (x5) < (S 1046 0) ∧ (S 29 (x5)) = (S 53 ((S 1092 0) - 1)) ∧ 0 ≤ (S 53 ((S 1092 0) - 1)) ∧ (S 53 ((S 1092 0) - 1)) < (S 1032 0) ∧ (S 60 ((S 1092 0) - 1)) = sm_dp (S 1100024) (S 1100023 (x5)) ∧ sm_TC (S 61) (S 62) (S 27) (S 1100007) (S 1100023) (S 1100024) (40 * ((S 1092 0) - 1)) (S 1100023 (x5)) ∧ sm_LK (S 1100029) (S 1076 0) (S 54 ((S 1092 0) - 1)) (S 53 ((S 1092 0) - 1)) ∧ sm_VO (S 44) (S 1076 0) (S 1007 0) ((S 55 ((S 1092 0) - 1))) ((S 56 ((S 1092 0) - 1))) ∧ sm_FW (S 44) (S 1076 0) (S 59 ((S 1092 0) - 1)) ∧ sm_FL (S 53) (S 54) (S 55) (S 56) (S 57) (S 58) (S 59) (S 60) (S 61) (S 62) (S 63) (S 64) (S 27) (S 29) (S 1100007) (S 1100023) (S 1100024) (S 1100025) (S 26) (S 1100029) (S 44) (S 1046 0) (S 1032 0) (S 1076 0) (S 1007 0) (((S 1092 0) - 1)) ∧ (S 57 ((S 1092 0) - 1)) = (x5) ∧ 0 ≤ (S 58 ((S 1092 0) - 1)) ∧ (S 58 ((S 1092 0) - 1)) ≤ 400 ∧ sm_SK (S 63) (S 64) (S 44) (S 1100007) (S 1100025) (S 1076 0) (S 1007 0) (400 * ((S 1092 0) - 1)) ((S 58 ((S 1092 0) - 1))) (((S 1100025 x5))) ∧ -1 ≤ ((S 1100025 x5)) ∧ ((S 1100025 x5)) < (S 1046 0) ∧ (0 ≤ ((S 1100025 x5)) → (S 26 ((S 1100025 x5))) = 29) ∧ 0 ≤ (0 : Int) ∧ (0 : Int) ≤ (S 58 ((S 1092 0) - 1)) ∧ (S 58 ((S 1092 0) - 1)) - (0 : Int) ≤ 399 ∧ sm_VO (S 44) (S 1076 0) (S 1007 0) ((g72 1111 0)) ((g72 1112 0)) ∧ (0 ≤ ((S 1100025 x5)) → (S 1100007 ((S 1100025 x5))) ≤ (S 58 ((S 1092 0) - 1)) - (0 : Int)) ∧ (x5) + 1 < (S 1046 0) ∧ (S 29 ((x5) + 1)) = (S 29 (x5)) ∧ (S 1100007 ((x5) + 1)) = (S 58 ((S 1092 0) - 1)) - (0 : Int) + 1 ∧ (S 1100023 ((x5) + 1)) = (S 1100023 (x5)) ∧ (S 1100025 ((x5) + 1)) = ((S 1100025 x5))) ∧ (¬ (S 1075 0) = 0 → sm_LX (S 58) (S 63) (S 64) (S 1092 0) (S 1076 0))) ∧ (∀ g78 : sv_S, (((S 1075 0) = 0 → (S 1073 0) = 1 → 1 ≤ (S 1092 0) ∧ (S 1092 0) ≤ 24 ∧ 0 ≤ (g78 57 ((S 1092 0) - 1)) ∧ (g78 57 ((S 1092 0) - 1)) < (S 1046 0) ∧ (S 29 (g78 57 ((S 1092 0) - 1))) = (S 53 ((S 1092 0) - 1)) ∧ 0 ≤ (S 53 ((S 1092 0) - 1)) ∧ (S 53 ((S 1092 0) - 1)) < (S 1032 0) ∧ (S 60 ((S 1092 0) - 1)) = sm_dp (S 1100024) (S 1100023 (g78 57 ((S 1092 0) - 1))) ∧ sm_TC (S 61) (S 62) (S 27) (S 1100007) (S 1100023) (S 1100024) (40 * ((S 1092 0) - 1)) (S 1100023 (g78 57 ((S 1092 0) - 1))) ∧ sm_LK (S 1100029) (S 1076 0) (S 54 ((S 1092 0) - 1)) (S 53 ((S 1092 0) - 1)) ∧ sm_VO (S 44) (S 1076 0) (S 1007 0) ((S 55 ((S 1092 0) - 1))) ((S 56 ((S 1092 0) - 1))) ∧ sm_FW (S 44) (S 1076 0) (S 59 ((S 1092 0) - 1)) ∧ sm_FL (S 53) (S 54) (S 55) (S 56) (g78 57) (g78 58) (S 59) (S 60) (S 61) (S 62) (g78 63) (g78 64) (S 27) (S 29) (S 1100007) (S 1100023) (S 1100024) (S 1100025) (S 26) (S 1100029) (S 44) (S 1046 0) (S 1032 0) (S 1076 0) (S 1007 0) (((S 1092 0) - 1)) ∧ (g78 58 ((S 1092 0) - 1)) = (S 1100007 (g78 57 ((S 1092 0) - 1))) ∧ sm_SK (g78 63) (g78 64) (S 44) (S 1100007) (S 1100025) (S 1076 0) (S 1007 0) (400 * ((S 1092 0) - 1)) ((g78 58 ((S 1092 0) - 1))) ((S 1100025 (g78 57 ((S 1092 0) - 1))))) ∧ (¬ (S 1075 0) = 0 → sm_LX (g78 58) (g78 63) (g78 64) (S 1092 0) (S 1076 0))) → (sm_PL (S 1100020) (S 51) (S 52) (S 46) (S 47) (S 1076 0) (S 1086 0) ∧ sm_FR (S 1100020) (S 52) (S 1100021) (S 1100022) (3000 - (S 1084 0)) (S 1085 0) ∧ sm_PV (S 1100020) (S 48) (S 49) (S 50) (S 44) (S 1076 0) (S 1007 0) ∧ sm_AL (S 1100020) (S 48) (S 49) (S 50) (S 44) (S 1076 0) (S 1100032 0) ∧ sm_SV (S 1100020) (S 48) (S 1100029) (S 32) (S 33) (S 1076 0) (S 1032 0) ∧ 0 ≤ (S 1076 0) ∧ (S 1076 0) ≤ 300 ∧ 0 ≤ (S 1084 0) ∧ (S 1084 0) ≤ 3000 ∧ 0 ≤ (S 1086 0) ∧ sm_SC (S 1100029) (S 44) (S 45) (S 43) (S 21) (S 1076 0) (S 1032 0) ∧ sm_PO (S 42) (S 1076 0) ∧ ((S 1075 0) = 0 → (S 1100032 0) = -1 ∧ sm_FO (S 44) (S 45) (S 1076 0)) ∧ 23 ≤ (S 1076 0) ∧ 31 ≤ (S 1007 0) ∧ (S 1007 0) ≤ 400 ∧ sm_LN (S 4) 400 (S 1007 0) ∧ (S 1008 0) ≤ (S 1007 0) ∧ ((S 1075 0) = 1 → (S 1075 0) = 1) ∧ 0 ≤ (S 1092 0) ∧ (S 1092 0) ≤ 24 ∧ (S 1007 0) ≤ (S 1007 0) ∧ (¬ (S 1075 0) = 0 → sm_LX (g78 58) (g78 63) (g78 64) (S 1092 0) (S 1076 0)) ∧ ((S 1075 0) = 0 → (S 1073 0) = 1 → 1 ≤ (S 1092 0) ∧ (S 1092 0) ≤ 24 ∧ 0 ≤ (g78 57 ((S 1092 0) - 1)) ∧ (g78 57 ((S 1092 0) - 1)) < (S 1046 0) ∧ (S 29 (g78 57 ((S 1092 0) - 1))) = (S 53 ((S 1092 0) - 1)) ∧ 0 ≤ (S 53 ((S 1092 0) - 1)) ∧ (S 53 ((S 1092 0) - 1)) < (S 1032 0) ∧ (S 60 ((S 1092 0) - 1)) = sm_dp (S 1100024) (S 1100023 (g78 57 ((S 1092 0) - 1))) ∧ sm_TC (S 61) (S 62) (S 27) (S 1100007) (S 1100023) (S 1100024) (40 * ((S 1092 0) - 1)) (S 1100023 (g78 57 ((S 1092 0) - 1))) ∧ sm_LK (S 1100029) (S 1076 0) (S 54 ((S 1092 0) - 1)) (S 53 ((S 1092 0) - 1)) ∧ sm_VO (S 44) (S 1076 0) (S 1007 0) ((S 55 ((S 1092 0) - 1))) ((S 56 ((S 1092 0) - 1))) ∧ sm_FW (S 44) (S 1076 0) (S 59 ((S 1092 0) - 1)) ∧ sm_FL (S 53) (S 54) (S 55) (S 56) (g78 57) (g78 58) (S 59) (S 60) (S 61) (S 62) (g78 63) (g78 64) (S 27) (S 29) (S 1100007) (S 1100023) (S 1100024) (S 1100025) (S 26) (S 1100029) (S 44) (S 1046 0) (S 1032 0) (S 1076 0) (S 1007 0) (((S 1092 0) - 1)) ∧ (g78 58 ((S 1092 0) - 1)) = (S 1100007 (g78 57 ((S 1092 0) - 1))) ∧ sm_SK (g78 63) (g78 64) (S 44) (S 1100007) (S 1100025) (S 1076 0) (S 1007 0) (400 * ((S 1092 0) - 1)) ((g78 58 ((S 1092 0) - 1))) ((S 1100025 (g78 57 ((S 1092 0) - 1))))) ∧ ((S 1073 0) = 1 ∨ (S 1092 0) = 0 ∧ (S 1075 0) = 0 ∧ ((S 1073 0) = 2 ∨ (S 1073 0) = 3)) ∧ (S 1086 0) ≤ (S 1086 0) ∧ (S 1086 0) ≤ (S 1086 0) + 110 ∧ 0 ≤ (S 1107 0) ∧ (S 1107 0) ≤ 100 ∧ sm_PT (S 67) (S 1107 0) (S 1007 0)))))))))))))) ∧ (((S 26 x5) = (2 : Int)) → ((sm_CT (S 26) (S 27) (S 28) (S 29) (S 1100007) (S 1100023) (S 1100024) (S 1100025) (S 21) (S 1046 0) (S 1032 0) (S 1008 0) (S 1055 0) → 0 ≤ (x5) → (x5) < (S 1046 0) → (((S 26 (x5)) = 2 ∨ (S 26 (x5)) = 4) → (0 ≤ (S 27 (x5)) ∧ 0 ≤ (S 28 (x5)) ∧ (S 28 (x5)) < (S 1008 0)) ∧ (0 ≤ ((S 1100007 (x5)) - 1) ∧ (0 ≤ (S 1100023 (x5)) → (S 1100007 (S 1100023 (x5))) ≤ ((S 1100007 (x5)) - 1)) ∧ (0 ≤ (S 1100025 (x5)) → (S 1100007 (S 1100025 (x5))) ≤ ((S 1100007 (x5)) - 1))) ∧ (0 ≤ ((x5) + 1) ∧ ((x5) + 1) < (S 1046 0) ∧ (S 29 ((x5) + 1)) = ((S 29 (x5))) ∧ (S 1100007 ((x5) + 1)) = ((S 1100007 (x5))) ∧ (S 1100023 ((x5) + 1)) = ((S 1100023 (x5))) ∧ (S 1100025 ((x5) + 1)) = ((S 1100025 (x5)))))) → ((sm_CV (S 26) (S 27) (S 28) (S 29) (S 21) (S 32) (S 33) (S 1046 0) → 0 ≤ (x5) → (x5) < (S 1046 0) → ((S 26 (x5)) = 1 ∨ (S 26 (x5)) = 2) → (S 29 (x5)) = (S 53 ((S 1092 0) - 1)) → (S 27 x5) = (S 27 (x5)) → sm_UA (S 21) (S 53 ((S 1092 0) - 1)) (S 27 x5)) → (1 ≤ (S 1092 0) ∧ (S 1092 0) ≤ 24 ∧ 0 ≤ (S 27 x5) ∧ (S 1076 0) ≤ 300 ∧ sm_SC (S 1100029) (S 44) (S 45) (S 43) (S 21) (S 1076 0) (S 1032 0) ∧ sm_LK (S 1100029) (S 1076 0) (S 54 ((S 1092 0) - 1)) (S 53 ((S 1092 0) - 1)) ∧ sm_UA (S 21) (S 53 ((S 1092 0) - 1)) (S 27 x5)) ∧ (∀ r90 : Int, sv_R r90 → (0 ≤ r90 ∧ r90 < (S 1076 0) ∧ (S 1100029 r90) = sm_ua (S 21) ((S 53 ((S 1092 0) - 1))) ((S 27 x5))) → ((sm_UA (S 21) (S 53 ((S 1092 0) - 1)) (S 27 x5) → 0 ≤ (S 27 x5) → 1 ≤ sm_ua (S 21) ((S 53 ((S 1092 0) - 1))) ((S 27 x5))) → ((sm_SC (S 1100029) (S 44) (S 45) (S 43) (S 21) (S 1076 0) (S 1032 0) → 0 ≤ r90 → r90 < (S 1076 0) → 1 ≤ (S 1100029 r90) → (S 44 r90) = 3) → ((sm_SK (S 63) (S 64) (S 44) (S 1100007) (S 1100025) (S 1076 0) (S 1007 0) (400 * ((S 1092 0) - 1)) ((S 58 ((S 1092 0) - 1))) (((S 1100025 x5))) → sm_LS (S 26) (S 1100007) (S 1100025) (S 1046 0) → 0 ≤ (S 58 ((S 1092 0) - 1)) - 1 → (S 58 ((S 1092 0) - 1)) - 1 < (S 58 ((S 1092 0) - 1)) → ((S 1100025 x5)) < (S 1046 0) → ((S 1100025 x5)) = (S 1100025 (x5)) → (S 58 ((S 1092 0) - 1)) = (S 1100007 (x5)) → (0 ≤ ((S 1100025 x5)) → (S 26 ((S 1100025 x5))) = 29) → (0 ≤ (S 1100025 (x5)) → (S 1100007 (S 1100025 (x5))) ≤ (S 1100007 (x5)) - 1) → sm_VO (S 44) (S 1076 0) (S 1007 0) ((S 63 ((400 * ((S 1092 0) - 1) + (S 58 ((S 1092 0) - 1))) - 1 - (0 : Int)))) ((S 64 ((400 * ((S 1092 0) - 1) + (S 58 ((S 1092 0) - 1))) - 1 - (0 : Int))))) → (1 ≤ (S 1092 0) ∧ (S 1092 0) ≤ 24 ∧ 0 ≤ (S 58 ((S 1092 0) - 1)) ∧ (S 58 ((S 1092 0) - 1)) ≤ 400 ∧ 0 ≤ (0 : Int) ∧ (0 : Int) < (S 58 ((S 1092 0) - 1))) ∧ (sm_PL (S 1100020) (S 51) (S 52) (S 46) (S 47) (S 1076 0) (S 1086 0) ∧ sm_FR (S 1100020) (S 52) (S 1100021) (S 1100022) (3000 - (S 1084 0)) (S 1085 0) ∧ sm_PV (S 1100020) (S 48) (S 49) (S 50) (S 44) (S 1076 0) (S 1007 0) ∧ sm_AL (S 1100020) (S 48) (S 49) (S 50) (S 44) (S 1076 0) (S 1100032 0) ∧ sm_SV (S 1100020) (S 48) (S 1100029) (S 32) (S 33) (S 1076 0) (S 1032 0) ∧ 0 ≤ (S 1076 0) ∧ (S 1076 0) ≤ 300 ∧ 0 ≤ (S 1084 0) ∧ (S 1084 0) ≤ 3000 ∧ 0 ≤ (S 1086 0) ∧ 0 ≤ r90 ∧ r90 < (S 1076 0) ∧ 0 ≤ (S 28 x5) ∧ (S 28 x5) < (S 1007 0) ∧ sm_VO (S 44) (S 1076 0) (S 1007 0) (((S 63 ((400 * ((S 1092 0) - 1) + (S 58 ((S 1092 0) - 1))) - 1 - (0 : Int))))) (((S 64 ((400 * ((S 1092 0) - 1) + (S 58 ((S 1092 0) - 1))) - 1 - (0 : Int))))) ∧ ((S 44 r90) = 2 → (S 28 x5) = 0 → ((S 63 ((400 * ((S 1092 0) - 1) + (S 58 ((S 1092 0) - 1))) - 1 - (0 : Int)))) = 5 ∧ 0 ≤ ((S 64 ((400 * ((S 1092 0) - 1) + (S 58 ((S 1092 0) - 1))) - 1 - (0 : Int)))) ∧ ((S 64 ((400 * ((S 1092 0) - 1) + (S 58 ((S 1092 0) - 1))) - 1 - (0 : Int)))) ≤ 100) ∧ (S 1086 0) < 2000000000) ∧ (∀ g96 : sv_S, (sm_PL (g96 1100020) (g96 51) (g96 52) (g96 46) (g96 47) (S 1076 0) (g96 1086 0) ∧ sm_FR (g96 1100020) (g96 52) (g96 1100021) (g96 1100022) (3000 - (g96 1084 0)) (g96 1085 0) ∧ sm_PV (g96 1100020) (g96 48) (g96 49) (g96 50) (S 44) (S 1076 0) (S 1007 0) ∧ sm_AL (g96 1100020) (g96 48) (g96 49) (g96 50) (S 44) (S 1076 0) (S 1100032 0) ∧ sm_SV (g96 1100020) (g96 48) (S 1100029) (S 32) (S 33) (S 1076 0) (S 1032 0) ∧ 0 ≤ (S 1076 0) ∧ (S 1076 0) ≤ 300 ∧ 0 ≤ (g96 1084 0) ∧ (g96 1084 0) ≤ 3000 ∧ 0 ≤ (g96 1086 0) ∧ sm_KP (S 1100020) (S 48) (g96 1100020) (g96 48) ∧ ((S 1075 0) = 1 → (g96 1075 0) = 1) ∧ ((g96 1075 0) = 0 → sm_HN (g96 1100020) (g96 48) r90 (S 28 x5)) ∧ (S 1086 0) ≤ (g96 1086 0) ∧ (g96 1086 0) ≤ (S 1086 0) + 1 ∧ ((S 1084 0) < 3000 → (g96 1075 0) = (S 1075 0)) ∧ (g96 1084 0) ≤ (S 1084 0) + 1) → (1 ≤ (S 1092 0) ∧ (S 1092 0) ≤ 24 ∧ 0 ≤ (S 57 ((S 1092 0) - 1)) ∧ (S 57 ((S 1092 0) - 1)) ≤ 600) ∧ (∀ g102 : sv_S, ((g102 57 ((S 1092 0) - 1)) = (S 57 ((S 1092 0) - 1)) + 1 ∧ (∀ k : Int, ¬ k = (S 1092 0) - 1 → (g102 57 k) = (S 57 k))) → (sm_PL (g96 1100020) (g96 51) (g96 52) (g96 46) (g96 47) (S 1076 0) (g96 1086 0) ∧ sm_FR (g96 1100020) (g96 52) (g96 1100021) (g96 1100022) (3000 - (g96 1084 0)) (g96 1085 0) ∧ sm_PV (g96 1100020) (g96 48) (g96 49) (g96 50) (S 44) (S 1076 0) (S 1007 0) ∧ sm_AL (g96 1100020) (g96 48) (g96 49) (g96 50) (S 44) (S 1076 0) (S 1100032 0) ∧ sm_SV (g96 1100020) (g96 48) (S 1100029) (S 32) (S 33) (S 1076 0) (S 1032 0) ∧ 0 ≤ (S 1076 0) ∧ (S 1076 0) ≤ 300 ∧ 0 ≤ (g96 1084 0) ∧ (g96 1084 0) ≤ 3000 ∧ 0 ≤ (g96 1086 0) ∧ sm_SC (S 1100029) (S 44) (S 45) (S 43) (S 21) (S 1076 0) (S 1032 0) ∧ sm_PO (S 42) (S 1076 0) ∧ ((g96 1075 0) = 0 → (S 1100032 0) = -1 ∧ sm_FO (S 44) (S 45) (S 1076 0)) ∧ 23 ≤ (S 1076 0) ∧ 31 ≤ (S 1007 0) ∧ (S 1007 0) ≤ 400 ∧ sm_LN (S 4) 400 (S 1007 0) ∧ (S 1008 0) ≤ (S 1007 0) ∧ ((S 1075 0) = 1 → (g96 1075 0) = 1) ∧ 0 ≤ (S 1092 0) ∧ (S 1092 0) ≤ 24 ∧ (S 1007 0) ≤ (S 1007 0) ∧ (¬ (g96 1075 0) = 0 → sm_LX (S 58) (S 63) (S 64) (S 1092 0) (S 1076 0)) ∧ ((g96 1075 0) = 0 → (S 1073 0) = 1 → 1 ≤ (S 1092 0) ∧ (S 1092 0) ≤ 24 ∧ 0 ≤ (g102 57 ((S 1092 0) - 1)) ∧ (g102 57 ((S 1092 0) - 1)) < (S 1046 0) ∧ (S 29 (g102 57 ((S 1092 0) - 1))) = (S 53 ((S 1092 0) - 1)) ∧ 0 ≤ (S 53 ((S 1092 0) - 1)) ∧ (S 53 ((S 1092 0) - 1)) < (S 1032 0) ∧ (S 60 ((S 1092 0) - 1)) = sm_dp (S 1100024) (S 1100023 (g102 57 ((S 1092 0) - 1))) ∧ sm_TC (S 61) (S 62) (S 27) (S 1100007) (S 1100023) (S 1100024) (40 * ((S 1092 0) - 1)) (S 1100023 (g102 57 ((S 1092 0) - 1))) ∧ sm_LK (S 1100029) (S 1076 0) (S 54 ((S 1092 0) - 1)) (S 53 ((S 1092 0) - 1)) ∧ sm_VO (S 44) (S 1076 0) (S 1007 0) ((S 55 ((S 1092 0) - 1))) ((S 56 ((S 1092 0) - 1))) ∧ sm_FW (S 44) (S 1076 0) (S 59 ((S 1092 0) - 1)) ∧ sm_FL (S 53) (S 54) (S 55) (S 56) (g102 57) (S 58) (S 59) (S 60) (S 61) (S 62) (S 63) (S 64) (S 27) (S 29) (S 1100007) (S 1100023) (S 1100024) (S 1100025) (S 26) (S 1100029) (S 44) (S 1046 0) (S 1032 0) (S 1076 0) (S 1007 0) (((S 1092 0) - 1)) ∧ (S 58 ((S 1092 0) - 1)) = (S 1100007 (g102 57 ((S 1092 0) - 1))) ∧ sm_SK (S 63) (S 64) (S 44) (S 1100007) (S 1100025) (S 1076 0) (S 1007 0) (400 * ((S 1092 0) - 1)) ((S 58 ((S 1092 0) - 1))) ((S 1100025 (g102 57 ((S 1092 0) - 1))))) ∧ ((S 1073 0) = 1 ∨ (S 1092 0) = 0 ∧ (g96 1075 0) = 0 ∧ ((S 1073 0) = 2 ∨ (S 1073 0) = 3)) ∧ (S 1086 0) ≤ (g96 1086 0) ∧ (g96 1086 0) ≤ (S 1086 0) + 110 ∧ 0 ≤ (S 1107 0) ∧ (S 1107 0) ≤ 100 ∧ sm_PT (S 67) (S 1107 0) (S 1007 0))))))))))) ∧ (((S 26 x5) = (3 : Int) ∨ (S 26 x5) = (5 : Int)) → ((sm_CT (S 26) (S 27) (S 28) (S 29) (S 1100007) (S 1100023) (S 1100024) (S 1100025) (S 21) (S 1046 0) (S 1032 0) (S 1008 0) (S 1055 0) → 0 ≤ (x5) → (x5) < (S 1046 0) → (((S 26 (x5)) = 1 ∨ (S 26 (x5)) = 3 ∨ (S 26 (x5)) = 5) → (0 ≤ (S 27 (x5)) ∧ 0 ≤ (S 28 (x5)) ∧ (S 28 (x5)) < (S 1008 0)) ∧ (0 ≤ ((S 1100007 (x5))) ∧ (0 ≤ (S 1100023 (x5)) → (S 1100007 (S 1100023 (x5))) ≤ ((S 1100007 (x5)))) ∧ (0 ≤ (S 1100025 (x5)) → (S 1100007 (S 1100025 (x5))) ≤ ((S 1100007 (x5))))) ∧ (0 ≤ ((x5) + 1) ∧ ((x5) + 1) < (S 1046 0) ∧ (S 29 ((x5) + 1)) = ((S 29 (x5))) ∧ (S 1100007 ((x5) + 1)) = ((S 1100007 (x5)) + 1) ∧ (S 1100023 ((x5) + 1)) = ((S 1100023 (x5))) ∧ (S 1100025 ((x5) + 1)) = ((S 1100025 (x5)))))) → (((¬ (S 26 x5) = (3 : Int)) → ((S 1075 0) = 0 ∧ (S 1073 0) = 1 ∧ sm_LX (S 58) (S 63) (S 64) (S 1092 0) (S 1076 0) ∧ sm_PL (S 1100020) (S 51) (S 52) (S 46) (S 47) (S 1076 0) (S 1086 0) ∧ sm_FR (S 1100020) (S 52) (S 1100021) (S 1100022) (3000 - (S 1084 0)) (S 1085 0) ∧ sm_PV (S 1100020) (S 48) (S 49) (S 50) (S 44) (S 1076 0) (S 1007 0) ∧ sm_AL (S 1100020) (S 48) (S 49) (S 50) (S 44) (S 1076 0) (S 1100032 0) ∧ sm_SV (S 1100020) (S 48) (S 1100029) (S 32) (S 33) (S 1076 0) (S 1032 0) ∧ 0 ≤ (S 1076 0) ∧ (S 1076 0) ≤ 300 ∧ 0 ≤ (S 1084 0) ∧ (S 1084 0) ≤ 3000 ∧ 0 ≤ (S 1086 0) ∧ sm_SC (S 1100029) (S 44) (S 45) (S 43) (S 21) (S 1076 0) (S 1032 0) ∧ sm_PO (S 42) (S 1076 0) ∧ (S 1100032 0) = -1 ∧ sm_FO (S 44) (S 45) (S 1076 0) ∧ 23 ≤ (S 1076 0) ∧ 31 ≤ (S 1007 0) ∧ (S 1007 0) ≤ 400 ∧ sm_LN (S 4) 400 (S 1007 0) ∧ sm_CT (S 26) (S 27) (S 28) (S 29) (S 1100007) (S 1100023) (S 1100024) (S 1100025) (S 21) (S 1046 0) (S 1032 0) (S 1008 0) (S 1055 0) ∧ sm_LS (S 26) (S 1100007) (S 1100025) (S 1046 0) ∧ sm_CL (S 1100007) (S 1100023) (S 1100025) (S 1046 0) ∧ 1 ≤ (S 1032 0) ∧ (S 1032 0) ≤ 11 ∧ 0 ≤ (S 1046 0) ∧ (S 1046 0) ≤ 600 ∧ 31 ≤ (S 1008 0) ∧ (S 1008 0) ≤ (S 1007 0) ∧ 0 ≤ (S 1055 0) ∧ (S 1055 0) ≤ 19 ∧ 1 ≤ (S 1092 0) ∧ (S 1092 0) ≤ 24 ∧ 0 ≤ (x5) ∧ (x5) < (S 1046 0) ∧ (S 29 (x5)) = (S 53 ((S 1092 0) - 1)) ∧ 0 ≤ (S 53 ((S 1092 0) - 1)) ∧ (S 53 ((S 1092 0) - 1)) < (S 1032 0) ∧ (S 60 ((S 1092 0) - 1)) = sm_dp (S 1100024) (S 1100023 (x5)) ∧ sm_TC (S 61) (S 62) (S 27) (S 1100007) (S 1100023) (S 1100024) (40 * ((S 1092 0) - 1)) (S 1100023 (x5)) ∧ sm_LK (S 1100029) (S 1076 0) (S 54 ((S 1092 0) - 1)) (S 53 ((S 1092 0) - 1)) ∧ sm_VO (S 44) (S 1076 0) (S 1007 0) ((S 55 ((S 1092 0) - 1))) ((S 56 ((S 1092 0) - 1))) ∧ sm_FW (S 44) (S 1076 0) (S 59 ((S 1092 0) - 1)) ∧ sm_FL (S 53) (S 54) (S 55) (S 56) (S 57) (S 58) (S 59) (S 60) (S 61) (S 62) (S 63) (S 64) (S 27) (S 29) (S 1100007) (S 1100023) (S 1100024) (S 1100025) (S 26) (S 1100029) (S 44) (S 1046 0) (S 1032 0) (S 1076 0) (S 1007 0) (((S 1092 0) - 1)) ∧ (S 57 ((S 1092 0) - 1)) = (x5) ∧ 0 ≤ (S 58 ((S 1092 0) - 1)) ∧ (S 58 ((S 1092 0) - 1)) ≤ 400 ∧ sm_SK (S 63) (S 64) (S 44) (S 1100007) (S 1100025) (S 1076 0) (S 1007 0) (400 * ((S 1092 0) - 1)) ((S 58 ((S 1092 0) - 1))) (((S 1100025 x5))) ∧ -1 ≤ ((S 1100025 x5)) ∧ ((S 1100025 x5)) < (S 1046 0) ∧ (0 ≤ ((S 1100025 x5)) → (S 26 ((S 1100025 x5))) = 29) ∧ (S 58 ((S 1092 0) - 1)) = (S 1100007 (x5)) ∧ ((S 1100025 x5)) = (S 1100025 (x5)) ∧ (0 ≤ (S 1100023 (x5)) → (S 1100007 (S 1100023 (x5))) ≤ (S 58 ((S 1092 0) - 1))) ∧ (S 58 ((S 1092 0) - 1)) ≤ 396 ∧ 0 ≤ (S 58 ((S 1092 0) - 1)) ∧ (0 ≤ ((S 1100025 x5)) → (S 1100007 ((S 1100025 x5))) ≤ (S 58 ((S 1092 0) - 1)) - 0) ∧ (x5) + 1 < (S 1046 0) ∧ (S 29 ((x5) + 1)) = (S 29 (x5)) ∧ (S 1100007 ((x5) + 1)) = (S 58 ((S 1092 0) - 1)) + 1 ∧ (S 1100023 ((x5) + 1)) = (S 1100023 (x5)) ∧ (S 1100025 ((x5) + 1)) = ((S 1100025 x5)) ∧ 0 ≤ (S 28 x5) ∧ (S 28 x5) < (S 1008 0) ∧ ((0 : Int) = 0 ∨ (0 : Int) = 1)) ∧ (∀ g109 : sv_S, (sm_PL (S 1100020) (S 51) (S 52) (g109 46) (g109 47) (g109 1076 0) (S 1086 0) ∧ sm_FR (S 1100020) (S 52) (S 1100021) (S 1100022) (3000 - (S 1084 0)) (S 1085 0) ∧ sm_PV (S 1100020) (S 48) (S 49) (S 50) (g109 44) (g109 1076 0) (S 1007 0) ∧ sm_AL (S 1100020) (S 48) (S 49) (S 50) (g109 44) (g109 1076 0) (S 1100032 0) ∧ sm_SV (S 1100020) (S 48) (g109 1100029) (S 32) (S 33) (g109 1076 0) (S 1032 0) ∧ 0 ≤ (g109 1076 0) ∧ (g109 1076 0) ≤ 300 ∧ 0 ≤ (S 1084 0) ∧ (S 1084 0) ≤ 3000 ∧ 0 ≤ (S 1086 0) ∧ sm_SC (g109 1100029) (g109 44) (g109 45) (g109 43) (S 21) (g109 1076 0) (S 1032 0) ∧ sm_PO (g109 42) (g109 1076 0) ∧ ((g109 1075 0) = 0 → (S 1100032 0) = -1 ∧ sm_FO (g109 44) (g109 45) (g109 1076 0)) ∧ 23 ≤ (g109 1076 0) ∧ 31 ≤ (S 1007 0) ∧ (S 1007 0) ≤ 400 ∧ sm_LN (S 4) 400 (S 1007 0) ∧ (S 1008 0) ≤ (S 1007 0) ∧ ((S 1075 0) = 1 → (g109 1075 0) = 1) ∧ 0 ≤ (g109 1092 0) ∧ (g109 1092 0) ≤ 24 ∧ (S 1007 0) ≤ (S 1007 0) ∧ (¬ (g109 1075 0) = 0 → sm_LX (g109 58) (g109 63) (g109 64) (g109 1092 0) (g109 1076 0)) ∧ ((g109 1075 0) = 0 → (g109 1073 0) = 1 → 1 ≤ (g109 1092 0) ∧ (g109 1092 0) ≤ 24 ∧ 0 ≤ (g109 57 ((g109 1092 0) - 1)) ∧ (g109 57 ((g109 1092 0) - 1)) < (S 1046 0) ∧ (S 29 (g109 57 ((g109 1092 0) - 1))) = (S 53 ((g109 1092 0) - 1)) ∧ 0 ≤ (S 53 ((g109 1092 0) - 1)) ∧ (S 53 ((g109 1092 0) - 1)) < (S 1032 0) ∧ (g109 60 ((g109 1092 0) - 1)) = sm_dp (S 1100024) (S 1100023 (g109 57 ((g109 1092 0) - 1))) ∧ sm_TC (S 61) (S 62) (S 27) (S 1100007) (S 1100023) (S 1100024) (40 * ((g109 1092 0) - 1)) (S 1100023 (g109 57 ((g109 1092 0) - 1))) ∧ sm_LK (g109 1100029) (g109 1076 0) (S 54 ((g109 1092 0) - 1)) (S 53 ((g109 1092 0) - 1)) ∧ sm_VO (g109 44) (g109 1076 0) (S 1007 0) ((S 55 ((g109 1092 0) - 1))) ((S 56 ((g109 1092 0) - 1))) ∧ sm_FW (g109 44) (g109 1076 0) (S 59 ((g109 1092 0) - 1)) ∧ sm_FL (S 53) (S 54) (S 55) (S 56) (g109 57) (g109 58) (S 59) (g109 60) (S 61) (S 62) (g109 63) (g109 64) (S 27) (S 29) (S 1100007) (S 1100023) (S 1100024) (S 1100025) (S 26) (g109 1100029) (g109 44) (S 1046 0) (S 1032 0) (g109 1076 0) (S 1007 0) (((g109 1092 0) - 1)) ∧ (g109 58 ((g109 1092 0) - 1)) = (S 1100007 (g109 57 ((g109 1092 0) - 1))) ∧ sm_SK (g109 63) (g109 64) (g109 44) (S 1100007) (S 1100025) (g109 1076 0) (S 1007 0) (400 * ((g109 1092 0) - 1)) ((g109 58 ((g109 1092 0) - 1))) ((S 1100025 (g109 57 ((g109 1092 0) - 1))))) ∧ ((g109 1073 0) = 1 ∨ (g109 1092 0) = 0 ∧ (g109 1075 0) = 0 ∧ ((g109 1073 0) = 2 ∨ (g109 1073 0) = 3))) → (sm_PL (S 1100020) (S 51) (S 52) (g109 46) (g109 47) (g109 1076 0) (S 1086 0) ∧ sm_FR (S 1100020) (S 52) (S 1100021) (S 1100022) (3000 - (S 1084 0)) (S 1085 0) ∧ sm_PV (S 1100020) (S 48) (S 49) (S 50) (g109 44) (g109 1076 0) (S 1007 0) ∧ sm_AL (S 1100020) (S 48) (S 49) (S 50) (g109 44) (g109 1076 0) (S 1100032 0) ∧ sm_SV (S 1100020) (S 48) (g109 1100029) (S 32) (S 33) (g109 1076 0) (S 1032 0) ∧ 0 ≤ (g109 1076 0) ∧ (g109 1076 0) ≤ 300 ∧ 0 ≤ (S 1084 0) ∧ (S 1084 0) ≤ 3000 ∧ 0 ≤ (S 1086 0) ∧ sm_SC (g109 1100029) (g109 44) (g109 45) (g109 43) (S 21) (g109 1076 0) (S 1032 0) ∧ sm_PO (g109 42) (g109 1076 0) ∧ ((g109 1075 0) = 0 → (S 1100032 0) = -1 ∧ sm_FO (g109 44) (g109 45) (g109 1076 0)) ∧ 23 ≤ (g109 1076 0) ∧ 31 ≤ (S 1007 0) ∧ (S 1007 0) ≤ 400 ∧ sm_LN (S 4) 400 (S 1007 0) ∧ (S 1008 0) ≤ (S 1007 0) ∧ ((S 1075 0) = 1 → (g109 1075 0) = 1) ∧ 0 ≤ (g109 1092 0) ∧ (g109 1092 0) ≤ 24 ∧ (S 1007 0) ≤ (S 1007 0) ∧ (¬ (g109 1075 0) = 0 → sm_LX (g109 58) (g109 63) (g109 64) (g109 1092 0) (g109 1076 0)) ∧ ((g109 1075 0) = 0 → (g109 1073 0) = 1 → 1 ≤ (g109 1092 0) ∧ (g109 1092 0) ≤ 24 ∧ 0 ≤ (g109 57 ((g109 1092 0) - 1)) ∧ (g109 57 ((g109 1092 0) - 1)) < (S 1046 0) ∧ (S 29 (g109 57 ((g109 1092 0) - 1))) = (S 53 ((g109 1092 0) - 1)) ∧ 0 ≤ (S 53 ((g109 1092 0) - 1)) ∧ (S 53 ((g109 1092 0) - 1)) < (S 1032 0) ∧ (g109 60 ((g109 1092 0) - 1)) = sm_dp (S 1100024) (S 1100023 (g109 57 ((g109 1092 0) - 1))) ∧ sm_TC (S 61) (S 62) (S 27) (S 1100007) (S 1100023) (S 1100024) (40 * ((g109 1092 0) - 1)) (S 1100023 (g109 57 ((g109 1092 0) - 1))) ∧ sm_LK (g109 1100029) (g109 1076 0) (S 54 ((g109 1092 0) - 1)) (S 53 ((g109 1092 0) - 1)) ∧ sm_VO (g109 44) (g109 1076 0) (S 1007 0) ((S 55 ((g109 1092 0) - 1))) ((S 56 ((g109 1092 0) - 1))) ∧ sm_FW (g109 44) (g109 1076 0) (S 59 ((g109 1092 0) - 1)) ∧ sm_FL (S 53) (S 54) (S 55) (S 56) (g109 57) (g109 58) (S 59) (g109 60) (S 61) (S 62) (g109 63) (g109 64) (S 27) (S 29) (S 1100007) (S 1100023) (S 1100024) (S 1100025) (S 26) (g109 1100029) (g109 44) (S 1046 0) (S 1032 0) (g109 1076 0) (S 1007 0) (((g109 1092 0) - 1)) ∧ (g109 58 ((g109 1092 0) - 1)) = (S 1100007 (g109 57 ((g109 1092 0) - 1))) ∧ sm_SK (g109 63) (g109 64) (g109 44) (S 1100007) (S 1100025) (g109 1076 0) (S 1007 0) (400 * ((g109 1092 0) - 1)) ((g109 58 ((g109 1092 0) - 1))) ((S 1100025 (g109 57 ((g109 1092 0) - 1))))) ∧ ((g109 1073 0) = 1 ∨ (g109 1092 0) = 0 ∧ (g109 1075 0) = 0 ∧ ((g109 1073 0) = 2 ∨ (g109 1073 0) = 3)) ∧ (S 1086 0) ≤ (S 1086 0) ∧ (S 1086 0) ≤ (S 1086 0) + 110 ∧ 0 ≤ (S 1107 0) ∧ (S 1107 0) ≤ 100 ∧ sm_PT (S 67) (S 1107 0) (S 1007 0)))) ∧ ((¬ (¬ (S 26 x5) = (3 : Int))) → ((S 1075 0) = 0 ∧ (S 1073 0) = 1 ∧ sm_LX (S 58) (S 63) (S 64) (S 1092 0) (S 1076 0) ∧ sm_PL (S 1100020) (S 51) (S 52) (S 46) (S 47) (S 1076 0) (S 1086 0) ∧ sm_FR (S 1100020) (S 52) (S 1100021) (S 1100022) (3000 - (S 1084 0)) (S 1085 0) ∧ sm_PV (S 1100020) (S 48) (S 49) (S 50) (S 44) (S 1076 0) (S 1007 0) ∧ sm_AL (S 1100020) (S 48) (S 49) (S 50) (S 44) (S 1076 0) (S 1100032 0) ∧ sm_SV (S 1100020) (S 48) (S 1100029) (S 32) (S 33) (S 1076 0) (S 1032 0) ∧ 0 ≤ (S 1076 0) ∧ (S 1076 0) ≤ 300 ∧ 0 ≤ (S 1084 0) ∧ (S 1084 0) ≤ 3000 ∧ 0 ≤ (S 1086 0) ∧ sm_SC (S 1100029) (S 44) (S 45) (S 43) (S 21) (S 1076 0) (S 1032 0) ∧ sm_PO (S 42) (S 1076 0) ∧ (S 1100032 0) = -1 ∧ sm_FO (S 44) (S 45) (S 1076 0) ∧ 23 ≤ (S 1076 0) ∧ 31 ≤ (S 1007 0) ∧ (S 1007 0) ≤ 400 ∧ sm_LN (S 4) 400 (S 1007 0) ∧ sm_CT (S 26) (S 27) (S 28) (S 29) (S 1100007) (S 1100023) (S 1100024) (S 1100025) (S 21) (S 1046 0) (S 1032 0) (S 1008 0) (S 1055 0) ∧ sm_LS (S 26) (S 1100007) (S 1100025) (S 1046 0) ∧ sm_CL (S 1100007) (S 1100023) (S 1100025) (S 1046 0) ∧ 1 ≤ (S 1032 0) ∧ (S 1032 0) ≤ 11 ∧ 0 ≤ (S 1046 0) ∧ (S 1046 0) ≤ 600 ∧ 31 ≤ (S 1008 0) ∧ (S 1008 0) ≤ (S 1007 0) ∧ 0 ≤ (S 1055 0) ∧ (S 1055 0) ≤ 19 ∧ 1 ≤ (S 1092 0) ∧ (S 1092 0) ≤ 24 ∧ 0 ≤ (x5) ∧ (x5) < (S 1046 0) ∧ (S 29 (x5)) = (S 53 ((S 1092 0) - 1)) ∧ 0 ≤ (S 53 ((S 1092 0) - 1)) ∧ (S 53 ((S 1092 0) - 1)) < (S 1032 0) ∧ (S 60 ((S 1092 0) - 1)) = sm_dp (S 1100024) (S 1100023 (x5)) ∧ sm_TC (S 61) (S 62) (S 27) (S 1100007) (S 1100023) (S 1100024) (40 * ((S 1092 0) - 1)) (S 1100023 (x5)) ∧ sm_LK (S 1100029) (S 1076 0) (S 54 ((S 1092 0) - 1)) (S 53 ((S 1092 0) - 1)) ∧ sm_VO (S 44) (S 1076 0) (S 1007 0) ((S 55 ((S 1092 0) - 1))) ((S 56 ((S 1092 0) - 1))) ∧ sm_FW (S 44) (S 1076 0) (S 59 ((S 1092 0) - 1)) ∧ sm_FL (S 53) (S 54) (S 55) (S 56) (S 57) (S 58) (S 59) (S 60) (S 61) (S 62) (S 63) (S 64) (S 27) (S 29) (S 1100007) (S 1100023) (S 1100024) (S 1100025) (S 26) (S 1100029) (S 44) (S 1046 0) (S 1032 0) (S 1076 0) (S 1007 0) (((S 1092 0) - 1)) ∧ (S 57 ((S 1092 0) - 1)) = (x5) ∧ 0 ≤ (S 58 ((S 1092 0) - 1)) ∧ (S 58 ((S 1092 0) - 1)) ≤ 400 ∧ sm_SK (S 63) (S 64) (S 44) (S 1100007) (S 1100025) (S 1076 0) (S 1007 0) (400 * ((S 1092 0) - 1)) ((S 58 ((S 1092 0) - 1))) (((S 1100025 x5))) ∧ -1 ≤ ((S 1100025 x5)) ∧ ((S 1100025 x5)) < (S 1046 0) ∧ (0 ≤ ((S 1100025 x5)) → (S 26 ((S 1100025 x5))) = 29) ∧ (S 58 ((S 1092 0) - 1)) = (S 1100007 (x5)) ∧ ((S 1100025 x5)) = (S 1100025 (x5)) ∧ (0 ≤ (S 1100023 (x5)) → (S 1100007 (S 1100023 (x5))) ≤ (S 58 ((S 1092 0) - 1))) ∧ (S 58 ((S 1092 0) - 1)) ≤ 396 ∧ 0 ≤ (S 58 ((S 1092 0) - 1)) ∧ (0 ≤ ((S 1100025 x5)) → (S 1100007 ((S 1100025 x5))) ≤ (S 58 ((S 1092 0) - 1)) - 0) ∧ (x5) + 1 < (S 1046 0) ∧ (S 29 ((x5) + 1)) = (S 29 (x5)) ∧ (S 1100007 ((x5) + 1)) = (S 58 ((S 1092 0) - 1)) + 1 ∧ (S 1100023 ((x5) + 1)) = (S 1100023 (x5)) ∧ (S 1100025 ((x5) + 1)) = ((S 1100025 x5)) ∧ 0 ≤ (S 28 x5) ∧ (S 28 x5) < (S 1008 0) ∧ ((1 : Int) = 0 ∨ (1 : Int) = 1)) ∧ (∀ g115 : sv_S, (sm_PL (S 1100020) (S 51) (S 52) (g115 46) (g115 47) (g115 1076 0) (S 1086 0) ∧ sm_FR (S 1100020) (S 52) (S 1100021) (S 1100022) (3000 - (S 1084 0)) (S 1085 0) ∧ sm_PV (S 1100020) (S 48) (S 49) (S 50) (g115 44) (g115 1076 0) (S 1007 0) ∧ sm_AL (S 1100020) (S 48) (S 49) (S 50) (g115 44) (g115 1076 0) (S 1100032 0) ∧ sm_SV (S 1100020) (S 48) (g115 1100029) (S 32) (S 33) (g115 1076 0) (S 1032 0) ∧ 0 ≤ (g115 1076 0) ∧ (g115 1076 0) ≤ 300 ∧ 0 ≤ (S 1084 0) ∧ (S 1084 0) ≤ 3000 ∧ 0 ≤ (S 1086 0) ∧ sm_SC (g115 1100029) (g115 44) (g115 45) (g115 43) (S 21) (g115 1076 0) (S 1032 0) ∧ sm_PO (g115 42) (g115 1076 0) ∧ ((g115 1075 0) = 0 → (S 1100032 0) = -1 ∧ sm_FO (g115 44) (g115 45) (g115 1076 0)) ∧ 23 ≤ (g115 1076 0) ∧ 31 ≤ (S 1007 0) ∧ (S 1007 0) ≤ 400 ∧ sm_LN (S 4) 400 (S 1007 0) ∧ (S 1008 0) ≤ (S 1007 0) ∧ ((S 1075 0) = 1 → (g115 1075 0) = 1) ∧ 0 ≤ (g115 1092 0) ∧ (g115 1092 0) ≤ 24 ∧ (S 1007 0) ≤ (S 1007 0) ∧ (¬ (g115 1075 0) = 0 → sm_LX (g115 58) (g115 63) (g115 64) (g115 1092 0) (g115 1076 0)) ∧ ((g115 1075 0) = 0 → (g115 1073 0) = 1 → 1 ≤ (g115 1092 0) ∧ (g115 1092 0) ≤ 24 ∧ 0 ≤ (g115 57 ((g115 1092 0) - 1)) ∧ (g115 57 ((g115 1092 0) - 1)) < (S 1046 0) ∧ (S 29 (g115 57 ((g115 1092 0) - 1))) = (S 53 ((g115 1092 0) - 1)) ∧ 0 ≤ (S 53 ((g115 1092 0) - 1)) ∧ (S 53 ((g115 1092 0) - 1)) < (S 1032 0) ∧ (g115 60 ((g115 1092 0) - 1)) = sm_dp (S 1100024) (S 1100023 (g115 57 ((g115 1092 0) - 1))) ∧ sm_TC (S 61) (S 62) (S 27) (S 1100007) (S 1100023) (S 1100024) (40 * ((g115 1092 0) - 1)) (S 1100023 (g115 57 ((g115 1092 0) - 1))) ∧ sm_LK (g115 1100029) (g115 1076 0) (S 54 ((g115 1092 0) - 1)) (S 53 ((g115 1092 0) - 1)) ∧ sm_VO (g115 44) (g115 1076 0) (S 1007 0) ((S 55 ((g115 1092 0) - 1))) ((S 56 ((g115 1092 0) - 1))) ∧ sm_FW (g115 44) (g115 1076 0) (S 59 ((g115 1092 0) - 1)) ∧ sm_FL (S 53) (S 54) (S 55) (S 56) (g115 57) (g115 58) (S 59) (g115 60) (S 61) (S 62) (g115 63) (g115 64) (S 27) (S 29) (S 1100007) (S 1100023) (S 1100024) (S 1100025) (S 26) (g115 1100029) (g115 44) (S 1046 0) (S 1032 0) (g115 1076 0) (S 1007 0) (((g115 1092 0) - 1)) ∧ (g115 58 ((g115 1092 0) - 1)) = (S 1100007 (g115 57 ((g115 1092 0) - 1))) ∧ sm_SK (g115 63) (g115 64) (g115 44) (S 1100007) (S 1100025) (g115 1076 0) (S 1007 0) (400 * ((g115 1092 0) - 1)) ((g115 58 ((g115 1092 0) - 1))) ((S 1100025 (g115 57 ((g115 1092 0) - 1))))) ∧ ((g115 1073 0) = 1 ∨ (g115 1092 0) = 0 ∧ (g115 1075 0) = 0 ∧ ((g115 1073 0) = 2 ∨ (g115 1073 0) = 3))) → (sm_PL (S 1100020) (S 51) (S 52) (g115 46) (g115 47) (g115 1076 0) (S 1086 0) ∧ sm_FR (S 1100020) (S 52) (S 1100021) (S 1100022) (3000 - (S 1084 0)) (S 1085 0) ∧ sm_PV (S 1100020) (S 48) (S 49) (S 50) (g115 44) (g115 1076 0) (S 1007 0) ∧ sm_AL (S 1100020) (S 48) (S 49) (S 50) (g115 44) (g115 1076 0) (S 1100032 0) ∧ sm_SV (S 1100020) (S 48) (g115 1100029) (S 32) (S 33) (g115 1076 0) (S 1032 0) ∧ 0 ≤ (g115 1076 0) ∧ (g115 1076 0) ≤ 300 ∧ 0 ≤ (S 1084 0) ∧ (S 1084 0) ≤ 3000 ∧ 0 ≤ (S 1086 0) ∧ sm_SC (g115 1100029) (g115 44) (g115 45) (g115 43) (S 21) (g115 1076 0) (S 1032 0) ∧ sm_PO (g115 42) (g115 1076 0) ∧ ((g115 1075 0) = 0 → (S 1100032 0) = -1 ∧ sm_FO (g115 44) (g115 45) (g115 1076 0)) ∧ 23 ≤ (g115 1076 0) ∧ 31 ≤ (S 1007 0) ∧ (S 1007 0) ≤ 400 ∧ sm_LN (S 4) 400 (S 1007 0) ∧ (S 1008 0) ≤ (S 1007 0) ∧ ((S 1075 0) = 1 → (g115 1075 0) = 1) ∧ 0 ≤ (g115 1092 0) ∧ (g115 1092 0) ≤ 24 ∧ (S 1007 0) ≤ (S 1007 0) ∧ (¬ (g115 1075 0) = 0 → sm_LX (g115 58) (g115 63) (g115 64) (g115 1092 0) (g115 1076 0)) ∧ ((g115 1075 0) = 0 → (g115 1073 0) = 1 → 1 ≤ (g115 1092 0) ∧ (g115 1092 0) ≤ 24 ∧ 0 ≤ (g115 57 ((g115 1092 0) - 1)) ∧ (g115 57 ((g115 1092 0) - 1)) < (S 1046 0) ∧ (S 29 (g115 57 ((g115 1092 0) - 1))) = (S 53 ((g115 1092 0) - 1)) ∧ 0 ≤ (S 53 ((g115 1092 0) - 1)) ∧ (S 53 ((g115 1092 0) - 1)) < (S 1032 0) ∧ (g115 60 ((g115 1092 0) - 1)) = sm_dp (S 1100024) (S 1100023 (g115 57 ((g115 1092 0) - 1))) ∧ sm_TC (S 61) (S 62) (S 27) (S 1100007) (S 1100023) (S 1100024) (40 * ((g115 1092 0) - 1)) (S 1100023 (g115 57 ((g115 1092 0) - 1))) ∧ sm_LK (g115 1100029) (g115 1076 0) (S 54 ((g115 1092 0) - 1)) (S 53 ((g115 1092 0) - 1)) ∧ sm_VO (g115 44) (g115 1076 0) (S 1007 0) ((S 55 ((g115 1092 0) - 1))) ((S 56 ((g115 1092 0) - 1))) ∧ sm_FW (g115 44) (g115 1076 0) (S 59 ((g115 1092 0) - 1)) ∧ sm_FL (S 53) (S 54) (S 55) (S 56) (g115 57) (g115 58) (S 59) (g115 60) (S 61) (S 62) (g115 63) (g115 64) (S 27) (S 29) (S 1100007) (S 1100023) (S 1100024) (S 1100025) (S 26) (g115 1100029) (g115 44) (S 1046 0) (S 1032 0) (g115 1076 0) (S 1007 0) (((g115 1092 0) - 1)) ∧ (g115 58 ((g115 1092 0) - 1)) = (S 1100007 (g115 57 ((g115 1092 0) - 1))) ∧ sm_SK (g115 63) (g115 64) (g115 44) (S 1100007) (S 1100025) (g115 1076 0) (S 1007 0) (400 * ((g115 1092 0) - 1)) ((g115 58 ((g115 1092 0) - 1))) ((S 1100025 (g115 57 ((g115 1092 0) - 1))))) ∧ ((g115 1073 0) = 1 ∨ (g115 1092 0) = 0 ∧ (g115 1075 0) = 0 ∧ ((g115 1073 0) = 2 ∨ (g115 1073 0) = 3)) ∧ (S 1086 0) ≤ (S 1086 0) ∧ (S 1086 0) ≤ (S 1086 0) + 110 ∧ 0 ≤ (S 1107 0) ∧ (S 1107 0) ≤ 100 ∧ sm_PT (S 67) (S 1107 0) (S 1007 0))))))) ∧ (((S 26 x5) = (4 : Int)) → ((sm_CT (S 26) (S 27) (S 28) (S 29) (S 1100007) (S 1100023) (S 1100024) (S 1100025) (S 21) (S 1046 0) (S 1032 0) (S 1008 0) (S 1055 0) → 0 ≤ (x5) → (x5) < (S 1046 0) → (((S 26 (x5)) = 2 ∨ (S 26 (x5)) = 4) → (0 ≤ (S 27 (x5)) ∧ 0 ≤ (S 28 (x5)) ∧ (S 28 (x5)) < (S 1008 0)) ∧ (0 ≤ ((S 1100007 (x5)) - 1) ∧ (0 ≤ (S 1100023 (x5)) → (S 1100007 (S 1100023 (x5))) ≤ ((S 1100007 (x5)) - 1)) ∧ (0 ≤ (S 1100025 (x5)) → (S 1100007 (S 1100025 (x5))) ≤ ((S 1100007 (x5)) - 1))) ∧ (0 ≤ ((x5) + 1) ∧ ((x5) + 1) < (S 1046 0) ∧ (S 29 ((x5) + 1)) = ((S 29 (x5))) ∧ (S 1100007 ((x5) + 1)) = ((S 1100007 (x5))) ∧ (S 1100023 ((x5) + 1)) = ((S 1100023 (x5))) ∧ (S 1100025 ((x5) + 1)) = ((S 1100025 (x5)))))) → ((sm_SK (S 63) (S 64) (S 44) (S 1100007) (S 1100025) (S 1076 0) (S 1007 0) (400 * ((S 1092 0) - 1)) ((S 58 ((S 1092 0) - 1))) (((S 1100025 x5))) → sm_LS (S 26) (S 1100007) (S 1100025) (S 1046 0) → 0 ≤ (S 58 ((S 1092 0) - 1)) - 1 → (S 58 ((S 1092 0) - 1)) - 1 < (S 58 ((S 1092 0) - 1)) → ((S 1100025 x5)) < (S 1046 0) → ((S 1100025 x5)) = (S 1100025 (x5)) → (S 58 ((S 1092 0) - 1)) = (S 1100007 (x5)) → (0 ≤ ((S 1100025 x5)) → (S 26 ((S 1100025 x5))) = 29) → (0 ≤ (S 1100025 (x5)) → (S 1100007 (S 1100025 (x5))) ≤ (S 1100007 (x5)) - 1) → sm_VO (S 44) (S 1076 0) (S 1007 0) ((S 63 ((400 * ((S 1092 0) - 1) + (S 58 ((S 1092 0) - 1))) - 1 - (0 : Int)))) ((S 64 ((400 * ((S 1092 0) - 1) + (S 58 ((S 1092 0) - 1))) - 1 - (0 : Int))))) → ((sm_FO (S 44) (S 45) (S 1076 0) → 1 ≤ (S 1076 0) → (S 44 0) = 0) → (1 ≤ (S 1092 0) ∧ (S 1092 0) ≤ 24 ∧ 0 ≤ (S 58 ((S 1092 0) - 1)) ∧ (S 58 ((S 1092 0) - 1)) ≤ 400 ∧ 0 ≤ (0 : Int) ∧ (0 : Int) < (S 58 ((S 1092 0) - 1))) ∧ (sm_PL (S 1100020) (S 51) (S 52) (S 46) (S 47) (S 1076 0) (S 1086 0) ∧ sm_FR (S 1100020) (S 52) (S 1100021) (S 1100022) (3000 - (S 1084 0)) (S 1085 0) ∧ sm_PV (S 1100020) (S 48) (S 49) (S 50) (S 44) (S 1076 0) (S 1007 0) ∧ sm_AL (S 1100020) (S 48) (S 49) (S 50) (S 44) (S 1076 0) (S 1100032 0) ∧ sm_SV (S 1100020) (S 48) (S 1100029) (S 32) (S 33) (S 1076 0) (S 1032 0) ∧ 0 ≤ (S 1076 0) ∧ (S 1076 0) ≤ 300 ∧ 0 ≤ (S 1084 0) ∧ (S 1084 0) ≤ 3000 ∧ 0 ≤ (S 1086 0) ∧ 0 ≤ (0 : Int) ∧ (0 : Int) < (S 1076 0) ∧ 0 ≤ (S 28 x5) ∧ (S 28 x5) < (S 1007 0) ∧ sm_VO (S 44) (S 1076 0) (S 1007 0) (((S 63 ((400 * ((S 1092 0) - 1) + (S 58 ((S 1092 0) - 1))) - 1 - (0 : Int))))) (((S 64 ((400 * ((S 1092 0) - 1) + (S 58 ((S 1092 0) - 1))) - 1 - (0 : Int))))) ∧ ((S 44 (0 : Int)) = 2 → (S 28 x5) = 0 → ((S 63 ((400 * ((S 1092 0) - 1) + (S 58 ((S 1092 0) - 1))) - 1 - (0 : Int)))) = 5 ∧ 0 ≤ ((S 64 ((400 * ((S 1092 0) - 1) + (S 58 ((S 1092 0) - 1))) - 1 - (0 : Int)))) ∧ ((S 64 ((400 * ((S 1092 0) - 1) + (S 58 ((S 1092 0) - 1))) - 1 - (0 : Int)))) ≤ 100) ∧ (S 1086 0) < 2000000000) ∧ (∀ g125 : sv_S, (sm_PL (g125 1100020) (g125 51) (g125 52) (g125 46) (g125 47) (S 1076 0) (g125 1086 0) ∧ sm_FR (g125 1100020) (g125 52) (g125 1100021) (g125 1100022) (3000 - (g125 1084 0)) (g125 1085 0) ∧ sm_PV (g125 1100020) (g125 48) (g125 49) (g125 50) (S 44) (S 1076 0) (S 1007 0) ∧ sm_AL (g125 1100020) (g125 48) (g125 49) (g125 50) (S 44) (S 1076 0) (S 1100032 0) ∧ sm_SV (g125 1100020) (g125 48) (S 1100029) (S 32) (S 33) (S 1076 0) (S 1032 0) ∧ 0 ≤ (S 1076 0) ∧ (S 1076 0) ≤ 300 ∧ 0 ≤ (g125 1084 0) ∧ (g125 1084 0) ≤ 3000 ∧ 0 ≤ (g125 1086 0) ∧ sm_KP (S 1100020) (S 48) (g125 1100020) (g125 48) ∧ ((S 1075 0) = 1 → (g125 1075 0) = 1) ∧ ((g125 1075 0) = 0 → sm_HN (g125 1100020) (g125 48) (0 : Int) (S 28 x5)) ∧ (S 1086 0) ≤ (g125 1086 0) ∧ (g125 1086 0) ≤ (S 1086 0) + 1 ∧ ((S 1084 0) < 3000 → (g125 1075 0) = (S 1075 0)) ∧ (g125 1084 0) ≤ (S 1084 0) + 1) → ((0 ≤ (g125 1075 0) ∧ (g125 1075 0) ≤ 1) → (((¬ (g125 1075 0) = (0 : Int)) → (sm_PL (g125 1100020) (g125 51) (g125 52) (g125 46) (g125 47) (S 1076 0) (g125 1086 0) ∧ sm_FR (g125 1100020) (g125 52) (g125 1100021) (g125 1100022) (3000 - (g125 1084 0)) (g125 1085 0) ∧ sm_PV (g125 1100020) (g125 48) (g125 49) (g125 50) (S 44) (S 1076 0) (S 1007 0) ∧ sm_AL (g125 1100020) (g125 48) (g125 49) (g125 50) (S 44) (S 1076 0) (S 1100032 0) ∧ sm_SV (g125 1100020) (g125 48) (S 1100029) (S 32) (S 33) (S 1076 0) (S 1032 0) ∧ 0 ≤ (S 1076 0) ∧ (S 1076 0) ≤ 300 ∧ 0 ≤ (g125 1084 0) ∧ (g125 1084 0) ≤ 3000 ∧ 0 ≤ (g125 1086 0) ∧ sm_SC (S 1100029) (S 44) (S 45) (S 43) (S 21) (S 1076 0) (S 1032 0) ∧ sm_PO (S 42) (S 1076 0) ∧ ((g125 1075 0) = 0 → (S 1100032 0) = -1 ∧ sm_FO (S 44) (S 45) (S 1076 0)) ∧ 23 ≤ (S 1076 0) ∧ 31 ≤ (S 1007 0) ∧ (S 1007 0) ≤ 400 ∧ sm_LN (S 4) 400 (S 1007 0) ∧ (S 1008 0) ≤ (S 1007 0) ∧ ((S 1075 0) = 1 → (g125 1075 0) = 1) ∧ 0 ≤ (S 1092 0) ∧ (S 1092 0) ≤ 24 ∧ (S 1007 0) ≤ (S 1007 0) ∧ (¬ (g125 1075 0) = 0 → sm_LX (S 58) (S 63) (S 64) (S 1092 0) (S 1076 0)) ∧ ((g125 1075 0) = 0 → (S 1073 0) = 1 → 1 ≤ (S 1092 0) ∧ (S 1092 0) ≤ 24 ∧ 0 ≤ (S 57 ((S 1092 0) - 1)) ∧ (S 57 ((S 1092 0) - 1)) < (S 1046 0) ∧ (S 29 (S 57 ((S 1092 0) - 1))) = (S 53 ((S 1092 0) - 1)) ∧ 0 ≤ (S 53 ((S 1092 0) - 1)) ∧ (S 53 ((S 1092 0) - 1)) < (S 1032 0) ∧ (S 60 ((S 1092 0) - 1)) = sm_dp (S 1100024) (S 1100023 (S 57 ((S 1092 0) - 1))) ∧ sm_TC (S 61) (S 62) (S 27) (S 1100007) (S 1100023) (S 1100024) (40 * ((S 1092 0) - 1)) (S 1100023 (S 57 ((S 1092 0) - 1))) ∧ sm_LK (S 1100029) (S 1076 0) (S 54 ((S 1092 0) - 1)) (S 53 ((S 1092 0) - 1)) ∧ sm_VO (S 44) (S 1076 0) (S 1007 0) ((S 55 ((S 1092 0) - 1))) ((S 56 ((S 1092 0) - 1))) ∧ sm_FW (S 44) (S 1076 0) (S 59 ((S 1092 0) - 1)) ∧ sm_FL (S 53) (S 54) (S 55) (S 56) (S 57) (S 58) (S 59) (S 60) (S 61) (S 62) (S 63) (S 64) (S 27) (S 29) (S 1100007) (S 1100023) (S 1100024) (S 1100025) (S 26) (S 1100029) (S 44) (S 1046 0) (S 1032 0) (S 1076 0) (S 1007 0) (((S 1092 0) - 1)) ∧ (S 58 ((S 1092 0) - 1)) = (S 1100007 (S 57 ((S 1092 0) - 1))) ∧ sm_SK (S 63) (S 64) (S 44) (S 1100007) (S 1100025) (S 1076 0) (S 1007 0) (400 * ((S 1092 0) - 1)) ((S 58 ((S 1092 0) - 1))) ((S 1100025 (S 57 ((S 1092 0) - 1))))) ∧ ((S 1073 0) = 1 ∨ (S 1092 0) = 0 ∧ (g125 1075 0) = 0 ∧ ((S 1073 0) = 2 ∨ (S 1073 0) = 3)) ∧ (S 1086 0) ≤ (g125 1086 0) ∧ (g125 1086 0) ≤ (S 1086 0) + 110 ∧ 0 ≤ (S 1107 0) ∧ (S 1107 0) ≤ 100 ∧ sm_PT (S 67) (S 1107 0) (S 1007 0))) ∧ ((¬ (¬ (g125 1075 0) = (0 : Int))) → (1 ≤ (S 1092 0) ∧ (S 1092 0) ≤ 24 ∧ 0 ≤ (S 57 ((S 1092 0) - 1)) ∧ (S 57 ((S 1092 0) - 1)) ≤ 600) ∧ (∀ g132 : sv_S, ((g132 57 ((S 1092 0) - 1)) = (S 57 ((S 1092 0) - 1)) + 1 ∧ (∀ k : Int, ¬ k = (S 1092 0) - 1 → (g132 57 k) = (S 57 k))) → (sm_PL (g125 1100020) (g125 51) (g125 52) (g125 46) (g125 47) (S 1076 0) (g125 1086 0) ∧ sm_FR (g125 1100020) (g125 52) (g125 1100021) (g125 1100022) (3000 - (g125 1084 0)) (g125 1085 0) ∧ sm_PV (g125 1100020) (g125 48) (g125 49) (g125 50) (S 44) (S 1076 0) (S 1007 0) ∧ sm_AL (g125 1100020) (g125 48) (g125 49) (g125 50) (S 44) (S 1076 0) (S 1100032 0) ∧ sm_SV (g125 1100020) (g125 48) (S 1100029) (S 32) (S 33) (S 1076 0) (S 1032 0) ∧ 0 ≤ (S 1076 0) ∧ (S 1076 0) ≤ 300 ∧ 0 ≤ (g125 1084 0) ∧ (g125 1084 0) ≤ 3000 ∧ 0 ≤ (g125 1086 0) ∧ sm_SC (S 1100029) (S 44) (S 45) (S 43) (S 21) (S 1076 0) (S 1032 0) ∧ sm_PO (S 42) (S 1076 0) ∧ ((g125 1075 0) = 0 → (S 1100032 0) = -1 ∧ sm_FO (S 44) (S 45) (S 1076 0)) ∧ 23 ≤ (S 1076 0) ∧ 31 ≤ (S 1007 0) ∧ (S 1007 0) ≤ 400 ∧ sm_LN (S 4) 400 (S 1007 0) ∧ (S 1008 0) ≤ (S 1007 0) ∧ ((S 1075 0) = 1 → (g125 1075 0) = 1) ∧ 0 ≤ (S 1092 0) ∧ (S 1092 0) ≤ 24 ∧ (S 1007 0) ≤ (S 1007 0) ∧ (¬ (g125 1075 0) = 0 → sm_LX (S 58) (S 63) (S 64) (S 1092 0) (S 1076 0)) ∧ ((g125 1075 0) = 0 → (S 1073 0) = 1 → 1 ≤ (S 1092 0) ∧ (S 1092 0) ≤ 24 ∧ 0 ≤ (g132 57 ((S 1092 0) - 1)) ∧ (g132 57 ((S 1092 0) - 1)) < (S 1046 0) ∧ (S 29 (g132 57 ((S 1092 0) - 1))) = (S 53 ((S 1092 0) - 1)) ∧ 0 ≤ (S 53 ((S 1092 0) - 1)) ∧ (S 53 ((S 1092 0) - 1)) < (S 1032 0) ∧ (S 60 ((S 1092 0) - 1)) = sm_dp (S 1100024) (S 1100023 (g132 57 ((S 1092 0) - 1))) ∧ sm_TC (S 61) (S 62) (S 27) (S 1100007) (S 1100023) (S 1100024) (40 * ((S 1092 0) - 1)) (S 1100023 (g132 57 ((S 1092 0) - 1))) ∧ sm_LK (S 1100029) (S 1076 0) (S 54 ((S 1092 0) - 1)) (S 53 ((S 1092 0) - 1)) ∧ sm_VO (S 44) (S 1076 0) (S 1007 0) ((S 55 ((S 1092 0) - 1))) ((S 56 ((S 1092 0) - 1))) ∧ sm_FW (S 44) (S 1076 0) (S 59 ((S 1092 0) - 1)) ∧ sm_FL (S 53) (S 54) (S 55) (S 56) (g132 57) (S 58) (S 59) (S 60) (S 61) (S 62) (S 63) (S 64) (S 27) (S 29) (S 1100007) (S 1100023) (S 1100024) (S 1100025) (S 26) (S 1100029) (S 44) (S 1046 0) (S 1032 0) (S 1076 0) (S 1007 0) (((S 1092 0) - 1)) ∧ (S 58 ((S 1092 0) - 1)) = (S 1100007 (g132 57 ((S 1092 0) - 1))) ∧ sm_SK (S 63) (S 64) (S 44) (S 1100007) (S 1100025) (S 1076 0) (S 1007 0) (400 * ((S 1092 0) - 1)) ((S 58 ((S 1092 0) - 1))) ((S 1100025 (g132 57 ((S 1092 0) - 1))))) ∧ ((S 1073 0) = 1 ∨ (S 1092 0) = 0 ∧ (g125 1075 0) = 0 ∧ ((S 1073 0) = 2 ∨ (S 1073 0) = 3)) ∧ (S 1086 0) ≤ (g125 1086 0) ∧ (g125 1086 0) ≤ (S 1086 0) + 110 ∧ 0 ≤ (S 1107 0) ∧ (S 1107 0) ≤ 100 ∧ sm_PT (S 67) (S 1107 0) (S 1007 0))))))))))) ∧ (((S 26 x5) = (6 : Int)) → ((sm_CT (S 26) (S 27) (S 28) (S 29) (S 1100007) (S 1100023) (S 1100024) (S 1100025) (S 21) (S 1046 0) (S 1032 0) (S 1008 0) (S 1055 0) → 0 ≤ (x5) → (x5) < (S 1046 0) → ((S 26 (x5)) = 6 → (0 ≤ ((S 1100007 (x5))) ∧ (0 ≤ (S 1100023 (x5)) → (S 1100007 (S 1100023 (x5))) ≤ ((S 1100007 (x5)))) ∧ (0 ≤ (S 1100025 (x5)) → (S 1100007 (S 1100025 (x5))) ≤ ((S 1100007 (x5))))) ∧ (0 ≤ ((x5) + 1) ∧ ((x5) + 1) < (S 1046 0) ∧ (S 29 ((x5) + 1)) = ((S 29 (x5))) ∧ (S 1100007 ((x5) + 1)) = ((S 1100007 (x5)) + 1) ∧ (S 1100023 ((x5) + 1)) = ((S 1100023 (x5))) ∧ (S 1100025 ((x5) + 1)) = ((S 1100025 (x5)))))) → (sv_R (S 55 ((S 1092 0) - (1 : Int))) → (sv_R (S 56 ((S 1092 0) - (1 : Int))) → (∀ g140 : sv_S, ((g140 1111 0) = (S 55 ((S 1092 0) - (1 : Int))) ∧ (g140 1112 0) = (S 56 ((S 1092 0) - (1 : Int)))) → (((S 1075 0) = 0 → (S 1073 0) = 1 → sm_PL (S 1100020) (S 51) (S 52) (S 46) (S 47) (S 1076 0) (S 1086 0) ∧ sm_FR (S 1100020) (S 52) (S 1100021) (S 1100022) (3000 - (S 1084 0)) (S 1085 0) ∧ sm_PV (S 1100020) (S 48) (S 49) (S 50) (S 44) (S 1076 0) (S 1007 0) ∧ sm_AL (S 1100020) (S 48) (S 49) (S 50) (S 44) (S 1076 0) (S 1100032 0) ∧ sm_SV (S 1100020) (S 48) (S 1100029) (S 32) (S 33) (S 1076 0) (S 1032 0) ∧ 0 ≤ (S 1076 0) ∧ (S 1076 0) ≤ 300 ∧ 0 ≤ (S 1084 0) ∧ (S 1084 0) ≤ 3000 ∧ 0 ≤ (S 1086 0) ∧ sm_SC (S 1100029) (S 44) (S 45) (S 43) (S 21) (S 1076 0) (S 1032 0) ∧ sm_PO (S 42) (S 1076 0) ∧ (S 1100032 0) = -1 ∧ sm_FO (S 44) (S 45) (S 1076 0) ∧ 23 ≤ (S 1076 0) ∧ 31 ≤ (S 1007 0) ∧ (S 1007 0) ≤ 400 ∧ sm_LN (S 4) 400 (S 1007 0) ∧ sm_CT (S 26) (S 27) (S 28) (S 29) (S 1100007) (S 1100023) (S 1100024) (S 1100025) (S 21) (S 1046 0) (S 1032 0) (S 1008 0) (S 1055 0) ∧ sm_LS (S 26) (S 1100007) (S 1100025) (S 1046 0) ∧ sm_CL (S 1100007) (S 1100023) (S 1100025) (S 1046 0) ∧ 1 ≤ (S 1032 0) ∧ (S 1032 0) ≤ 11 ∧ 0 ≤ (S 1046 0) ∧ (S 1046 0) ≤ 600 ∧ 31 ≤ (S 1008 0) ∧ (S 1008 0) ≤ (S 1007 0) ∧ 0 ≤ (S 1055 0) ∧ (S 1055 0) ≤ 19 ∧ 1 ≤ (S 1092 0) ∧ (S 1092 0) ≤ 24 ∧ 0 ≤ (x5) ∧ (x5) < (S 1046 0) ∧ (S 29 (x5)) = (S 53 ((S 1092 0) - 1)) ∧ 0 ≤ (S 53 ((S 1092 0) - 1)) ∧ (S 53 ((S 1092 0) - 1)) < (S 1032 0) ∧ (S 60 ((S 1092 0) - 1)) = sm_dp (S 1100024) (S 1100023 (x5)) ∧ sm_TC (S 61) (S 62) (S 27) (S 1100007) (S 1100023) (S 1100024) (40 * ((S 1092 0) - 1)) (S 1100023 (x5)) ∧ sm_LK (S 1100029) (S 1076 0) (S 54 ((S 1092 0) - 1)) (S 53 ((S 1092 0) - 1)) ∧ sm_VO (S 44) (S 1076 0) (S 1007 0) ((S 55 ((S 1092 0) - 1))) ((S 56 ((S 1092 0) - 1))) ∧ sm_FW (S 44) (S 1076 0) (S 59 ((S 1092 0) - 1)) ∧ sm_FL (S 53) (S 54) (S 55) (S 56) (S 57) (S 58) (S 59) (S 60) (S 61) (S 62) (S 63) (S 64) (S 27) (S 29) (S 1100007) (S 1100023) (S 1100024) (S 1100025) (S 26) (S 1100029) (S 44) (S 1046 0) (S 1032 0) (S 1076 0) (S 1007 0) (((S 1092 0) - 1)) ∧ (S 57 ((S 1092 0) - 1)) = (x5) ∧ 0 ≤ (S 58 ((S 1092 0) - 1)) ∧ (S 58 ((S 1092 0) - 1)) ≤ 400 ∧ sm_SK (S 63) (S 64) (S 44) (S 1100007) (S 1100025) (S 1076 0) (S 1007 0) (400 * ((S 1092 0) - 1)) ((S 58 ((S 1092 0) - 1))) (((S 1100025 x5))) ∧ -1 ≤ ((S 1100025 x5)) ∧ ((S 1100025 x5)) < (S 1046 0) ∧ (0 ≤ ((S 1100025 x5)) → (S 26 ((S 1100025 x5))) = 29) ∧ 0 ≤ (0 : Int) ∧ (0 : Int) ≤ (S 58 ((S 1092 0) - 1)) ∧ (S 58 ((S 1092 0) - 1)) - (0 : Int) ≤ 399 ∧ sm_VO (S 44) (S 1076 0) (S 1007 0) ((g140 1111 0)) ((g140 1112 0)) ∧ (0 ≤ ((S 1100025 x5)) → (S 1100007 ((S 1100025 x5))) ≤ (S 58 ((S 1092 0) - 1)) - (0 : Int)) ∧ (x5) + 1 < (S 1046 0) ∧ (S 29 ((x5) + 1)) = (S 29 (x5)) ∧ (S 1100007 ((x5) + 1)) = (S 58 ((S 1092 0) - 1)) - (0 : Int) + 1 ∧ (S 1100023 ((x5) + 1)) = (S 1100023 (x5)) ∧ (S 1100025 ((x5) + 1)) = ((S 1100025 x5))) ∧ (¬ (S 1075 0) = 0 → sm_LX (S 58) (S 63) (S 64) (S 1092 0) (S 1076 0))) ∧ (∀ g146 : sv_S, (((S 1075 0) = 0 → (S 1073 0) = 1 → 1 ≤ (S 1092 0) ∧ (S 1092 0) ≤ 24 ∧ 0 ≤ (g146 57 ((S 1092 0) - 1)) ∧ (g146 57 ((S 1092 0) - 1)) < (S 1046 0) ∧ (S 29 (g146 57 ((S 1092 0) - 1))) = (S 53 ((S 1092 0) - 1)) ∧ 0 ≤ (S 53 ((S 1092 0) - 1)) ∧ (S 53 ((S 1092 0) - 1)) < (S 1032 0) ∧ (S 60 ((S 1092 0) - 1)) = sm_dp (S 1100024) (S 1100023 (g146 57 ((S 1092 0) - 1))) ∧ sm_TC (S 61) (S 62) (S 27) (S 1100007) (S 1100023) (S 1100024) (40 * ((S 1092 0) - 1)) (S 1100023 (g146 57 ((S 1092 0) - 1))) ∧ sm_LK (S 1100029) (S 1076 0) (S 54 ((S 1092 0) - 1)) (S 53 ((S 1092 0) - 1)) ∧ sm_VO (S 44) (S 1076 0) (S 1007 0) ((S 55 ((S 1092 0) - 1))) ((S 56 ((S 1092 0) - 1))) ∧ sm_FW (S 44) (S 1076 0) (S 59 ((S 1092 0) - 1)) ∧ sm_FL (S 53) (S 54) (S 55) (S 56) (g146 57) (g146 58) (S 59) (S 60) (S 61) (S 62) (g146 63) (g146 64) (S 27) (S 29) (S 1100007) (S 1100023) (S 1100024) (S 1100025) (S 26) (S 1100029) (S 44) (S 1046 0) (S 1032 0) (S 1076 0) (S 1007 0) (((S 1092 0) - 1)) ∧ (g146 58 ((S 1092 0) - 1)) = (S 1100007 (g146 57 ((S 1092 0) - 1))) ∧ sm_SK (g146 63) (g146 64) (S 44) (S 1100007) (S 1100025) (S 1076 0) (S 1007 0) (400 * ((S 1092 0) - 1)) ((g146 58 ((S 1092 0) - 1))) ((S 1100025 (g146 57 ((S 1092 0) - 1))))) ∧ (¬ (S 1075 0) = 0 → sm_LX (g146 58) (g146 63) (g146 64) (S 1092 0) (S 1076 0))) → (sm_PL (S 1100020) (S 51) (S 52) (S 46) (S 47) (S 1076 0) (S 1086 0) ∧ sm_FR (S 1100020) (S 52) (S 1100021) (S 1100022) (3000 - (S 1084 0)) (S 1085 0) ∧ sm_PV (S 1100020) (S 48) (S 49) (S 50) (S 44) (S 1076 0) (S 1007 0) ∧ sm_AL (S 1100020) (S 48) (S 49) (S 50) (S 44) (S 1076 0) (S 1100032 0) ∧ sm_SV (S 1100020) (S 48) (S 1100029) (S 32) (S 33) (S 1076 0) (S 1032 0) ∧ 0 ≤ (S 1076 0) ∧ (S 1076 0) ≤ 300 ∧ 0 ≤ (S 1084 0) ∧ (S 1084 0) ≤ 3000 ∧ 0 ≤ (S 1086 0) ∧ sm_SC (S 1100029) (S 44) (S 45) (S 43) (S 21) (S 1076 0) (S 1032 0) ∧ sm_PO (S 42) (S 1076 0) ∧ ((S 1075 0) = 0 → (S 1100032 0) = -1 ∧ sm_FO (S 44) (S 45) (S 1076 0)) ∧ 23 ≤ (S 1076 0) ∧ 31 ≤ (S 1007 0) ∧ (S 1007 0) ≤ 400 ∧ sm_LN (S 4) 400 (S 1007 0) ∧ (S 1008 0) ≤ (S 1007 0) ∧ ((S 1075 0) = 1 → (S 1075 0) = 1) ∧ 0 ≤ (S 1092 0) ∧ (S 1092 0) ≤ 24 ∧ (S 1007 0) ≤ (S 1007 0) ∧ (¬ (S 1075 0) = 0 → sm_LX (g146 58) (g146 63) (g146 64) (S 1092 0) (S 1076 0)) ∧ ((S 1075 0) = 0 → (S 1073 0) = 1 → 1 ≤ (S 1092 0) ∧ (S 1092 0) ≤ 24 ∧ 0 ≤ (g146 57 ((S 1092 0) - 1)) ∧ (g146 57 ((S 1092 0) - 1)) < (S 1046 0) ∧ (S 29 (g146 57 ((S 1092 0) - 1))) = (S 53 ((S 1092 0) - 1)) ∧ 0 ≤ (S 53 ((S 1092 0) - 1)) ∧ (S 53 ((S 1092 0) - 1)) < (S 1032 0) ∧ (S 60 ((S 1092 0) - 1)) = sm_dp (S 1100024) (S 1100023 (g146 57 ((S 1092 0) - 1))) ∧ sm_TC (S 61) (S 62) (S 27) (S 1100007) (S 1100023) (S 1100024) (40 * ((S 1092 0) - 1)) (S 1100023 (g146 57 ((S 1092 0) - 1))) ∧ sm_LK (S 1100029) (S 1076 0) (S 54 ((S 1092 0) - 1)) (S 53 ((S 1092 0) - 1)) ∧ sm_VO (S 44) (S 1076 0) (S 1007 0) ((S 55 ((S 1092 0) - 1))) ((S 56 ((S 1092 0) - 1))) ∧ sm_FW (S 44) (S 1076 0) (S 59 ((S 1092 0) - 1)) ∧ sm_FL (S 53) (S 54) (S 55) (S 56) (g146 57) (g146 58) (S 59) (S 60) (S 61) (S 62) (g146 63) (g146 64) (S 27) (S 29) (S 1100007) (S 1100023) (S 1100024) (S 1100025) (S 26) (S 1100029) (S 44) (S 1046 0) (S 1032 0) (S 1076 0) (S 1007 0) (((S 1092 0) - 1)) ∧ (g146 58 ((S 1092 0) - 1)) = (S 1100007 (g146 57 ((S 1092 0) - 1))) ∧ sm_SK (g146 63) (g146 64) (S 44) (S 1100007) (S 1100025) (S 1076 0) (S 1007 0) (400 * ((S 1092 0) - 1)) ((g146 58 ((S 1092 0) - 1))) ((S 1100025 (g146 57 ((S 1092 0) - 1))))) ∧ ((S 1073 0) = 1 ∨ (S 1092 0) = 0 ∧ (S 1075 0) = 0 ∧ ((S 1073 0) = 2 ∨ (S 1073 0) = 3)) ∧ (S 1086 0) ≤ (S 1086 0) ∧ (S 1086 0) ≤ (S 1086 0) + 110 ∧ 0 ≤ (S 1107 0) ∧ (S 1107 0) ≤ 100 ∧ sm_PT (S 67) (S 1107 0) (S 1007 0)))))))) ∧ (((S 26 x5) = (7 : Int)) → ((sm_CT (S 26) (S 27) (S 28) (S 29) (S 1100007) (S 1100023) (S 1100024) (S 1100025) (S 21) (S 1046 0) (S 1032 0) (S 1008 0) (S 1055 0) → 0 ≤ (x5) → (x5) < (S 1046 0) → (((S 26 (x5)) = 7 ∨ (S 26 (x5)) = 8) → (0 ≤ (S 27 (x5)) ∧ (S 27 (x5)) < (S 1055 0)) ∧ (0 ≤ ((S 1100007 (x5))) ∧ (0 ≤ (S 1100023 (x5)) → (S 1100007 (S 1100023 (x5))) ≤ ((S 1100007 (x5)))) ∧ (0 ≤ (S 1100025 (x5)) → (S 1100007 (S 1100025 (x5))) ≤ ((S 1100007 (x5))))) ∧ (0 ≤ ((x5) + 1) ∧ ((x5) + 1) < (S 1046 0) ∧ (S 29 ((x5) + 1)) = ((S 29 (x5))) ∧ (S 1100007 ((x5) + 1)) = ((S 1100007 (x5)) + 1) ∧ (S 1100023 ((x5) + 1)) = ((S 1100023 (x5))) ∧ (S 1100025 ((x5) + 1)) = ((S 1100025 (x5)))))) → (0 ≤ (S 27 x5) ∧ (S 27 x5) ≤ 600 ∧ 1 ≤ (S 1032 0) ∧ (S 1032 0) ≤ 4001) ∧ (∀ r157 : Int, sv_R r157 → (r157 = 29 + 6 * ((S 1032 0) - 1) + 2 * (S 27 x5)) → (sm_PL (S 1100020) (S 51) (S 52) (S 46) (S 47) (S 1076 0) (S 1086 0) ∧ sm_FR (S 1100020) (S 52) (S 1100021) (S 1100022) (3000 - (S 1084 0)) (S 1085 0) ∧ sm_PV (S 1100020) (S 48) (S 49) (S 50) (S 44) (S 1076 0) (S 1007 0) ∧ sm_AL (S 1100020) (S 48) (S 49) (S 50) (S 44) (S 1076 0) (S 1100032 0) ∧ sm_SV (S 1100020) (S 48) (S 1100029) (S 32) (S 33) (S 1076 0) (S 1032 0) ∧ 0 ≤ (S 1076 0) ∧ (S 1076 0) ≤ 300 ∧ 0 ≤ (S 1084 0) ∧ (S 1084 0) ≤ 3000 ∧ 0 ≤ (S 1086 0) ∧ sm_SC (S 1100029) (S 44) (S 45) (S 43) (S 21) (S 1076 0) (S 1032 0) ∧ sm_PO (S 42) (S 1076 0) ∧ ((1 : Int) = -1 ∨ (0 ≤ (1 : Int) ∧ (1 : Int) < (S 1076 0)) ∨ ((S 1076 0) = 0 ∧ (1 : Int) = 1)) ∧ ((S 1076 0) = 1 → (1 : Int) = -1) ∧ 0 ≤ r157 ∧ r157 ≤ 1000 ∧ 0 ≤ (0 : Int) ∧ (0 : Int) ≤ 3 ∧ ((0 : Int) = 2 → (S 1100032 0) = (S 1076 0))) ∧ (∀ r163 : Int, sv_R r163 → ∀ g159 : sv_S, (sm_PL (S 1100020) (S 51) (S 52) (g159 46) (g159 47) (g159 1076 0) (S 1086 0) ∧ sm_FR (S 1100020) (S 52) (S 1100021) (S 1100022) (3000 - (S 1084 0)) (S 1085 0) ∧ sm_PV (S 1100020) (S 48) (S 49) (S 50) (g159 44) (g159 1076 0) (S 1007 0) ∧ sm_AL (S 1100020) (S 48) (S 49) (S 50) (g159 44) (g159 1076 0) (S 1100032 0) ∧ sm_SV (S 1100020) (S 48) (g159 1100029) (S 32) (S 33) (g159 1076 0) (S 1032 0) ∧ 0 ≤ (g159 1076 0) ∧ (g159 1076 0) ≤ 300 ∧ 0 ≤ (S 1084 0) ∧ (S 1084 0) ≤ 3000 ∧ 0 ≤ (S 1086 0) ∧ sm_SC (g159 1100029) (g159 44) (g159 45) (g159 43) (S 21) (g159 1076 0) (S 1032 0) ∧ sm_PO (g159 42) (g159 1076 0) ∧ 0 ≤ r163 ∧ r163 < (g159 1076 0) ∧ ((S 1075 0) = 1 → (g159 1075 0) = 1) ∧ (S 1076 0) ≤ (g159 1076 0) ∧ sm_F1 (S 44) (g159 44) (S 1076 0) ∧ sm_F1 (S 1100029) (g159 1100029) (S 1076 0) ∧ sm_F1 (S 42) (g159 42) (S 1076 0) ∧ sm_F1 (S 43) (g159 43) (S 1076 0) ∧ sm_F1 (S 45) (g159 45) (S 1076 0) ∧ ((g159 1075 0) = 0 → r163 = (S 1076 0) ∧ (g159 1076 0) = r163 + 1 ∧ (g159 44 r163) = (0 : Int) ∧ (g159 1100029 r163) = 0 ∧ (g159 45 r163) = 0 ∧ (g159 43 r163) = -1 ∧ (g159 42 r163) = (1 : Int)) ∧ ((g159 1076 0) = (S 1076 0) → r163 = 0) ∧ ((g159 1075 0) = 1 → (S 1075 0) = 0 → (g159 1076 0) = (S 1076 0)) ∧ (sm_FO (S 44) (S 45) (S 1076 0) → (¬ (0 : Int) = 1 ∨ (9 ≤ (S 1076 0) ∧ (S 1076 0) < 23)) → (1 ≤ (S 1076 0) ∨ ((S 1076 0) = 0 ∧ (0 : Int) = 0)) → sm_FO (g159 44) (g159 45) (g159 1076 0)) ∧ ((S 1076 0) < 300 → (g159 1075 0) = (S 1075 0) ∧ (g159 1076 0) = (S 1076 0) + 1)) → ((0 ≤ r163 → r163 < (g159 1076 0) → ¬ (g159 44 r163) = 3 → sm_VO (g159 44) (g159 1076 0) (S 1007 0) (7) (r163)) → (∀ g166 : sv_S, ((g166 1111 0) = (7 : Int) ∧ (g166 1112 0) = r163) → (((g159 1075 0) = 0 → (S 1073 0) = 1 → sm_PL (S 1100020) (S 51) (S 52) (g159 46) (g159 47) (g159 1076 0) (S 1086 0) ∧ sm_FR (S 1100020) (S 52) (S 1100021) (S 1100022) (3000 - (S 1084 0)) (S 1085 0) ∧ sm_PV (S 1100020) (S 48) (S 49) (S 50) (g159 44) (g159 1076 0) (S 1007 0) ∧ sm_AL (S 1100020) (S 48) (S 49) (S 50) (g159 44) (g159 1076 0) (S 1100032 0) ∧ sm_SV (S 1100020) (S 48) (g159 1100029) (S 32) (S 33) (g159 1076 0) (S 1032 0) ∧ 0 ≤ (g159 1076 0) ∧ (g159 1076 0) ≤ 300 ∧ 0 ≤ (S 1084 0) ∧ (S 1084 0) ≤ 3000 ∧ 0 ≤ (S 1086 0) ∧ sm_SC (g159 1100029) (g159 44) (g159 45) (g159 43) (S 21) (g159 1076 0) (S 1032 0) ∧ sm_PO (g159 42) (g159 1076 0) ∧ (S 1100032 0) = -1 ∧ sm_FO (g159 44) (g159 45) (g159 1076 0) ∧ 23 ≤ (g159 1076 0) ∧ 31 ≤ (S 1007 0) ∧ (S 1007 0) ≤ 400 ∧ sm_LN (S 4) 400 (S 1007 0) ∧ sm_CT (S 26) (S 27) (S 28) (S 29) (S 1100007) (S 1100023) (S 1100024) (S 1100025) (S 21) (S 1046 0) (S 1032 0) (S 1008 0) (S 1055 0) ∧ sm_LS (S 26) (S 1100007) (S 1100025) (S 1046 0) ∧ sm_CL (S 1100007) (S 1100023) (S 1100025) (S 1046 0) ∧ 1 ≤ (S 1032 0) ∧ (S 1032 0) ≤ 11 ∧ 0 ≤ (S 1046 0) ∧ (S 1046 0) ≤ 600 ∧ 31 ≤ (S 1008 0) ∧ (S 1008 0) ≤ (S 1007 0) ∧ 0 ≤ (S 1055 0) ∧ (S 1055 0) ≤ 19 ∧ 1 ≤ (S 1092 0) ∧ (S 1092 0) ≤ 24 ∧ 0 ≤ (x5) ∧ (x5) < (S 1046 0) ∧ (S 29 (x5)) = (S 53 ((S 1092 0) - 1)) ∧ 0 ≤ (S 53 ((S 1092 0) - 1)) ∧ (S 53 ((S 1092 0) - 1)) < (S 1032 0) ∧ (S 60 ((S 1092 0) - 1)) = sm_dp (S 1100024) (S 1100023 (x5)) ∧ sm_TC (S 61) (S 62) (S 27) (S 1100007) (S 1100023) (S 1100024) (40 * ((S 1092 0) - 1)) (S 1100023 (x5)) ∧ sm_LK (g159 1100029) (g159 1076 0) (S 54 ((S 1092 0) - 1)) (S 53 ((S 1092 0) - 1)) ∧ sm_VO (g159 44) (g159 1076 0) (S 1007 0) ((S 55 ((S 1092 0) - 1))) ((S 56 ((S 1092 0) - 1))) ∧ sm_FW (g159 44) (g159 1076 0) (S 59 ((S 1092 0) - 1)) ∧ sm_FL (S 53) (S 54) (S 55) (S 56) (S 57) (S 58) (S 59) (S 60) (S 61) (S 62) (S 63) (S 64) (S 27) (S 29) (S 1100007) (S 1100023) (S 1100024) (S 1100025) (S 26) (g159 1100029) (g159 44) (S 1046 0) (S 1032 0) (g159 1076 0) (S 1007 0) (((S 1092 0) - 1)) ∧ (S 57 ((S 1092 0) - 1)) = (x5) ∧ 0 ≤ (S 58 ((S 1092 0) - 1)) ∧ (S 58 ((S 1092 0) - 1)) ≤ 400 ∧ sm_SK (S 63) (S 64) (g159 44) (S 1100007) (S 1100025) (g159 1076 0) (S 1007 0) (400 * ((S 1092 0) - 1)) ((S 58 ((S 1092 0) - 1))) (((S 1100025 x5))) ∧ -1 ≤ ((S 1100025 x5)) ∧ ((S 1100025 x5)) < (S 1046 0) ∧ (0 ≤ ((S 1100025 x5)) → (S 26 ((S 1100025 x5))) = 29) ∧ 0 ≤ (0 : Int) ∧ (0 : Int) ≤ (S 58 ((S 1092 0) - 1)) ∧ (S 58 ((S 1092 0) - 1)) - (0 : Int) ≤ 399 ∧ sm_VO (g159 44) (g159 1076 0) (S 1007 0) ((g166 1111 0)) ((g166 1112 0)) ∧ (0 ≤ ((S 1100025 x5)) → (S 1100007 ((S 1100025 x5))) ≤ (S 58 ((S 1092 0) - 1)) - (0 : Int)) ∧ (x5) + 1 < (S 1046 0) ∧ (S 29 ((x5) + 1)) = (S 29 (x5)) ∧ (S 1100007 ((x5) + 1)) = (S 58 ((S 1092 0) - 1)) - (0 : Int) + 1 ∧ (S 1100023 ((x5) + 1)) = (S 1100023 (x5)) ∧ (S 1100025 ((x5) + 1)) = ((S 1100025 x5))) ∧ (¬ (g159 1075 0) = 0 → sm_LX (S 58) (S 63) (S 64) (S 1092 0) (g159 1076 0))) ∧ (∀ g172 : sv_S, (((g159 1075 0) = 0 → (S 1073 0) = 1 → 1 ≤ (S 1092 0) ∧ (S 1092 0) ≤ 24 ∧ 0 ≤ (g172 57 ((S 1092 0) - 1)) ∧ (g172 57 ((S 1092 0) - 1)) < (S 1046 0) ∧ (S 29 (g172 57 ((S 1092 0) - 1))) = (S 53 ((S 1092 0) - 1)) ∧ 0 ≤ (S 53 ((S 1092 0) - 1)) ∧ (S 53 ((S 1092 0) - 1)) < (S 1032 0) ∧ (S 60 ((S 1092 0) - 1)) = sm_dp (S 1100024) (S 1100023 (g172 57 ((S 1092 0) - 1))) ∧ sm_TC (S 61) (S 62) (S 27) (S 1100007) (S 1100023) (S 1100024) (40 * ((S 1092 0) - 1)) (S 1100023 (g172 57 ((S 1092 0) - 1))) ∧ sm_LK (g159 1100029) (g159 1076 0) (S 54 ((S 1092 0) - 1)) (S 53 ((S 1092 0) - 1)) ∧ sm_VO (g159 44) (g159 1076 0) (S 1007 0) ((S 55 ((S 1092 0) - 1))) ((S 56 ((S 1092 0) - 1))) ∧ sm_FW (g159 44) (g159 1076 0) (S 59 ((S 1092 0) - 1)) ∧ sm_FL (S 53) (S 54) (S 55) (S 56) (g172 57) (g172 58) (S 59) (S 60) (S 61) (S 62) (g172 63) (g172 64) (S 27) (S 29) (S 1100007) (S 1100023) (S 1100024) (S 1100025) (S 26) (g159 1100029) (g159 44) (S 1046 0) (S 1032 0) (g159 1076 0) (S 1007 0) (((S 1092 0) - 1)) ∧ (g172 58 ((S 1092 0) - 1)) = (S 1100007 (g172 57 ((S 1092 0) - 1))) ∧ sm_SK (g172 63) (g172 64) (g159 44) (S 1100007) (S 1100025) (g159 1076 0) (S 1007 0) (400 * ((S 1092 0) - 1)) ((g172 58 ((S 1092 0) - 1))) ((S 1100025 (g172 57 ((S 1092 0) - 1))))) ∧ (¬ (g159 1075 0) = 0 → sm_LX (g172 58) (g172 63) (g172 64) (S 1092 0) (g159 1076 0))) → (sm_PL (S 1100020) (S 51) (S 52) (g159 46) (g159 47) (g159 1076 0) (S 1086 0) ∧ sm_FR (S 1100020) (S 52) (S 1100021) (S 1100022) (3000 - (S 1084 0)) (S 1085 0) ∧ sm_PV (S 1100020) (S 48) (S 49) (S 50) (g159 44) (g159 1076 0) (S 1007 0) ∧ sm_AL (S 1100020) (S 48) (S 49) (S 50) (g159 44) (g159 1076 0) (S 1100032 0) ∧ sm_SV (S 1100020) (S 48) (g159 1100029) (S 32) (S 33) (g159 1076 0) (S 1032 0) ∧ 0 ≤ (g159 1076 0) ∧ (g159 1076 0) ≤ 300 ∧ 0 ≤ (S 1084 0) ∧ (S 1084 0) ≤ 3000 ∧ 0 ≤ (S 1086 0) ∧ sm_SC (g159 1100029) (g159 44) (g159 45) (g159 43) (S 21) (g159 1076 0) (S 1032 0) ∧ sm_PO (g159 42) (g159 1076 0) ∧ ((g159 1075 0) = 0 → (S 1100032 0) = -1 ∧ sm_FO (g159 44) (g159 45) (g159 1076 0)) ∧ 23 ≤ (g159 1076 0) ∧ 31 ≤ (S 1007 0) ∧ (S 1007 0) ≤ 400 ∧ sm_LN (S 4) 400 (S 1007 0) ∧ (S 1008 0) ≤ (S 1007 0) ∧ ((S 1075 0) = 1 → (g159 1075 0) = 1) ∧ 0 ≤ (S 1092 0) ∧ (S 1092 0) ≤ 24 ∧ (S 1007 0) ≤ (S 1007 0) ∧ (¬ (g159 1075 0) = 0 → sm_LX (g172 58) (g172 63) (g172 64) (S 1092 0) (g159 1076 0)) ∧ ((g159 1075 0) = 0 → (S 1073 0) = 1 → 1 ≤ (S 1092 0) ∧ (S 1092 0) ≤ 24 ∧ 0 ≤ (g172 57 ((S 1092 0) - 1)) ∧ (g172 57 ((S 1092 0) - 1)) < (S 1046 0) ∧ (S 29 (g172 57 ((S 1092 0) - 1))) = (S 53 ((S 1092 0) - 1)) ∧ 0 ≤ (S 53 ((S 1092 0) - 1)) ∧ (S 53 ((S 1092 0) - 1)) < (S 1032 0) ∧ (S 60 ((S 1092 0) - 1)) = sm_dp (S 1100024) (S 1100023 (g172 57 ((S 1092 0) - 1))) ∧ sm_TC (S 61) (S 62) (S 27) (S 1100007) (S 1100023) (S 1100024) (40 * ((S 1092 0) - 1)) (S 1100023 (g172 57 ((S 1092 0) - 1))) ∧ sm_LK (g159 1100029) (g159 1076 0) (S 54 ((S 1092 0) - 1)) (S 53 ((S 1092 0) - 1)) ∧ sm_VO (g159 44) (g159 1076 0) (S 1007 0) ((S 55 ((S 1092 0) - 1))) ((S 56 ((S 1092 0) - 1))) ∧ sm_FW (g159 44) (g159 1076 0) (S 59 ((S 1092 0) - 1)) ∧ sm_FL (S 53) (S 54) (S 55) (S 56) (g172 57) (g172 58) (S 59) (S 60) (S 61) (S 62) (g172 63) (g172 64) (S 27) (S 29) (S 1100007) (S 1100023) (S 1100024) (S 1100025) (S 26) (g159 1100029) (g159 44) (S 1046 0) (S 1032 0) (g159 1076 0) (S 1007 0) (((S 1092 0) - 1)) ∧ (g172 58 ((S 1092 0) - 1)) = (S 1100007 (g172 57 ((S 1092 0) - 1))) ∧ sm_SK (g172 63) (g172 64) (g159 44) (S 1100007) (S 1100025) (g159 1076 0) (S 1007 0) (400 * ((S 1092 0) - 1)) ((g172 58 ((S 1092 0) - 1))) ((S 1100025 (g172 57 ((S 1092 0) - 1))))) ∧ ((S 1073 0) = 1 ∨ (S 1092 0) = 0 ∧ (g159 1075 0) = 0 ∧ ((S 1073 0) = 2 ∨ (S 1073 0) = 3)) ∧ (S 1086 0) ≤ (S 1086 0) ∧ (S 1086 0) ≤ (S 1086 0) + 110 ∧ 0 ≤ (S 1107 0) ∧ (S 1107 0) ≤ 100 ∧ sm_PT (S 67) (S 1107 0) (S 1007 0))))))))) ∧ (((S 26 x5) = (8 : Int)) → ((sm_CT (S 26) (S 27) (S 28) (S 29) (S 1100007) (S 1100023) (S 1100024) (S 1100025) (S 21) (S 1046 0) (S 1032 0) (S 1008 0) (S 1055 0) → 0 ≤ (x5) → (x5) < (S 1046 0) → (((S 26 (x5)) = 7 ∨ (S 26 (x5)) = 8) → (0 ≤ (S 27 (x5)) ∧ (S 27 (x5)) < (S 1055 0)) ∧ (0 ≤ ((S 1100007 (x5))) ∧ (0 ≤ (S 1100023 (x5)) → (S 1100007 (S 1100023 (x5))) ≤ ((S 1100007 (x5)))) ∧ (0 ≤ (S 1100025 (x5)) → (S 1100007 (S 1100025 (x5))) ≤ ((S 1100007 (x5))))) ∧ (0 ≤ ((x5) + 1) ∧ ((x5) + 1) < (S 1046 0) ∧ (S 29 ((x5) + 1)) = ((S 29 (x5))) ∧ (S 1100007 ((x5) + 1)) = ((S 1100007 (x5)) + 1) ∧ (S 1100023 ((x5) + 1)) = ((S 1100023 (x5))) ∧ (S 1100025 ((x5) + 1)) = ((S 1100025 (x5)))))) → (0 ≤ (S 27 x5) ∧ (S 27 x5) ≤ 600 ∧ 1 ≤ (S 1032 0) ∧ (S 1032 0) ≤ 4001) ∧ (∀ r183 : Int, sv_R r183 → (r183 = 29 + 6 * ((S 1032 0) - 1) + 2 * (S 27 x5)) → (sm_PL (S 1100020) (S 51) (S 52) (S 46) (S 47) (S 1076 0) (S 1086 0) ∧ sm_FR (S 1100020) (S 52) (S 1100021) (S 1100022) (3000 - (S 1084 0)) (S 1085 0) ∧ sm_PV (S 1100020) (S 48) (S 49) (S 50) (S 44) (S 1076 0) (S 1007 0) ∧ sm_AL (S 1100020) (S 48) (S 49) (S 50) (S 44) (S 1076 0) (S 1100032 0) ∧ sm_SV (S 1100020) (S 48) (S 1100029) (S 32) (S 33) (S 1076 0) (S 1032 0) ∧ 0 ≤ (S 1076 0) ∧ (S 1076 0) ≤ 300 ∧ 0 ≤ (S 1084 0) ∧ (S 1084 0) ≤ 3000 ∧ 0 ≤ (S 1086 0) ∧ sm_SC (S 1100029) (S 44) (S 45) (S 43) (S 21) (S 1076 0) (S 1032 0) ∧ sm_PO (S 42) (S 1076 0) ∧ (S 1100032 0) = -1 ∧ 23 ≤ (S 1076 0) ∧ 31 ≤ (S 1007 0) ∧ (S 1007 0) ≤ 400 ∧ 0 ≤ r183 ∧ r183 ≤ 1000 ∧ (S 1086 0) ≤ 1900000000) ∧ (∀ r189 : Int, sv_R r189 → ∀ g185 : sv_S, (sm_PL (g185 1100020) (g185 51) (g185 52) (g185 46) (g185 47) (g185 1076 0) (g185 1086 0) ∧ sm_FR (g185 1100020) (g185 52) (g185 1100021) (g185 1100022) (3000 - (g185 1084 0)) (g185 1085 0) ∧ sm_PV (g185 1100020) (g185 48) (g185 49) (g185 50) (g185 44) (g185 1076 0) (S 1007 0) ∧ sm_AL (g185 1100020) (g185 48) (g185 49) (g185 50) (g185 44) (g185 1076 0) (g185 1100032 0) ∧ sm_SV (g185 1100020) (g185 48) (g185 1100029) (S 32) (S 33) (g185 1076 0) (S 1032 0) ∧ 0 ≤ (g185 1076 0) ∧ (g185 1076 0) ≤ 300 ∧ 0 ≤ (g185 1084 0) ∧ (g185 1084 0) ≤ 3000 ∧ 0 ≤ (g185 1086 0) ∧ sm_SC (g185 1100029) (g185 44) (g185 45) (g185 43) (S 21) (g185 1076 0) (S 1032 0) ∧ sm_PO (g185 42) (g185 1076 0) ∧ ((g185 1075 0) = 0 → (g185 1100032 0) = -1 ∧ (g185 44 r189) = 2 ∧ r189 = (S 1076 0) ∧ (g185 1076 0) = r189 + 1 ∧ (sm_FO (S 44) (S 45) (S 1076 0) → sm_FO (g185 44) (g185 45) (g185 1076 0))) ∧ 0 ≤ r189 ∧ r189 < (g185 1076 0) ∧ ((S 1075 0) = 1 → (g185 1075 0) = 1) ∧ (S 1076 0) ≤ (g185 1076 0) ∧ (S 1086 0) ≤ (g185 1086 0) ∧ (g185 1086 0) ≤ (S 1086 0) + 1 ∧ sm_F1 (S 44) (g185 44) (S 1076 0) ∧ sm_F1 (S 1100029) (g185 1100029) (S 1076 0) ∧ sm_F1 (S 42) (g185 42) (S 1076 0) ∧ sm_F1 (S 43) (g185 43) (S 1076 0) ∧ sm_F1 (S 45) (g185 45) (S 1076 0) ∧ sm_KP (S 1100020) (S 48) (g185 1100020) (g185 48)) → ((0 ≤ r189 → r189 < (g185 1076 0) → ¬ (g185 44 r189) = 3 → sm_VO (g185 44) (g185 1076 0) (S 1007 0) (7) (r189)) → (∀ g192 : sv_S, ((g192 1111 0) = (7 : Int) ∧ (g192 1112 0) = r189) → (((g185 1075 0) = 0 → (S 1073 0) = 1 → sm_PL (g185 1100020) (g185 51) (g185 52) (g185 46) (g185 47) (g185 1076 0) (g185 1086 0) ∧ sm_FR (g185 1100020) (g185 52) (g185 1100021) (g185 1100022) (3000 - (g185 1084 0)) (g185 1085 0) ∧ sm_PV (g185 1100020) (g185 48) (g185 49) (g185 50) (g185 44) (g185 1076 0) (S 1007 0) ∧ sm_AL (g185 1100020) (g185 48) (g185 49) (g185 50) (g185 44) (g185 1076 0) (g185 1100032 0) ∧ sm_SV (g185 1100020) (g185 48) (g185 1100029) (S 32) (S 33) (g185 1076 0) (S 1032 0) ∧ 0 ≤ (g185 1076 0) ∧ (g185 1076 0) ≤ 300 ∧ 0 ≤ (g185 1084 0) ∧ (g185 1084 0) ≤ 3000 ∧ 0 ≤ (g185 1086 0) ∧ sm_SC (g185 1100029) (g185 44) (g185 45) (g185 43) (S 21) (g185 1076 0) (S 1032 0) ∧ sm_PO (g185 42) (g185 1076 0) ∧ (g185 1100032 0) = -1 ∧ sm_FO (g185 44) (g185 45) (g185 1076 0) ∧ 23 ≤ (g185 1076 0) ∧ 31 ≤ (S 1007 0) ∧ (S 1007 0) ≤ 400 ∧ sm_LN (S 4) 400 (S 1007 0) ∧ sm_CT (S 26) (S 27) (S 28) (S 29) (S 1100007) (S 1100023) (S 1100024) (S 1100025) (S 21) (S 1046 0) (S 1032 0) (S 1008 0) (S 1055 0) ∧ sm_LS (S 26) (S 1100007) (S 1100025) (S 1046 0) ∧ sm_CL (S 1100007) (S 1100023) (S 1100025) (S 1046 0) ∧ 1 ≤ (S 1032 0) ∧ (S 1032 0) ≤ 11 ∧ 0 ≤ (S 1046 0) ∧ (S 1046 0) ≤ 600 ∧ 31 ≤ (S 1008 0) ∧ (S 1008 0) ≤ (S 1007 0) ∧ 0 ≤ (S 1055 0) ∧ (S 1055 0) ≤ 19 ∧ 1 ≤ (S 1092 0) ∧ (S 1092 0) ≤ 24 ∧ 0 ≤ (x5) ∧ (x5) < (S 1046 0) ∧ (S 29 (x5)) = (S 53 ((S 1092 0) - 1)) ∧ 0 ≤ (S 53 ((S 1092 0) - 1)) ∧ (S 53 ((S 1092 0) - 1)) < (S 1032 0) ∧ (S 60 ((S 1092 0) - 1)) = sm_dp (S 1100024) (S 1100023 (x5)) ∧ sm_TC (S 61) (S 62) (S 27) (S 1100007) (S 1100023) (S 1100024) (40 * ((S 1092 0) - 1)) (S 1100023 (x5)) ∧ sm_LK (g185 1100029) (g185 1076 0) (S 54 ((S 1092 0) - 1)) (S 53 ((S 1092 0) - 1)) ∧ sm_VO (g185 44) (g185 1076 0) (S 1007 0) ((S 55 ((S 1092 0) - 1))) ((S 56 ((S 1092 0) - 1))) ∧ sm_FW (g185 44) (g185 1076 0) (S 59 ((S 1092 0) - 1)) ∧ sm_FL (S 53) (S 54) (S 55) (S 56) (S 57) (S 58) (S 59) (S 60) (S 61) (S 62) (S 63) (S 64) (S 27) (S 29) (S 1100007) (S 1100023) (S 1100024) (S 1100025) (S 26) (g185 1100029) (g185 44) (S 1046 0) (S 1032 0) (g185 1076 0) (S 1007 0) (((S 1092 0) - 1)) ∧ (S 57 ((S 1092 0) - 1)) = (x5) ∧ 0 ≤ (S 58 ((S 1092 0) - 1)) ∧ (S 58 ((S 1092 0) - 1)) ≤ 400 ∧ sm_SK (S 63) (S 64) (g185 44) (S 1100007) (S 1100025) (g185 1076 0) (S 1007 0) (400 * ((S 1092 0) - 1)) ((S 58 ((S 1092 0) - 1))) (((S 1100025 x5))) ∧ -1 ≤ ((S 1100025 x5)) ∧ ((S 1100025 x5)) < (S 1046 0) ∧ (0 ≤ ((S 1100025 x5)) → (S 26 ((S 1100025 x5))) = 29) ∧ 0 ≤ (0 : Int) ∧ (0 : Int) ≤ (S 58 ((S 1092 0) - 1)) ∧ (S 58 ((S 1092 0) - 1)) - (0 : Int) ≤ 399 ∧ sm_VO (g185 44) (g185 1076 0) (S 1007 0) ((g192 1111 0)) ((g192 1112 0)) ∧ (0 ≤ ((S 1100025 x5)) → (S 1100007 ((S 1100025 x5))) ≤ (S 58 ((S 1092 0) - 1)) - (0 : Int)) ∧ (x5) + 1 < (S 1046 0) ∧ (S 29 ((x5) + 1)) = (S 29 (x5)) ∧ (S 1100007 ((x5) + 1)) = (S 58 ((S 1092 0) - 1)) - (0 : Int) + 1 ∧ (S 1100023 ((x5) + 1)) = (S 1100023 (x5)) ∧ (S 1100025 ((x5) + 1)) = ((S 1100025 x5))) ∧ (¬ (g185 1075 0) = 0 → sm_LX (S 58) (S 63) (S 64) (S 1092 0) (g185 1076 0))) ∧ (∀ g198 : sv_S, (((g185 1075 0) = 0 → (S 1073 0) = 1 → 1 ≤ (S 1092 0) ∧ (S 1092 0) ≤ 24 ∧ 0 ≤ (g198 57 ((S 1092 0) - 1)) ∧ (g198 57 ((S 1092 0) - 1)) < (S 1046 0) ∧ (S 29 (g198 57 ((S 1092 0) - 1))) = (S 53 ((S 1092 0) - 1)) ∧ 0 ≤ (S 53 ((S 1092 0) - 1)) ∧ (S 53 ((S 1092 0) - 1)) < (S 1032 0) ∧ (S 60 ((S 1092 0) - 1)) = sm_dp (S 1100024) (S 1100023 (g198 57 ((S 1092 0) - 1))) ∧ sm_TC (S 61) (S 62) (S 27) (S 1100007) (S 1100023) (S 1100024) (40 * ((S 1092 0) - 1)) (S 1100023 (g198 57 ((S 1092 0) - 1))) ∧ sm_LK (g185 1100029) (g185 1076 0) (S 54 ((S 1092 0) - 1)) (S 53 ((S 1092 0) - 1)) ∧ sm_VO (g185 44) (g185 1076 0) (S 1007 0) ((S 55 ((S 1092 0) - 1))) ((S 56 ((S 1092 0) - 1))) ∧ sm_FW (g185 44) (g185 1076 0) (S 59 ((S 1092 0) - 1)) ∧ sm_FL (S 53) (S 54) (S 55) (S 56) (g198 57) (g198 58) (S 59) (S 60) (S 61) (S 62) (g198 63) (g198 64) (S 27) (S 29) (S 1100007) (S 1100023) (S 1100024) (S 1100025) (S 26) (g185 1100029) (g185 44) (S 1046 0) (S 1032 0) (g185 1076 0) (S 1007 0) (((S 1092 0) - 1)) ∧ (g198 58 ((S 1092 0) - 1)) = (S 1100007 (g198 57 ((S 1092 0) - 1))) ∧ sm_SK (g198 63) (g198 64) (g185 44) (S 1100007) (S 1100025) (g185 1076 0) (S 1007 0) (400 * ((S 1092 0) - 1)) ((g198 58 ((S 1092 0) - 1))) ((S 1100025 (g198 57 ((S 1092 0) - 1))))) ∧ (¬ (g185 1075 0) = 0 → sm_LX (g198 58) (g198 63) (g198 64) (S 1092 0) (g185 1076 0))) → (sm_PL (g185 1100020) (g185 51) (g185 52) (g185 46) (g185 47) (g185 1076 0) (g185 1086 0) ∧ sm_FR (g185 1100020) (g185 52) (g185 1100021) (g185 1100022) (3000 - (g185 1084 0)) (g185 1085 0) ∧ sm_PV (g185 1100020) (g185 48) (g185 49) (g185 50) (g185 44) (g185 1076 0) (S 1007 0) ∧ sm_AL (g185 1100020) (g185 48) (g185 49) (g185 50) (g185 44) (g185 1076 0) (g185 1100032 0) ∧ sm_SV (g185 1100020) (g185 48) (g185 1100029) (S 32) (S 33) (g185 1076 0) (S 1032 0) ∧ 0 ≤ (g185 1076 0) ∧ (g185 1076 0) ≤ 300 ∧ 0 ≤ (g185 1084 0) ∧ (g185 1084 0) ≤ 3000 ∧ 0 ≤ (g185 1086 0) ∧ sm_SC (g185 1100029) (g185 44) (g185 45) (g185 43) (S 21) (g185 1076 0) (S 1032 0) ∧ sm_PO (g185 42) (g185 1076 0) ∧ ((g185 1075 0) = 0 → (g185 1100032 0) = -1 ∧ sm_FO (g185 44) (g185 45) (g185 1076 0)) ∧ 23 ≤ (g185 1076 0) ∧ 31 ≤ (S 1007 0) ∧ (S 1007 0) ≤ 400 ∧ sm_LN (S 4) 400 (S 1007 0) ∧ (S 1008 0) ≤ (S 1007 0) ∧ ((S 1075 0) = 1 → (g185 1075 0) = 1) ∧ 0 ≤ (S 1092 0) ∧ (S 1092 0) ≤ 24 ∧ (S 1007 0) ≤ (S 1007 0) ∧ (¬ (g185 1075 0) = 0 → sm_LX (g198 58) (g198 63) (g198 64) (S 1092 0) (g185 1076 0)) ∧ ((g185 1075 0) = 0 → (S 1073 0) = 1 → 1 ≤ (S 1092 0) ∧ (S 1092 0) ≤ 24 ∧ 0 ≤ (g198 57 ((S 1092 0) - 1)) ∧ (g198 57 ((S 1092 0) - 1)) < (S 1046 0) ∧ (S 29 (g198 57 ((S 1092 0) - 1))) = (S 53 ((S 1092 0) - 1)) ∧ 0 ≤ (S 53 ((S 1092 0) - 1)) ∧ (S 53 ((S 1092 0) - 1)) < (S 1032 0) ∧ (S 60 ((S 1092 0) - 1)) = sm_dp (S 1100024) (S 1100023 (g198 57 ((S 1092 0) - 1))) ∧ sm_TC (S 61) (S 62) (S 27) (S 1100007) (S 1100023) (S 1100024) (40 * ((S 1092 0) - 1)) (S 1100023 (g198 57 ((S 1092 0) - 1))) ∧ sm_LK (g185 1100029) (g185 1076 0) (S 54 ((S 1092 0) - 1)) (S 53 ((S 1092 0) - 1)) ∧ sm_VO (g185 44) (g185 1076 0) (S 1007 0) ((S 55 ((S 1092 0) - 1))) ((S 56 ((S 1092 0) - 1))) ∧ sm_FW (g185 44) (g185 1076 0) (S 59 ((S 1092 0) - 1)) ∧ sm_FL (S 53) (S 54) (S 55) (S 56) (g198 57) (g198 58) (S 59) (S 60) (S 61) (S 62) (g198 63) (g198 64) (S 27) (S 29) (S 1100007) (S 1100023) (S 1100024) (S 1100025) (S 26) (g185 1100029) (g185 44) (S 1046 0) (S 1032 0) (g185 1076 0) (S 1007 0) (((S 1092 0) - 1)) ∧ (g198 58 ((S 1092 0) - 1)) = (S 1100007 (g198 57 ((S 1092 0) - 1))) ∧ sm_SK (g198 63) (g198 64) (g185 44) (S 1100007) (S 1100025) (g185 1076 0) (S 1007 0) (400 * ((S 1092 0) - 1)) ((g198 58 ((S 1092 0) - 1))) ((S 1100025 (g198 57 ((S 1092 0) - 1))))) ∧ ((S 1073 0) = 1 ∨ (S 1092 0) = 0 ∧ (g185 1075 0) = 0 ∧ ((S 1073 0) = 2 ∨ (S 1073 0) = 3)) ∧ (S 1086 0) ≤ (g185 1086 0) ∧ (g185 1086 0) ≤ (S 1086 0) + 110 ∧ 0 ≤ (S 1107 0) ∧ (S 1107 0) ≤ 100 ∧ sm_PT (S 67) (S 1107 0) (S 1007 0))))))))) ∧ (((S 26 x5) = (9 : Int)) → ((sm_CT (S 26) (S 27) (S 28) (S 29) (S 1100007) (S 1100023) (S 1100024) (S 1100025) (S 21) (S 1046 0) (S 1032 0) (S 1008 0) (S 1055 0) → 0 ≤ (x5) → (x5) < (S 1046 0) → ((S 26 (x5)) = 9 → (1 ≤ (S 27 (x5)) ∧ (S 27 (x5)) < (S 1032 0) ∧ (S 21 ((S 27 (x5)))) = (S 29 (x5))) ∧ (0 ≤ ((S 1100007 (x5))) ∧ (0 ≤ (S 1100023 (x5)) → (S 1100007 (S 1100023 (x5))) ≤ ((S 1100007 (x5)))) ∧ (0 ≤ (S 1100025 (x5)) → (S 1100007 (S 1100025 (x5))) ≤ ((S 1100007 (x5))))) ∧ (0 ≤ ((x5) + 1) ∧ ((x5) + 1) < (S 1046 0) ∧ (S 29 ((x5) + 1)) = ((S 29 (x5))) ∧ (S 1100007 ((x5) + 1)) = ((S 1100007 (x5)) + 1) ∧ (S 1100023 ((x5) + 1)) = ((S 1100023 (x5))) ∧ (S 1100025 ((x5) + 1)) = ((S 1100025 (x5)))))) → ((S 1075 0) = 0 ∧ (S 1073 0) = 1 ∧ sm_LX (S 58) (S 63) (S 64) (S 1092 0) (S 1076 0) ∧ sm_PL (S 1100020) (S 51) (S 52) (S 46) (S 47) (S 1076 0) (S 1086 0) ∧ sm_FR (S 1100020) (S 52) (S 1100021) (S 1100022) (3000 - (S 1084 0)) (S 1085 0) ∧ sm_PV (S 1100020) (S 48) (S 49) (S 50) (S 44) (S 1076 0) (S 1007 0) ∧ sm_AL (S 1100020) (S 48) (S 49) (S 50) (S 44) (S 1076 0) (S 1100032 0) ∧ sm_SV (S 1100020) (S 48) (S 1100029) (S 32) (S 33) (S 1076 0) (S 1032 0) ∧ 0 ≤ (S 1076 0) ∧ (S 1076 0) ≤ 300 ∧ 0 ≤ (S 1084 0) ∧ (S 1084 0) ≤ 3000 ∧ 0 ≤ (S 1086 0) ∧ sm_SC (S 1100029) (S 44) (S 45) (S 43) (S 21) (S 1076 0) (S 1032 0) ∧ sm_PO (S 42) (S 1076 0) ∧ (S 1100032 0) = -1 ∧ sm_FO (S 44) (S 45) (S 1076 0) ∧ 23 ≤ (S 1076 0) ∧ 31 ≤ (S 1007 0) ∧ (S 1007 0) ≤ 400 ∧ sm_LN (S 4) 400 (S 1007 0) ∧ sm_CT (S 26) (S 27) (S 28) (S 29) (S 1100007) (S 1100023) (S 1100024) (S 1100025) (S 21) (S 1046 0) (S 1032 0) (S 1008 0) (S 1055 0) ∧ sm_LS (S 26) (S 1100007) (S 1100025) (S 1046 0) ∧ sm_CL (S 1100007) (S 1100023) (S 1100025) (S 1046 0) ∧ 1 ≤ (S 1032 0) ∧ (S 1032 0) ≤ 11 ∧ 0 ≤ (S 1046 0) ∧ (S 1046 0) ≤ 600 ∧ 31 ≤ (S 1008 0) ∧ (S 1008 0) ≤ (S 1007 0) ∧ 0 ≤ (S 1055 0) ∧ (S 1055 0) ≤ 19 ∧ 1 ≤ (S 1092 0) ∧ (S 1092 0) ≤ 24 ∧ 0 ≤ (x5) ∧ (x5) < (S 1046 0) ∧ (S 29 (x5)) = (S 53 ((S 1092 0) - 1)) ∧ 0 ≤ (S 53 ((S 1092 0) - 1)) ∧ (S 53 ((S 1092 0) - 1)) < (S 1032 0) ∧ (S 60 ((S 1092 0) - 1)) = sm_dp (S 1100024) (S 1100023 (x5)) ∧ sm_TC (S 61) (S 62) (S 27) (S 1100007) (S 1100023) (S 1100024) (40 * ((S 1092 0) - 1)) (S 1100023 (x5)) ∧ sm_LK (S 1100029) (S 1076 0) (S 54 ((S 1092 0) - 1)) (S 53 ((S 1092 0) - 1)) ∧ sm_VO (S 44) (S 1076 0) (S 1007 0) ((S 55 ((S 1092 0) - 1))) ((S 56 ((S 1092 0) - 1))) ∧ sm_FW (S 44) (S 1076 0) (S 59 ((S 1092 0) - 1)) ∧ sm_FL (S 53) (S 54) (S 55) (S 56) (S 57) (S 58) (S 59) (S 60) (S 61) (S 62) (S 63) (S 64) (S 27) (S 29) (S 1100007) (S 1100023) (S 1100024) (S 1100025) (S 26) (S 1100029) (S 44) (S 1046 0) (S 1032 0) (S 1076 0) (S 1007 0) (((S 1092 0) - 1)) ∧ (S 57 ((S 1092 0) - 1)) = (x5) ∧ 0 ≤ (S 58 ((S 1092 0) - 1)) ∧ (S 58 ((S 1092 0) - 1)) ≤ 400 ∧ sm_SK (S 63) (S 64) (S 44) (S 1100007) (S 1100025) (S 1076 0) (S 1007 0) (400 * ((S 1092 0) - 1)) ((S 58 ((S 1092 0) - 1))) (((S 1100025 x5))) ∧ -1 ≤ ((S 1100025 x5)) ∧ ((S 1100025 x5)) < (S 1046 0) ∧ (0 ≤ ((S 1100025 x5)) → (S 26 ((S 1100025 x5))) = 29) ∧ (S 58 ((S 1092 0) - 1)) = (S 1100007 (x5)) ∧ ((S 1100025 x5)) = (S 1100025 (x5)) ∧ (0 ≤ (S 1100023 (x5)) → (S 1100007 (S 1100023 (x5))) ≤ (S 58 ((S 1092 0) - 1))) ∧ (S 58 ((S 1092 0) - 1)) ≤ 396 ∧ 0 ≤ (S 58 ((S 1092 0) - 1)) ∧ (0 ≤ ((S 1100025 x5)) → (S 1100007 ((S 1100025 x5))) ≤ (S 58 ((S 1092 0) - 1)) - 0) ∧ (x5) + 1 < (S 1046 0) ∧ (S 29 ((x5) + 1)) = (S 29 (x5)) ∧ (S 1100007 ((x5) + 1)) = (S 58 ((S 1092 0) - 1)) + 1 ∧ (S 1100023 ((x5) + 1)) = (S 1100023 (x5)) ∧ (S 1100025 ((x5) + 1)) = ((S 1100025 x5)) ∧ (S 1086 0) ≤ 1900000000 ∧ 1 ≤ (S 27 x5) ∧ (S 27 x5) < (S 1032 0) ∧ (S 21 (S 27 x5)) = (S 53 ((S 1092 0) - 1))) ∧ (∀ g205 : sv_S, (sm_PL (g205 1100020) (g205 51) (g205 52) (g205 46) (g205 47) (g205 1076 0) (g205 1086 0) ∧ sm_FR (g205 1100020) (g205 52) (g205 1100021) (g205 1100022) (3000 - (g205 1084 0)) (g205 1085 0) ∧ sm_PV (g205 1100020) (g205 48) (g205 49) (g205 50) (g205 44) (g205 1076 0) (S 1007 0) ∧ sm_AL (g205 1100020) (g205 48) (g205 49) (g205 50) (g205 44) (g205 1076 0) (S 1100032 0) ∧ sm_SV (g205 1100020) (g205 48) (g205 1100029) (S 32) (S 33) (g205 1076 0) (S 1032 0) ∧ 0 ≤ (g205 1076 0) ∧ (g205 1076 0) ≤ 300 ∧ 0 ≤ (g205 1084 0) ∧ (g205 1084 0) ≤ 3000 ∧ 0 ≤ (g205 1086 0) ∧ sm_SC (g205 1100029) (g205 44) (g205 45) (g205 43) (S 21) (g205 1076 0) (S 1032 0) ∧ sm_PO (g205 42) (g205 1076 0) ∧ ((g205 1075 0) = 0 → (S 1100032 0) = -1 ∧ sm_FO (g205 44) (g205 45) (g205 1076 0)) ∧ 23 ≤ (g205 1076 0) ∧ 31 ≤ (S 1007 0) ∧ (S 1007 0) ≤ 400 ∧ sm_LN (S 4) 400 (S 1007 0) ∧ (S 1008 0) ≤ (S 1007 0) ∧ ((S 1075 0) = 1 → (g205 1075 0) = 1) ∧ 0 ≤ (g205 1092 0) ∧ (g205 1092 0) ≤ 24 ∧ (S 1007 0) ≤ (S 1007 0) ∧ (¬ (g205 1075 0) = 0 → sm_LX (g205 58) (g205 63) (g205 64) (g205 1092 0) (g205 1076 0)) ∧ ((g205 1075 0) = 0 → (g205 1073 0) = 1 → 1 ≤ (g205 1092 0) ∧ (g205 1092 0) ≤ 24 ∧ 0 ≤ (g205 57 ((g205 1092 0) - 1)) ∧ (g205 57 ((g205 1092 0) - 1)) < (S 1046 0) ∧ (S 29 (g205 57 ((g205 1092 0) - 1))) = (S 53 ((g205 1092 0) - 1)) ∧ 0 ≤ (S 53 ((g205 1092 0) - 1)) ∧ (S 53 ((g205 1092 0) - 1)) < (S 1032 0) ∧ (g205 60 ((g205 1092 0) - 1)) = sm_dp (S 1100024) (S 1100023 (g205 57 ((g205 1092 0) - 1))) ∧ sm_TC (S 61) (S 62) (S 27) (S 1100007) (S 1100023) (S 1100024) (40 * ((g205 1092 0) - 1)) (S 1100023 (g205 57 ((g205 1092 0) - 1))) ∧ sm_LK (g205 1100029) (g205 1076 0) (S 54 ((g205 1092 0) - 1)) (S 53 ((g205 1092 0) - 1)) ∧ sm_VO (g205 44) (g205 1076 0) (S 1007 0) ((S 55 ((g205 1092 0) - 1))) ((S 56 ((g205 1092 0) - 1))) ∧ sm_FW (g205 44) (g205 1076 0) (S 59 ((g205 1092 0) - 1)) ∧ sm_FL (S 53) (S 54) (S 55) (S 56) (g205 57) (g205 58) (S 59) (g205 60) (S 61) (S 62) (g205 63) (g205 64) (S 27) (S 29) (S 1100007) (S 1100023) (S 1100024) (S 1100025) (S 26) (g205 1100029) (g205 44) (S 1046 0) (S 1032 0) (g205 1076 0) (S 1007 0) (((g205 1092 0) - 1)) ∧ (g205 58 ((g205 1092 0) - 1)) = (S 1100007 (g205 57 ((g205 1092 0) - 1))) ∧ sm_SK (g205 63) (g205 64) (g205 44) (S 1100007) (S 1100025) (g205 1076 0) (S 1007 0) (400 * ((g205 1092 0) - 1)) ((g205 58 ((g205 1092 0) - 1))) ((S 1100025 (g205 57 ((g205 1092 0) - 1))))) ∧ ((g205 1073 0) = 1 ∨ (g205 1092 0) = 0 ∧ (g205 1075 0) = 0 ∧ ((g205 1073 0) = 2 ∨ (g205 1073 0) = 3)) ∧ (S 1086 0) ≤ (g205 1086 0) ∧ (g205 1086 0) ≤ (S 1086 0) + 110) → (sm_PL (g205 1100020) (g205 51) (g205 52) (g205 46) (g205 47) (g205 1076 0) (g205 1086 0) ∧ sm_FR (g205 1100020) (g205 52) (g205 1100021) (g205 1100022) (3000 - (g205 1084 0)) (g205 1085 0) ∧ sm_PV (g205 1100020) (g205 48) (g205 49) (g205 50) (g205 44) (g205 1076 0) (S 1007 0) ∧ sm_AL (g205 1100020) (g205 48) (g205 49) (g205 50) (g205 44) (g205 1076 0) (S 1100032 0) ∧ sm_SV (g205 1100020) (g205 48) (g205 1100029) (S 32) (S 33) (g205 1076 0) (S 1032 0) ∧ 0 ≤ (g205 1076 0) ∧ (g205 1076 0) ≤ 300 ∧ 0 ≤ (g205 1084 0) ∧ (g205 1084 0) ≤ 3000 ∧ 0 ≤ (g205 1086 0) ∧ sm_SC (g205 1100029) (g205 44) (g205 45) (g205 43) (S 21) (g205 1076 0) (S 1032 0) ∧ sm_PO (g205 42) (g205 1076 0) ∧ ((g205 1075 0) = 0 → (S 1100032 0) = -1 ∧ sm_FO (g205 44) (g205 45) (g205 1076 0)) ∧ 23 ≤ (g205 1076 0) ∧ 31 ≤ (S 1007 0) ∧ (S 1007 0) ≤ 400 ∧ sm_LN (S 4) 400 (S 1007 0) ∧ (S 1008 0) ≤ (S 1007 0) ∧ ((S 1075 0) = 1 → (g205 1075 0) = 1) ∧ 0 ≤ (g205 1092 0) ∧ (g205 1092 0) ≤ 24 ∧ (S 1007 0) ≤ (S 1007 0) ∧ (¬ (g205 1075 0) = 0 → sm_LX (g205 58) (g205 63) (g205 64) (g205 1092 0) (g205 1076 0)) ∧ ((g205 1075 0) = 0 → (g205 1073 0) = 1 → 1 ≤ (g205 1092 0) ∧ (g205 1092 0) ≤ 24 ∧ 0 ≤ (g205 57 ((g205 1092 0) - 1)) ∧ (g205 57 ((g205 1092 0) - 1)) < (S 1046 0) ∧ (S 29 (g205 57 ((g205 1092 0) - 1))) = (S 53 ((g205 1092 0) - 1)) ∧ 0 ≤ (S 53 ((g205 1092 0) - 1)) ∧ (S 53 ((g205 1092 0) - 1)) < (S 1032 0) ∧ (g205 60 ((g205 1092 0) - 1)) = sm_dp (S 1100024) (S 1100023 (g205 57 ((g205 1092 0) - 1))) ∧ sm_TC (S 61) (S 62) (S 27) (S 1100007) (S 1100023) (S 1100024) (40 * ((g205 1092 0) - 1)) (S 1100023 (g205 57 ((g205 1092 0) - 1))) ∧ sm_LK (g205 1100029) (g205 1076 0) (S 54 ((g205 1092 0) - 1)) (S 53 ((g205 1092 0) - 1)) ∧ sm_VO (g205 44) (g205 1076 0) (S 1007 0) ((S 55 ((g205 1092 0) - 1))) ((S 56 ((g205 1092 0) - 1))) ∧ sm_FW (g205 44) (g205 1076 0) (S 59 ((g205 1092 0) - 1)) ∧ sm_FL (S 53) (S 54) (S 55) (S 56) (g205 57) (g205 58) (S 59) (g205 60) (S 61) (S 62) (g205 63) (g205 64) (S 27) (S 29) (S 1100007) (S 1100023) (S 1100024) (S 1100025) (S 26) (g205 1100029) (g205 44) (S 1046 0) (S 1032 0) (g205 1076 0) (S 1007 0) (((g205 1092 0) - 1)) ∧ (g205 58 ((g205 1092 0) - 1)) = (S 1100007 (g205 57 ((g205 1092 0) - 1))) ∧ sm_SK (g205 63) (g205 64) (g205 44) (S 1100007) (S 1100025) (g205 1076 0) (S 1007 0) (400 * ((g205 1092 0) - 1)) ((g205 58 ((g205 1092 0) - 1))) ((S 1100025 (g205 57 ((g205 1092 0) - 1))))) ∧ ((g205 1073 0) = 1 ∨ (g205 1092 0) = 0 ∧ (g205 1075 0) = 0 ∧ ((g205 1073 0) = 2 ∨ (g205 1073 0) = 3)) ∧ (S 1086 0) ≤ (g205 1086 0) ∧ (g205 1086 0) ≤ (S 1086 0) + 110 ∧ 0 ≤ (S 1107 0) ∧ (S 1107 0) ≤ 100 ∧ sm_PT (S 67) (S 1107 0) (S 1007 0))))) ∧ (((S 26 x5) = (10 : Int)) → ((sm_CT (S 26) (S 27) (S 28) (S 29) (S 1100007) (S 1100023) (S 1100024) (S 1100025) (S 21) (S 1046 0) (S 1032 0) (S 1008 0) (S 1055 0) → 0 ≤ (x5) → (x5) < (S 1046 0) → (((S 26 (x5)) = 10 ∨ (S 26 (x5)) = 12) → (0 ≤ ((S 1100007 (x5)) - 2) ∧ (0 ≤ (S 1100023 (x5)) → (S 1100007 (S 1100023 (x5))) ≤ ((S 1100007 (x5)) - 2)) ∧ (0 ≤ (S 1100025 (x5)) → (S 1100007 (S 1100025 (x5))) ≤ ((S 1100007 (x5)) - 2))) ∧ (0 ≤ ((x5) + 1) ∧ ((x5) + 1) < (S 1046 0) ∧ (S 29 ((x5) + 1)) = ((S 29 (x5))) ∧ (S 1100007 ((x5) + 1)) = ((S 1100007 (x5)) - 1) ∧ (S 1100023 ((x5) + 1)) = ((S 1100023 (x5))) ∧ (S 1100025 ((x5) + 1)) = ((S 1100025 (x5)))))) → ((S 1075 0) = 0 ∧ (S 1073 0) = 1 ∧ sm_LX (S 58) (S 63) (S 64) (S 1092 0) (S 1076 0) ∧ sm_PL (S 1100020) (S 51) (S 52) (S 46) (S 47) (S 1076 0) (S 1086 0) ∧ sm_FR (S 1100020) (S 52) (S 1100021) (S 1100022) (3000 - (S 1084 0)) (S 1085 0) ∧ sm_PV (S 1100020) (S 48) (S 49) (S 50) (S 44) (S 1076 0) (S 1007 0) ∧ sm_AL (S 1100020) (S 48) (S 49) (S 50) (S 44) (S 1076 0) (S 1100032 0) ∧ sm_SV (S 1100020) (S 48) (S 1100029) (S 32) (S 33) (S 1076 0) (S 1032 0) ∧ 0 ≤ (S 1076 0) ∧ (S 1076 0) ≤ 300 ∧ 0 ≤ (S 1084 0) ∧ (S 1084 0) ≤ 3000 ∧ 0 ≤ (S 1086 0) ∧ sm_SC (S 1100029) (S 44) (S 45) (S 43) (S 21) (S 1076 0) (S 1032 0) ∧ sm_PO (S 42) (S 1076 0) ∧ (S 1100032 0) = -1 ∧ sm_FO (S 44) (S 45) (S 1076 0) ∧ 23 ≤ (S 1076 0) ∧ 31 ≤ (S 1007 0) ∧ (S 1007 0) ≤ 400 ∧ sm_LN (S 4) 400 (S 1007 0) ∧ sm_CT (S 26) (S 27) (S 28) (S 29) (S 1100007) (S 1100023) (S 1100024) (S 1100025) (S 21) (S 1046 0) (S 1032 0) (S 1008 0) (S 1055 0) ∧ sm_LS (S 26) (S 1100007) (S 1100025) (S 1046 0) ∧ sm_CL (S 1100007) (S 1100023) (S 1100025) (S 1046 0) ∧ 1 ≤ (S 1032 0) ∧ (S 1032 0) ≤ 11 ∧ 0 ≤ (S 1046 0) ∧ (S 1046 0) ≤ 600 ∧ 31 ≤ (S 1008 0) ∧ (S 1008 0) ≤ (S 1007 0) ∧ 0 ≤ (S 1055 0) ∧ (S 1055 0) ≤ 19 ∧ 1 ≤ (S 1092 0) ∧ (S 1092 0) ≤ 24 ∧ 0 ≤ (x5) ∧ (x5) < (S 1046 0) ∧ (S 29 (x5)) = (S 53 ((S 1092 0) - 1)) ∧ 0 ≤ (S 53 ((S 1092 0) - 1)) ∧ (S 53 ((S 1092 0) - 1)) < (S 1032 0) ∧ (S 60 ((S 1092 0) - 1)) = sm_dp (S 1100024) (S 1100023 (x5)) ∧ sm_TC (S 61) (S 62) (S 27) (S 1100007) (S 1100023) (S 1100024) (40 * ((S 1092 0) - 1)) (S 1100023 (x5)) ∧ sm_LK (S 1100029) (S 1076 0) (S 54 ((S 1092 0) - 1)) (S 53 ((S 1092 0) - 1)) ∧ sm_VO (S 44) (S 1076 0) (S 1007 0) ((S 55 ((S 1092 0) - 1))) ((S 56 ((S 1092 0) - 1))) ∧ sm_FW (S 44) (S 1076 0) (S 59 ((S 1092 0) - 1)) ∧ sm_FL (S 53) (S 54) (S 55) (S 56) (S 57) (S 58) (S 59) (S 60) (S 61) (S 62) (S 63) (S 64) (S 27) (S 29) (S 1100007) (S 1100023) (S 1100024) (S 1100025) (S 26) (S 1100029) (S 44) (S 1046 0) (S 1032 0) (S 1076 0) (S 1007 0) (((S 1092 0) - 1)) ∧ (S 57 ((S 1092 0) - 1)) = (x5) ∧ 0 ≤ (S 58 ((S 1092 0) - 1)) ∧ (S 58 ((S 1092 0) - 1)) ≤ 400 ∧ sm_SK (S 63) (S 64) (S 44) (S 1100007) (S 1100025) (S 1076 0) (S 1007 0) (400 * ((S 1092 0) - 1)) ((S 58 ((S 1092 0) - 1))) (((S 1100025 x5))) ∧ -1 ≤ ((S 1100025 x5)) ∧ ((S 1100025 x5)) < (S 1046 0) ∧ (0 ≤ ((S 1100025 x5)) → (S 26 ((S 1100025 x5))) = 29) ∧ (S 58 ((S 1092 0) - 1)) = (S 1100007 (x5)) ∧ ((S 1100025 x5)) = (S 1100025 (x5)) ∧ (0 ≤ (S 1100023 (x5)) → (S 1100007 (S 1100023 (x5))) ≤ (S 58 ((S 1092 0) - 1))) ∧ (S 58 ((S 1092 0) - 1)) ≤ 396 ∧ 2 ≤ (S 58 ((S 1092 0) - 1)) ∧ (0 ≤ ((S 1100025 x5)) → (S 1100007 ((S 1100025 x5))) ≤ (S 58 ((S 1092 0) - 1)) - 2) ∧ (x5) + 1 < (S 1046 0) ∧ (S 29 ((x5) + 1)) = (S 29 (x5)) ∧ (S 1100007 ((x5) + 1)) = (S 58 ((S 1092 0) - 1)) + (-1) ∧ (S 1100023 ((x5) + 1)) = (S 1100023 (x5)) ∧ (S 1100025 ((x5) + 1)) = ((S 1100025 x5))) ∧ (∀ g212 : sv_S, (sm_PL (S 1100020) (S 51) (S 52) (g212 46) (g212 47) (g212 1076 0) (S 1086 0) ∧ sm_FR (S 1100020) (S 52) (S 1100021) (S 1100022) (3000 - (S 1084 0)) (S 1085 0) ∧ sm_PV (S 1100020) (S 48) (S 49) (S 50) (g212 44) (g212 1076 0) (g212 1007 0) ∧ sm_AL (S 1100020) (S 48) (S 49) (S 50) (g212 44) (g212 1076 0) (S 1100032 0) ∧ sm_SV (S 1100020) (S 48) (g212 1100029) (S 32) (S 33) (g212 1076 0) (S 1032 0) ∧ 0 ≤ (g212 1076 0) ∧ (g212 1076 0) ≤ 300 ∧ 0 ≤ (S 1084 0) ∧ (S 1084 0) ≤ 3000 ∧ 0 ≤ (S 1086 0) ∧ sm_SC (g212 1100029) (g212 44) (g212 45) (g212 43) (S 21) (g212 1076 0) (S 1032 0) ∧ sm_PO (g212 42) (g212 1076 0) ∧ ((g212 1075 0) = 0 → (S 1100032 0) = -1 ∧ sm_FO (g212 44) (g212 45) (g212 1076 0)) ∧ 23 ≤ (g212 1076 0) ∧ 31 ≤ (g212 1007 0) ∧ (g212 1007 0) ≤ 400 ∧ sm_LN (g212 4) 400 (g212 1007 0) ∧ (S 1008 0) ≤ (g212 1007 0) ∧ ((S 1075 0) = 1 → (g212 1075 0) = 1) ∧ 0 ≤ (g212 1092 0) ∧ (g212 1092 0) ≤ 24 ∧ (S 1007 0) ≤ (g212 1007 0) ∧ (¬ (g212 1075 0) = 0 → sm_LX (g212 58) (g212 63) (g212 64) (g212 1092 0) (g212 1076 0)) ∧ ((g212 1075 0) = 0 → (g212 1073 0) = 1 → 1 ≤ (g212 1092 0) ∧ (g212 1092 0) ≤ 24 ∧ 0 ≤ (g212 57 ((g212 1092 0) - 1)) ∧ (g212 57 ((g212 1092 0) - 1)) < (S 1046 0) ∧ (S 29 (g212 57 ((g212 1092 0) - 1))) = (S 53 ((g212 1092 0) - 1)) ∧ 0 ≤ (S 53 ((g212 1092 0) - 1)) ∧ (S 53 ((g212 1092 0) - 1)) < (S 1032 0) ∧ (g212 60 ((g212 1092 0) - 1)) = sm_dp (S 1100024) (S 1100023 (g212 57 ((g212 1092 0) - 1))) ∧ sm_TC (S 61) (S 62) (S 27) (S 1100007) (S 1100023) (S 1100024) (40 * ((g212 1092 0) - 1)) (S 1100023 (g212 57 ((g212 1092 0) - 1))) ∧ sm_LK (g212 1100029) (g212 1076 0) (S 54 ((g212 1092 0) - 1)) (S 53 ((g212 1092 0) - 1)) ∧ sm_VO (g212 44) (g212 1076 0) (g212 1007 0) ((S 55 ((g212 1092 0) - 1))) ((S 56 ((g212 1092 0) - 1))) ∧ sm_FW (g212 44) (g212 1076 0) (S 59 ((g212 1092 0) - 1)) ∧ sm_FL (S 53) (S 54) (S 55) (S 56) (g212 57) (g212 58) (S 59) (g212 60) (S 61) (S 62) (g212 63) (g212 64) (S 27) (S 29) (S 1100007) (S 1100023) (S 1100024) (S 1100025) (S 26) (g212 1100029) (g212 44) (S 1046 0) (S 1032 0) (g212 1076 0) (g212 1007 0) (((g212 1092 0) - 1)) ∧ (g212 58 ((g212 1092 0) - 1)) = (S 1100007 (g212 57 ((g212 1092 0) - 1))) ∧ sm_SK (g212 63) (g212 64) (g212 44) (S 1100007) (S 1100025) (g212 1076 0) (g212 1007 0) (400 * ((g212 1092 0) - 1)) ((g212 58 ((g212 1092 0) - 1))) ((S 1100025 (g212 57 ((g212 1092 0) - 1))))) ∧ ((g212 1073 0) = 1 ∨ (g212 1092 0) = 0 ∧ (g212 1075 0) = 0 ∧ ((g212 1073 0) = 2 ∨ (g212 1073 0) = 3))) → (sm_PL (S 1100020) (S 51) (S 52) (g212 46) (g212 47) (g212 1076 0) (S 1086 0) ∧ sm_FR (S 1100020) (S 52) (S 1100021) (S 1100022) (3000 - (S 1084 0)) (S 1085 0) ∧ sm_PV (S 1100020) (S 48) (S 49) (S 50) (g212 44) (g212 1076 0) (g212 1007 0) ∧ sm_AL (S 1100020) (S 48) (S 49) (S 50) (g212 44) (g212 1076 0) (S 1100032 0) ∧ sm_SV (S 1100020) (S 48) (g212 1100029) (S 32) (S 33) (g212 1076 0) (S 1032 0) ∧ 0 ≤ (g212 1076 0) ∧ (g212 1076 0) ≤ 300 ∧ 0 ≤ (S 1084 0) ∧ (S 1084 0) ≤ 3000 ∧ 0 ≤ (S 1086 0) ∧ sm_SC (g212 1100029) (g212 44) (g212 45) (g212 43) (S 21) (g212 1076 0) (S 1032 0) ∧ sm_PO (g212 42) (g212 1076 0) ∧ ((g212 1075 0) = 0 → (S 1100032 0) = -1 ∧ sm_FO (g212 44) (g212 45) (g212 1076 0)) ∧ 23 ≤ (g212 1076 0) ∧ 31 ≤ (g212 1007 0) ∧ (g212 1007 0) ≤ 400 ∧ sm_LN (g212 4) 400 (g212 1007 0) ∧ (S 1008 0) ≤ (g212 1007 0) ∧ ((S 1075 0) = 1 → (g212 1075 0) = 1) ∧ 0 ≤ (g212 1092 0) ∧ (g212 1092 0) ≤ 24 ∧ (S 1007 0) ≤ (g212 1007 0) ∧ (¬ (g212 1075 0) = 0 → sm_LX (g212 58) (g212 63) (g212 64) (g212 1092 0) (g212 1076 0)) ∧ ((g212 1075 0) = 0 → (g212 1073 0) = 1 → 1 ≤ (g212 1092 0) ∧ (g212 1092 0) ≤ 24 ∧ 0 ≤ (g212 57 ((g212 1092 0) - 1)) ∧ (g212 57 ((g212 1092 0) - 1)) < (S 1046 0) ∧ (S 29 (g212 57 ((g212 1092 0) - 1))) = (S 53 ((g212 1092 0) - 1)) ∧ 0 ≤ (S 53 ((g212 1092 0) - 1)) ∧ (S 53 ((g212 1092 0) - 1)) < (S 1032 0) ∧ (g212 60 ((g212 1092 0) - 1)) = sm_dp (S 1100024) (S 1100023 (g212 57 ((g212 1092 0) - 1))) ∧ sm_TC (S 61) (S 62) (S 27) (S 1100007) (S 1100023) (S 1100024) (40 * ((g212 1092 0) - 1)) (S 1100023 (g212 57 ((g212 1092 0) - 1))) ∧ sm_LK (g212 1100029) (g212 1076 0) (S 54 ((g212 1092 0) - 1)) (S 53 ((g212 1092 0) - 1)) ∧ sm_VO (g212 44) (g212 1076 0) (g212 1007 0) ((S 55 ((g212 1092 0) - 1))) ((S 56 ((g212 1092 0) - 1))) ∧ sm_FW (g212 44) (g212 1076 0) (S 59 ((g212 1092 0) - 1)) ∧ sm_FL (S 53) (S 54) (S 55) (S 56) (g212 57) (g212 58) (S 59) (g212 60) (S 61) (S 62) (g212 63) (g212 64) (S 27) (S 29) (S 1100007) (S 1100023) (S 1100024) (S 1100025) (S 26) (g212 1100029) (g212 44) (S 1046 0) (S 1032 0) (g212 1076 0) (g212 1007 0) (((g212 1092 0) - 1)) ∧ (g212 58 ((g212 1092 0) - 1)) = (S 1100007 (g212 57 ((g212 1092 0) - 1))) ∧ sm_SK (g212 63) (g212 64) (g212 44) (S 1100007) (S 1100025) (g212 1076 0) (g212 1007 0) (400 * ((g212 1092 0) - 1)) ((g212 58 ((g212 1092 0) - 1))) ((S 1100025 (g212 57 ((g212 1092 0) - 1))))) ∧ ((g212 1073 0) = 1 ∨ (g212 1092 0) = 0 ∧ (g212 1075 0) = 0 ∧ ((g212 1073 0) = 2 ∨ (g212 1073 0) = 3)) ∧ (S 1086 0) ≤ (S 1086 0) ∧ (S 1086 0) ≤ (S 1086 0) + 110 ∧ 0 ≤ (S 1107 0) ∧ (S 1107 0) ≤ 100 ∧ sm_PT (S 67) (S 1107 0) (g212 1007 0))))) ∧ (((S 26 x5) = (11 : Int)) → ((sm_CT (S 26) (S 27) (S 28) (S 29) (S 1100007) (S 1100023) (S 1100024) (S 1100025) (S 21) (S 1046 0) (S 1032 0) (S 1008 0) (S 1055 0) → 0 ≤ (x5) → (x5) < (S 1046 0) → ((S 26 (x5)) = 11 → (0 ≤ ((S 1100007 (x5)) - 3) ∧ (0 ≤ (S 1100023 (x5)) → (S 1100007 (S 1100023 (x5))) ≤ ((S 1100007 (x5)) - 3)) ∧ (0 ≤ (S 1100025 (x5)) → (S 1100007 (S 1100025 (x5))) ≤ ((S 1100007 (x5)) - 3))) ∧ (0 ≤ ((x5) + 1) ∧ ((x5) + 1) < (S 1046 0) ∧ (S 29 ((x5) + 1)) = ((S 29 (x5))) ∧ (S 1100007 ((x5) + 1)) = ((S 1100007 (x5)) - 2) ∧ (S 1100023 ((x5) + 1)) = ((S 1100023 (x5))) ∧ (S 1100025 ((x5) + 1)) = ((S 1100025 (x5)))))) → ((S 1075 0) = 0 ∧ (S 1073 0) = 1 ∧ sm_LX (S 58) (S 63) (S 64) (S 1092 0) (S 1076 0) ∧ sm_PL (S 1100020) (S 51) (S 52) (S 46) (S 47) (S 1076 0) (S 1086 0) ∧ sm_FR (S 1100020) (S 52) (S 1100021) (S 1100022) (3000 - (S 1084 0)) (S 1085 0) ∧ sm_PV (S 1100020) (S 48) (S 49) (S 50) (S 44) (S 1076 0) (S 1007 0) ∧ sm_AL (S 1100020) (S 48) (S 49) (S 50) (S 44) (S 1076 0) (S 1100032 0) ∧ sm_SV (S 1100020) (S 48) (S 1100029) (S 32) (S 33) (S 1076 0) (S 1032 0) ∧ 0 ≤ (S 1076 0) ∧ (S 1076 0) ≤ 300 ∧ 0 ≤ (S 1084 0) ∧ (S 1084 0) ≤ 3000 ∧ 0 ≤ (S 1086 0) ∧ sm_SC (S 1100029) (S 44) (S 45) (S 43) (S 21) (S 1076 0) (S 1032 0) ∧ sm_PO (S 42) (S 1076 0) ∧ (S 1100032 0) = -1 ∧ sm_FO (S 44) (S 45) (S 1076 0) ∧ 23 ≤ (S 1076 0) ∧ 31 ≤ (S 1007 0) ∧ (S 1007 0) ≤ 400 ∧ sm_LN (S 4) 400 (S 1007 0) ∧ sm_CT (S 26) (S 27) (S 28) (S 29) (S 1100007) (S 1100023) (S 1100024) (S 1100025) (S 21) (S 1046 0) (S 1032 0) (S 1008 0) (S 1055 0) ∧ sm_LS (S 26) (S 1100007) (S 1100025) (S 1046 0) ∧ sm_CL (S 1100007) (S 1100023) (S 1100025) (S 1046 0) ∧ 1 ≤ (S 1032 0) ∧ (S 1032 0) ≤ 11 ∧ 0 ≤ (S 1046 0) ∧ (S 1046 0) ≤ 600 ∧ 31 ≤ (S 1008 0) ∧ (S 1008 0) ≤ (S 1007 0) ∧ 0 ≤ (S 1055 0) ∧ (S 1055 0) ≤ 19 ∧ 1 ≤ (S 1092 0) ∧ (S 1092 0) ≤ 24 ∧ 0 ≤ (x5) ∧ (x5) < (S 1046 0) ∧ (S 29 (x5)) = (S 53 ((S 1092 0) - 1)) ∧ 0 ≤ (S 53 ((S 1092 0) - 1)) ∧ (S 53 ((S 1092 0) - 1)) < (S 1032 0) ∧ (S 60 ((S 1092 0) - 1)) = sm_dp (S 1100024) (S 1100023 (x5)) ∧ sm_TC (S 61) (S 62) (S 27) (S 1100007) (S 1100023) (S 1100024) (40 * ((S 1092 0) - 1)) (S 1100023 (x5)) ∧ sm_LK (S 1100029) (S 1076 0) (S 54 ((S 1092 0) - 1)) (S 53 ((S 1092 0) - 1)) ∧ sm_VO (S 44) (S 1076 0) (S 1007 0) ((S 55 ((S 1092 0) - 1))) ((S 56 ((S 1092 0) - 1))) ∧ sm_FW (S 44) (S 1076 0) (S 59 ((S 1092 0) - 1)) ∧ sm_FL (S 53) (S 54) (S 55) (S 56) (S 57) (S 58) (S 59) (S 60) (S 61) (S 62) (S 63) (S 64) (S 27) (S 29) (S 1100007) (S 1100023) (S 1100024) (S 1100025) (S 26) (S 1100029) (S 44) (S 1046 0) (S 1032 0) (S 1076 0) (S 1007 0) (((S 1092 0) - 1)) ∧ (S 57 ((S 1092 0) - 1)) = (x5) ∧ 0 ≤ (S 58 ((S 1092 0) - 1)) ∧ (S 58 ((S 1092 0) - 1)) ≤ 400 ∧ sm_SK (S 63) (S 64) (S 44) (S 1100007) (S 1100025) (S 1076 0) (S 1007 0) (400 * ((S 1092 0) - 1)) ((S 58 ((S 1092 0) - 1))) (((S 1100025 x5))) ∧ -1 ≤ ((S 1100025 x5)) ∧ ((S 1100025 x5)) < (S 1046 0) ∧ (0 ≤ ((S 1100025 x5)) → (S 26 ((S 1100025 x5))) = 29) ∧ (S 58 ((S 1092 0) - 1)) = (S 1100007 (x5)) ∧ ((S 1100025 x5)) = (S 1100025 (x5)) ∧ (0 ≤ (S 1100023 (x5)) → (S 1100007 (S 1100023 (x5))) ≤ (S 58 ((S 1092 0) - 1))) ∧ (S 58 ((S 1092 0) - 1)) ≤ 396 ∧ 3 ≤ (S 58 ((S 1092 0) - 1)) ∧ (0 ≤ ((S 1100025 x5)) → (S 1100007 ((S 1100025 x5))) ≤ (S 58 ((S 1092 0) - 1)) - 3) ∧ (x5) + 1 < (S 1046 0) ∧ (S 29 ((x5) + 1)) = (S 29 (x5)) ∧ (S 1100007 ((x5) + 1)) = (S 58 ((S 1092 0) - 1)) + (-2) ∧ (S 1100023 ((x5) + 1)) = (S 1100023 (x5)) ∧ (S 1100025 ((x5) + 1)) = ((S 1100025 x5)) ∧ (S 1086 0) ≤ 1900000000) ∧ (∀ g219 : sv_S, (sm_PL (g219 1100020) (g219 51) (g219 52) (g219 46) (g219 47) (g219 1076 0) (g219 1086 0) ∧ sm_FR (g219 1100020) (g219 52) (g219 1100021) (g219 1100022) (3000 - (g219 1084 0)) (g219 1085 0) ∧ sm_PV (g219 1100020) (g219 48) (g219 49) (g219 50) (g219 44) (g219 1076 0) (g219 1007 0) ∧ sm_AL (g219 1100020) (g219 48) (g219 49) (g219 50) (g219 44) (g219 1076 0) (S 1100032 0) ∧ sm_SV (g219 1100020) (g219 48) (g219 1100029) (S 32) (S 33) (g219 1076 0) (S 1032 0) ∧ 0 ≤ (g219 1076 0) ∧ (g219 1076 0) ≤ 300 ∧ 0 ≤ (g219 1084 0) ∧ (g219 1084 0) ≤ 3000 ∧ 0 ≤ (g219 1086 0) ∧ sm_SC (g219 1100029) (g219 44) (g219 45) (g219 43) (S 21) (g219 1076 0) (S 1032 0) ∧ sm_PO (g219 42) (g219 1076 0) ∧ ((g219 1075 0) = 0 → (S 1100032 0) = -1 ∧ sm_FO (g219 44) (g219 45) (g219 1076 0)) ∧ 23 ≤ (g219 1076 0) ∧ 31 ≤ (g219 1007 0) ∧ (g219 1007 0) ≤ 400 ∧ sm_LN (g219 4) 400 (g219 1007 0) ∧ (S 1008 0) ≤ (g219 1007 0) ∧ ((S 1075 0) = 1 → (g219 1075 0) = 1) ∧ 0 ≤ (g219 1092 0) ∧ (g219 1092 0) ≤ 24 ∧ (S 1007 0) ≤ (g219 1007 0) ∧ (¬ (g219 1075 0) = 0 → sm_LX (g219 58) (g219 63) (g219 64) (g219 1092 0) (g219 1076 0)) ∧ ((g219 1075 0) = 0 → (g219 1073 0) = 1 → 1 ≤ (g219 1092 0) ∧ (g219 1092 0) ≤ 24 ∧ 0 ≤ (g219 57 ((g219 1092 0) - 1)) ∧ (g219 57 ((g219 1092 0) - 1)) < (S 1046 0) ∧ (S 29 (g219 57 ((g219 1092 0) - 1))) = (S 53 ((g219 1092 0) - 1)) ∧ 0 ≤ (S 53 ((g219 1092 0) - 1)) ∧ (S 53 ((g219 1092 0) - 1)) < (S 1032 0) ∧ (g219 60 ((g219 1092 0) - 1)) = sm_dp (S 1100024) (S 1100023 (g219 57 ((g219 1092 0) - 1))) ∧ sm_TC (S 61) (S 62) (S 27) (S 1100007) (S 1100023) (S 1100024) (40 * ((g219 1092 0) - 1)) (S 1100023 (g219 57 ((g219 1092 0) - 1))) ∧ sm_LK (g219 1100029) (g219 1076 0) (S 54 ((g219 1092 0) - 1)) (S 53 ((g219 1092 0) - 1)) ∧ sm_VO (g219 44) (g219 1076 0) (g219 1007 0) ((S 55 ((g219 1092 0) - 1))) ((S 56 ((g219 1092 0) - 1))) ∧ sm_FW (g219 44) (g219 1076 0) (S 59 ((g219 1092 0) - 1)) ∧ sm_FL (S 53) (S 54) (S 55) (S 56) (g219 57) (g219 58) (S 59) (g219 60) (S 61) (S 62) (g219 63) (g219 64) (S 27) (S 29) (S 1100007) (S 1100023) (S 1100024) (S 1100025) (S 26) (g219 1100029) (g219 44) (S 1046 0) (S 1032 0) (g219 1076 0) (g219 1007 0) (((g219 1092 0) - 1)) ∧ (g219 58 ((g219 1092 0) - 1)) = (S 1100007 (g219 57 ((g219 1092 0) - 1))) ∧ sm_SK (g219 63) (g219 64) (g219 44) (S 1100007) (S 1100025) (g219 1076 0) (g219 1007 0) (400 * ((g219 1092 0) - 1)) ((g219 58 ((g219 1092 0) - 1))) ((S 1100025 (g219 57 ((g219 1092 0) - 1))))) ∧ ((g219 1073 0) = 1 ∨ (g219 1092 0) = 0 ∧ (g219 1075 0) = 0 ∧ ((g219 1073 0) = 2 ∨ (g219 1073 0) = 3)) ∧ (S 1086 0) ≤ (g219 1086 0) ∧ (g219 1086 0) ≤ (S 1086 0) + 110) → (sm_PL (g219 1100020) (g219 51) (g219 52) (g219 46) (g219 47) (g219 1076 0) (g219 1086 0) ∧ sm_FR (g219 1100020) (g219 52) (g219 1100021) (g219 1100022) (3000 - (g219 1084 0)) (g219 1085 0) ∧ sm_PV (g219 1100020) (g219 48) (g219 49) (g219 50) (g219 44) (g219 1076 0) (g219 1007 0) ∧ sm_AL (g219 1100020) (g219 48) (g219 49) (g219 50) (g219 44) (g219 1076 0) (S 1100032 0) ∧ sm_SV (g219 1100020) (g219 48) (g219 1100029) (S 32) (S 33) (g219 1076 0) (S 1032 0) ∧ 0 ≤ (g219 1076 0) ∧ (g219 1076 0) ≤ 300 ∧ 0 ≤ (g219 1084 0) ∧ (g219 1084 0) ≤ 3000 ∧ 0 ≤ (g219 1086 0) ∧ sm_SC (g219 1100029) (g219 44) (g219 45) (g219 43) (S 21) (g219 1076 0) (S 1032 0) ∧ sm_PO (g219 42) (g219 1076 0) ∧ ((g219 1075 0) = 0 → (S 1100032 0) = -1 ∧ sm_FO (g219 44) (g219 45) (g219 1076 0)) ∧ 23 ≤ (g219 1076 0) ∧ 31 ≤ (g219 1007 0) ∧ (g219 1007 0) ≤ 400 ∧ sm_LN (g219 4) 400 (g219 1007 0) ∧ (S 1008 0) ≤ (g219 1007 0) ∧ ((S 1075 0) = 1 → (g219 1075 0) = 1) ∧ 0 ≤ (g219 1092 0) ∧ (g219 1092 0) ≤ 24 ∧ (S 1007 0) ≤ (g219 1007 0) ∧ (¬ (g219 1075 0) = 0 → sm_LX (g219 58) (g219 63) (g219 64) (g219 1092 0) (g219 1076 0)) ∧ ((g219 1075 0) = 0 → (g219 1073 0) = 1 → 1 ≤ (g219 1092 0) ∧ (g219 1092 0) ≤ 24 ∧ 0 ≤ (g219 57 ((g219 1092 0) - 1)) ∧ (g219 57 ((g219 1092 0) - 1)) < (S 1046 0) ∧ (S 29 (g219 57 ((g219 1092 0) - 1))) = (S 53 ((g219 1092 0) - 1)) ∧ 0 ≤ (S 53 ((g219 1092 0) - 1)) ∧ (S 53 ((g219 1092 0) - 1)) < (S 1032 0) ∧ (g219 60 ((g219 1092 0) - 1)) = sm_dp (S 1100024) (S 1100023 (g219 57 ((g219 1092 0) - 1))) ∧ sm_TC (S 61) (S 62) (S 27) (S 1100007) (S 1100023) (S 1100024) (40 * ((g219 1092 0) - 1)) (S 1100023 (g219 57 ((g219 1092 0) - 1))) ∧ sm_LK (g219 1100029) (g219 1076 0) (S 54 ((g219 1092 0) - 1)) (S 53 ((g219 1092 0) - 1)) ∧ sm_VO (g219 44) (g219 1076 0) (g219 1007 0) ((S 55 ((g219 1092 0) - 1))) ((S 56 ((g219 1092 0) - 1))) ∧ sm_FW (g219 44) (g219 1076 0) (S 59 ((g219 1092 0) - 1)) ∧ sm_FL (S 53) (S 54) (S 55) (S 56) (g219 57) (g219 58) (S 59) (g219 60) (S 61) (S 62) (g219 63) (g219 64) (S 27) (S 29) (S 1100007) (S 1100023) (S 1100024) (S 1100025) (S 26) (g219 1100029) (g219 44) (S 1046 0) (S 1032 0) (g219 1076 0) (g219 1007 0) (((g219 1092 0) - 1)) ∧ (g219 58 ((g219 1092 0) - 1)) = (S 1100007 (g219 57 ((g219 1092 0) - 1))) ∧ sm_SK (g219 63) (g219 64) (g219 44) (S 1100007) (S 1100025) (g219 1076 0) (g219 1007 0) (400 * ((g219 1092 0) - 1)) ((g219 58 ((g219 1092 0) - 1))) ((S 1100025 (g219 57 ((g219 1092 0) - 1))))) ∧ ((g219 1073 0) = 1 ∨ (g219 1092 0) = 0 ∧ (g219 1075 0) = 0 ∧ ((g219 1073 0) = 2 ∨ (g219 1073 0) = 3)) ∧ (S 1086 0) ≤ (g219 1086 0) ∧ (g219 1086 0) ≤ (S 1086 0) + 110 ∧ 0 ≤ (S 1107 0) ∧ (S 1107 0) ≤ 100 ∧ sm_PT (S 67) (S 1107 0) (g219 1007 0))))) ∧ (((S 26 x5) = (12 : Int)) → ((sm_CT (S 26) (S 27) (S 28) (S 29) (S 1100007) (S 1100023) (S 1100024) (S 1100025) (S 21) (S 1046 0) (S 1032 0) (S 1008 0) (S 1055 0) → 0 ≤ (x5) → (x5) < (S 1046 0) → (((S 26 (x5)) = 10 ∨ (S 26 (x5)) = 12) → (0 ≤ ((S 1100007 (x5)) - 2) ∧ (0 ≤ (S 1100023 (x5)) → (S 1100007 (S 1100023 (x5))) ≤ ((S 1100007 (x5)) - 2)) ∧ (0 ≤ (S 1100025 (x5)) → (S 1100007 (S 1100025 (x5))) ≤ ((S 1100007 (x5)) - 2))) ∧ (0 ≤ ((x5) + 1) ∧ ((x5) + 1) < (S 1046 0) ∧ (S 29 ((x5) + 1)) = ((S 29 (x5))) ∧ (S 1100007 ((x5) + 1)) = ((S 1100007 (x5)) - 1) ∧ (S 1100023 ((x5) + 1)) = ((S 1100023 (x5))) ∧ (S 1100025 ((x5) + 1)) = ((S 1100025 (x5)))))) → ((S 1075 0) = 0 ∧ (S 1073 0) = 1 ∧ sm_LX (S 58) (S 63) (S 64) (S 1092 0) (S 1076 0) ∧ sm_PL (S 1100020) (S 51) (S 52) (S 46) (S 47) (S 1076 0) (S 1086 0) ∧ sm_FR (S 1100020) (S 52) (S 1100021) (S 1100022) (3000 - (S 1084 0)) (S 1085 0) ∧ sm_PV (S 1100020) (S 48) (S 49) (S 50) (S 44) (S 1076 0) (S 1007 0) ∧ sm_AL (S 1100020) (S 48) (S 49) (S 50) (S 44) (S 1076 0) (S 1100032 0) ∧ sm_SV (S 1100020) (S 48) (S 1100029) (S 32) (S 33) (S 1076 0) (S 1032 0) ∧ 0 ≤ (S 1076 0) ∧ (S 1076 0) ≤ 300 ∧ 0 ≤ (S 1084 0) ∧ (S 1084 0) ≤ 3000 ∧ 0 ≤ (S 1086 0) ∧ sm_SC (S 1100029) (S 44) (S 45) (S 43) (S 21) (S 1076 0) (S 1032 0) ∧ sm_PO (S 42) (S 1076 0) ∧ (S 1100032 0) = -1 ∧ sm_FO (S 44) (S 45) (S 1076 0) ∧ 23 ≤ (S 1076 0) ∧ 31 ≤ (S 1007 0) ∧ (S 1007 0) ≤ 400 ∧ sm_LN (S 4) 400 (S 1007 0) ∧ sm_CT (S 26) (S 27) (S 28) (S 29) (S 1100007) (S 1100023) (S 1100024) (S 1100025) (S 21) (S 1046 0) (S 1032 0) (S 1008 0) (S 1055 0) ∧ sm_LS (S 26) (S 1100007) (S 1100025) (S 1046 0) ∧ sm_CL (S 1100007) (S 1100023) (S 1100025) (S 1046 0) ∧ 1 ≤ (S 1032 0) ∧ (S 1032 0) ≤ 11 ∧ 0 ≤ (S 1046 0) ∧ (S 1046 0) ≤ 600 ∧ 31 ≤ (S 1008 0) ∧ (S 1008 0) ≤ (S 1007 0) ∧ 0 ≤ (S 1055 0) ∧ (S 1055 0) ≤ 19 ∧ 1 ≤ (S 1092 0) ∧ (S 1092 0) ≤ 24 ∧ 0 ≤ (x5) ∧ (x5) < (S 1046 0) ∧ (S 29 (x5)) = (S 53 ((S 1092 0) - 1)) ∧ 0 ≤ (S 53 ((S 1092 0) - 1)) ∧ (S 53 ((S 1092 0) - 1)) < (S 1032 0) ∧ (S 60 ((S 1092 0) - 1)) = sm_dp (S 1100024) (S 1100023 (x5)) ∧ sm_TC (S 61) (S 62) (S 27) (S 1100007) (S 1100023) (S 1100024) (40 * ((S 1092 0) - 1)) (S 1100023 (x5)) ∧ sm_LK (S 1100029) (S 1076 0) (S 54 ((S 1092 0) - 1)) (S 53 ((S 1092 0) - 1)) ∧ sm_VO (S 44) (S 1076 0) (S 1007 0) ((S 55 ((S 1092 0) - 1))) ((S 56 ((S 1092 0) - 1))) ∧ sm_FW (S 44) (S 1076 0) (S 59 ((S 1092 0) - 1)) ∧ sm_FL (S 53) (S 54) (S 55) (S 56) (S 57) (S 58) (S 59) (S 60) (S 61) (S 62) (S 63) (S 64) (S 27) (S 29) (S 1100007) (S 1100023) (S 1100024) (S 1100025) (S 26) (S 1100029) (S 44) (S 1046 0) (S 1032 0) (S 1076 0) (S 1007 0) (((S 1092 0) - 1)) ∧ (S 57 ((S 1092 0) - 1)) = (x5) ∧ 0 ≤ (S 58 ((S 1092 0) - 1)) ∧ (S 58 ((S 1092 0) - 1)) ≤ 400 ∧ sm_SK (S 63) (S 64) (S 44) (S 1100007) (S 1100025) (S 1076 0) (S 1007 0) (400 * ((S 1092 0) - 1)) ((S 58 ((S 1092 0) - 1))) (((S 1100025 x5))) ∧ -1 ≤ ((S 1100025 x5)) ∧ ((S 1100025 x5)) < (S 1046 0) ∧ (0 ≤ ((S 1100025 x5)) → (S 26 ((S 1100025 x5))) = 29) ∧ (S 58 ((S 1092 0) - 1)) = (S 1100007 (x5)) ∧ ((S 1100025 x5)) = (S 1100025 (x5)) ∧ (0 ≤ (S 1100023 (x5)) → (S 1100007 (S 1100023 (x5))) ≤ (S 58 ((S 1092 0) - 1))) ∧ (S 58 ((S 1092 0) - 1)) ≤ 396 ∧ 2 ≤ (S 58 ((S 1092 0) - 1)) ∧ (0 ≤ ((S 1100025 x5)) → (S 1100007 ((S 1100025 x5))) ≤ (S 58 ((S 1092 0) - 1)) - 2) ∧ (x5) + 1 < (S 1046 0) ∧ (S 29 ((x5) + 1)) = (S 29 (x5)) ∧ (S 1100007 ((x5) + 1)) = (S 58 ((S 1092 0) - 1)) + (-1) ∧ (S 1100023 ((x5) + 1)) = (S 1100023 (x5)) ∧ (S 1100025 ((x5) + 1)) = ((S 1100025 x5))) ∧ (∀ g226 : sv_S, (sm_PL (g226 1100020) (S 51) (g226 52) (g226 46) (g226 47) (g226 1076 0) (S 1086 0) ∧ sm_FR (g226 1100020) (g226 52) (g226 1100021) (g226 1100022) (3000 - (g226 1084 0)) (g226 1085 0) ∧ sm_PV (g226 1100020) (S 48) (S 49) (S 50) (g226 44) (g226 1076 0) (g226 1007 0) ∧ sm_AL (g226 1100020) (S 48) (S 49) (S 50) (g226 44) (g226 1076 0) (S 1100032 0) ∧ sm_SV (g226 1100020) (S 48) (g226 1100029) (S 32) (S 33) (g226 1076 0) (S 1032 0) ∧ 0 ≤ (g226 1076 0) ∧ (g226 1076 0) ≤ 300 ∧ 0 ≤ (g226 1084 0) ∧ (g226 1084 0) ≤ 3000 ∧ 0 ≤ (S 1086 0) ∧ sm_SC (g226 1100029) (g226 44) (g226 45) (g226 43) (S 21) (g226 1076 0) (S 1032 0) ∧ sm_PO (g226 42) (g226 1076 0) ∧ ((g226 1075 0) = 0 → (S 1100032 0) = -1 ∧ sm_FO (g226 44) (g226 45) (g226 1076 0)) ∧ 23 ≤ (g226 1076 0) ∧ 31 ≤ (g226 1007 0) ∧ (g226 1007 0) ≤ 400 ∧ sm_LN (g226 4) 400 (g226 1007 0) ∧ (S 1008 0) ≤ (g226 1007 0) ∧ ((S 1075 0) = 1 → (g226 1075 0) = 1) ∧ 0 ≤ (g226 1092 0) ∧ (g226 1092 0) ≤ 24 ∧ (S 1007 0) ≤ (g226 1007 0) ∧ (¬ (g226 1075 0) = 0 → sm_LX (g226 58) (g226 63) (g226 64) (g226 1092 0) (g226 1076 0)) ∧ ((g226 1075 0) = 0 → (g226 1073 0) = 1 → 1 ≤ (g226 1092 0) ∧ (g226 1092 0) ≤ 24 ∧ 0 ≤ (g226 57 ((g226 1092 0) - 1)) ∧ (g226 57 ((g226 1092 0) - 1)) < (S 1046 0) ∧ (S 29 (g226 57 ((g226 1092 0) - 1))) = (S 53 ((g226 1092 0) - 1)) ∧ 0 ≤ (S 53 ((g226 1092 0) - 1)) ∧ (S 53 ((g226 1092 0) - 1)) < (S 1032 0) ∧ (g226 60 ((g226 1092 0) - 1)) = sm_dp (S 1100024) (S 1100023 (g226 57 ((g226 1092 0) - 1))) ∧ sm_TC (S 61) (S 62) (S 27) (S 1100007) (S 1100023) (S 1100024) (40 * ((g226 1092 0) - 1)) (S 1100023 (g226 57 ((g226 1092 0) - 1))) ∧ sm_LK (g226 1100029) (g226 1076 0) (S 54 ((g226 1092 0) - 1)) (S 53 ((g226 1092 0) - 1)) ∧ sm_VO (g226 44) (g226 1076 0) (g226 1007 0) ((S 55 ((g226 1092 0) - 1))) ((S 56 ((g226 1092 0) - 1))) ∧ sm_FW (g226 44) (g226 1076 0) (S 59 ((g226 1092 0) - 1)) ∧ sm_FL (S 53) (S 54) (S 55) (S 56) (g226 57) (g226 58) (S 59) (g226 60) (S 61) (S 62) (g226 63) (g226 64) (S 27) (S 29) (S 1100007) (S 1100023) (S 1100024) (S 1100025) (S 26) (g226 1100029) (g226 44) (S 1046 0) (S 1032 0) (g226 1076 0) (g226 1007 0) (((g226 1092 0) - 1)) ∧ (g226 58 ((g226 1092 0) - 1)) = (S 1100007 (g226 57 ((g226 1092 0) - 1))) ∧ sm_SK (g226 63) (g226 64) (g226 44) (S 1100007) (S 1100025) (g226 1076 0) (g226 1007 0) (400 * ((g226 1092 0) - 1)) ((g226 58 ((g226 1092 0) - 1))) ((S 1100025 (g226 57 ((g226 1092 0) - 1))))) ∧ ((g226 1073 0) = 1 ∨ (g226 1092 0) = 0 ∧ (g226 1075 0) = 0 ∧ ((g226 1073 0) = 2 ∨ (g226 1073 0) = 3))) → (sm_PL (g226 1100020) (S 51) (g226 52) (g226 46) (g226 47) (g226 1076 0) (S 1086 0) ∧ sm_FR (g226 1100020) (g226 52) (g226 1100021) (g226 1100022) (3000 - (g226 1084 0)) (g226 1085 0) ∧ sm_PV (g226 1100020) (S 48) (S 49) (S 50) (g226 44) (g226 1076 0) (g226 1007 0) ∧ sm_AL (g226 1100020) (S 48) (S 49) (S 50) (g226 44) (g226 1076 0) (S 1100032 0) ∧ sm_SV (g226 1100020) (S 48) (g226 1100029) (S 32) (S 33) (g226 1076 0) (S 1032 0) ∧ 0 ≤ (g226 1076 0) ∧ (g226 1076 0) ≤ 300 ∧ 0 ≤ (g226 1084 0) ∧ (g226 1084 0) ≤ 3000 ∧ 0 ≤ (S 1086 0) ∧ sm_SC (g226 1100029) (g226 44) (g226 45) (g226 43) (S 21) (g226 1076 0) (S 1032 0) ∧ sm_PO (g226 42) (g226 1076 0) ∧ ((g226 1075 0) = 0 → (S 1100032 0) = -1 ∧ sm_FO (g226 44) (g226 45) (g226 1076 0)) ∧ 23 ≤ (g226 1076 0) ∧ 31 ≤ (g226 1007 0) ∧ (g226 1007 0) ≤ 400 ∧ sm_LN (g226 4) 400 (g226 1007 0) ∧ (S 1008 0) ≤ (g226 1007 0) ∧ ((S 1075 0) = 1 → (g226 1075 0) = 1) ∧ 0 ≤ (g226 1092 0) ∧ (g226 1092 0) ≤ 24 ∧ (S 1007 0) ≤ (g226 1007 0) ∧ (¬ (g226 1075 0) = 0 → sm_LX (g226 58) (g226 63) (g226 64) (g226 1092 0) (g226 1076 0)) ∧ ((g226 1075 0) = 0 → (g226 1073 0) = 1 → 1 ≤ (g226 1092 0) ∧ (g226 1092 0) ≤ 24 ∧ 0 ≤ (g226 57 ((g226 1092 0) - 1)) ∧ (g226 57 ((g226 1092 0) - 1)) < (S 1046 0) ∧ (S 29 (g226 57 ((g226 1092 0) - 1))) = (S 53 ((g226 1092 0) - 1)) ∧ 0 ≤ (S 53 ((g226 1092 0) - 1)) ∧ (S 53 ((g226 1092 0) - 1)) < (S 1032 0) ∧ (g226 60 ((g226 1092 0) - 1)) = sm_dp (S 1100024) (S 1100023 (g226 57 ((g226 1092 0) - 1))) ∧ sm_TC (S 61) (S 62) (S 27) (S 1100007) (S 1100023) (S 1100024) (40 * ((g226 1092 0) - 1)) (S 1100023 (g226 57 ((g226 1092 0) - 1))) ∧ sm_LK (g226 1100029) (g226 1076 0) (S 54 ((g226 1092 0) - 1)) (S 53 ((g226 1092 0) - 1)) ∧ sm_VO (g226 44) (g226 1076 0) (g226 1007 0) ((S 55 ((g226 1092 0) - 1))) ((S 56 ((g226 1092 0) - 1))) ∧ sm_FW (g226 44) (g226 1076 0) (S 59 ((g226 1092 0) - 1)) ∧ sm_FL (S 53) (S 54) (S 55) (S 56) (g226 57) (g226 58) (S 59) (g226 60) (S 61) (S 62) (g226 63) (g226 64) (S 27) (S 29) (S 1100007) (S 1100023) (S 1100024) (S 1100025) (S 26) (g226 1100029) (g226 44) (S 1046 0) (S 1032 0) (g226 1076 0) (g226 1007 0) (((g226 1092 0) - 1)) ∧ (g226 58 ((g226 1092 0) - 1)) = (S 1100007 (g226 57 ((g226 1092 0) - 1))) ∧ sm_SK (g226 63) (g226 64) (g226 44) (S 1100007) (S 1100025) (g226 1076 0) (g226 1007 0) (400 * ((g226 1092 0) - 1)) ((g226 58 ((g226 1092 0) - 1))) ((S 1100025 (g226 57 ((g226 1092 0) - 1))))) ∧ ((g226 1073 0) = 1 ∨ (g226 1092 0) = 0 ∧ (g226 1075 0) = 0 ∧ ((g226 1073 0) = 2 ∨ (g226 1073 0) = 3)) ∧ (S 1086 0) ≤ (S 1086 0) ∧ (S 1086 0) ≤ (S 1086 0) + 110 ∧ 0 ≤ (S 1107 0) ∧ (S 1107 0) ≤ 100 ∧ sm_PT (S 67) (S 1107 0) (g226 1007 0))))) ∧ (((S 26 x5) = (13 : Int)) → ((sm_CT (S 26) (S 27) (S 28) (S 29) (S 1100007) (S 1100023) (S 1100024) (S 1100025) (S 21) (S 1046 0) (S 1032 0) (S 1008 0) (S 1055 0) → 0 ≤ (x5) → (x5) < (S 1046 0) → ((S 26 (x5)) = 13 → (0 ≤ (S 27 (x5)) ∧ (S 27 (x5)) ≤ 4) ∧ (0 ≤ ((S 1100007 (x5)) - 1) ∧ (0 ≤ (S 1100023 (x5)) → (S 1100007 (S 1100023 (x5))) ≤ ((S 1100007 (x5)) - 1)) ∧ (0 ≤ (S 1100025 (x5)) → (S 1100007 (S 1100025 (x5))) ≤ ((S 1100007 (x5)) - 1))) ∧ (0 ≤ ((x5) + 1) ∧ ((x5) + 1) < (S 1046 0) ∧ (S 29 ((x5) + 1)) = ((S 29 (x5))) ∧ (S 1100007 ((x5) + 1)) = ((S 1100007 (x5))) ∧ (S 1100023 ((x5) + 1)) = ((S 1100023 (x5))) ∧ (S 1100025 ((x5) + 1)) = ((S 1100025 (x5)))))) → ((sm_SK (S 63) (S 64) (S 44) (S 1100007) (S 1100025) (S 1076 0) (S 1007 0) (400 * ((S 1092 0) - 1)) ((S 58 ((S 1092 0) - 1))) (((S 1100025 x5))) → sm_LS (S 26) (S 1100007) (S 1100025) (S 1046 0) → 0 ≤ (S 58 ((S 1092 0) - 1)) - 1 → (S 58 ((S 1092 0) - 1)) - 1 < (S 58 ((S 1092 0) - 1)) → ((S 1100025 x5)) < (S 1046 0) → ((S 1100025 x5)) = (S 1100025 (x5)) → (S 58 ((S 1092 0) - 1)) = (S 1100007 (x5)) → (0 ≤ ((S 1100025 x5)) → (S 26 ((S 1100025 x5))) = 29) → (0 ≤ (S 1100025 (x5)) → (S 1100007 (S 1100025 (x5))) ≤ (S 1100007 (x5)) - 1) → sm_VO (S 44) (S 1076 0) (S 1007 0) ((S 63 ((400 * ((S 1092 0) - 1) + (S 58 ((S 1092 0) - 1))) - 1 - (0 : Int)))) ((S 64 ((400 * ((S 1092 0) - 1) + (S 58 ((S 1092 0) - 1))) - 1 - (0 : Int))))) → ((∀ g233 : sv_S, (sm_VO (S 44) (S 1076 0) (S 1007 0) ((g233 1111 0)) ((g233 1112 0))) → (((S 1075 0) = 0 → (S 1073 0) = 1 → sm_PL (S 1100020) (S 51) (S 52) (S 46) (S 47) (S 1076 0) (S 1086 0) ∧ sm_FR (S 1100020) (S 52) (S 1100021) (S 1100022) (3000 - (S 1084 0)) (S 1085 0) ∧ sm_PV (S 1100020) (S 48) (S 49) (S 50) (S 44) (S 1076 0) (S 1007 0) ∧ sm_AL (S 1100020) (S 48) (S 49) (S 50) (S 44) (S 1076 0) (S 1100032 0) ∧ sm_SV (S 1100020) (S 48) (S 1100029) (S 32) (S 33) (S 1076 0) (S 1032 0) ∧ 0 ≤ (S 1076 0) ∧ (S 1076 0) ≤ 300 ∧ 0 ≤ (S 1084 0) ∧ (S 1084 0) ≤ 3000 ∧ 0 ≤ (S 1086 0) ∧ sm_SC (S 1100029) (S 44) (S 45) (S 43) (S 21) (S 1076 0) (S 1032 0) ∧ sm_PO (S 42) (S 1076 0) ∧ (S 1100032 0) = -1 ∧ sm_FO (S 44) (S 45) (S 1076 0) ∧ 23 ≤ (S 1076 0) ∧ 31 ≤ (S 1007 0) ∧ (S 1007 0) ≤ 400 ∧ sm_LN (S 4) 400 (S 1007 0) ∧ sm_CT (S 26) (S 27) (S 28) (S 29) (S 1100007) (S 1100023) (S 1100024) (S 1100025) (S 21) (S 1046 0) (S 1032 0) (S 1008 0) (S 1055 0) ∧ sm_LS (S 26) (S 1100007) (S 1100025) (S 1046 0) ∧ sm_CL (S 1100007) (S 1100023) (S 1100025) (S 1046 0) ∧ 1 ≤ (S 1032 0) ∧ (S 1032 0) ≤ 11 ∧ 0 ≤ (S 1046 0) ∧ (S 1046 0) ≤ 600 ∧ 31 ≤ (S 1008 0) ∧ (S 1008 0) ≤ (S 1007 0) ∧ 0 ≤ (S 1055 0) ∧ (S 1055 0) ≤ 19 ∧ 1 ≤ (S 1092 0) ∧ (S 1092 0) ≤ 24 ∧ 0 ≤ (x5) ∧ (x5) < (S 1046 0) ∧ (S 29 (x5)) = (S 53 ((S 1092 0) - 1)) ∧ 0 ≤ (S 53 ((S 1092 0) - 1)) ∧ (S 53 ((S 1092 0) - 1)) < (S 1032 0) ∧ (S 60 ((S 1092 0) - 1)) = sm_dp (S 1100024) (S 1100023 (x5)) ∧ sm_TC (S 61) (S 62) (S 27) (S 1100007) (S 1100023) (S 1100024) (40 * ((S 1092 0) - 1)) (S 1100023 (x5)) ∧ sm_LK (S 1100029) (S 1076 0) (S 54 ((S 1092 0) - 1)) (S 53 ((S 1092 0) - 1)) ∧ sm_VO (S 44) (S 1076 0) (S 1007 0) ((S 55 ((S 1092 0) - 1))) ((S 56 ((S 1092 0) - 1))) ∧ sm_FW (S 44) (S 1076 0) (S 59 ((S 1092 0) - 1)) ∧ sm_FL (S 53) (S 54) (S 55) (S 56) (S 57) (S 58) (S 59) (S 60) (S 61) (S 62) (S 63) (S 64) (S 27) (S 29) (S 1100007) (S 1100023) (S 1100024) (S 1100025) (S 26) (S 1100029) (S 44) (S 1046 0) (S 1032 0) (S 1076 0) (S 1007 0) (((S 1092 0) - 1)) ∧ (S 57 ((S 1092 0) - 1)) = (x5) ∧ 0 ≤ (S 58 ((S 1092 0) - 1)) ∧ (S 58 ((S 1092 0) - 1)) ≤ 400 ∧ sm_SK (S 63) (S 64) (S 44) (S 1100007) (S 1100025) (S 1076 0) (S 1007 0) (400 * ((S 1092 0) - 1)) ((S 58 ((S 1092 0) - 1))) (((S 1100025 x5))) ∧ -1 ≤ ((S 1100025 x5)) ∧ ((S 1100025 x5)) < (S 1046 0) ∧ (0 ≤ ((S 1100025 x5)) → (S 26 ((S 1100025 x5))) = 29) ∧ 0 ≤ (1 : Int) ∧ (1 : Int) ≤ (S 58 ((S 1092 0) - 1)) ∧ (S 58 ((S 1092 0) - 1)) - (1 : Int) ≤ 399 ∧ sm_VO (S 44) (S 1076 0) (S 1007 0) ((g233 1111 0)) ((g233 1112 0)) ∧ (0 ≤ ((S 1100025 x5)) → (S 1100007 ((S 1100025 x5))) ≤ (S 58 ((S 1092 0) - 1)) - (1 : Int)) ∧ (x5) + 1 < (S 1046 0) ∧ (S 29 ((x5) + 1)) = (S 29 (x5)) ∧ (S 1100007 ((x5) + 1)) = (S 58 ((S 1092 0) - 1)) - (1 : Int) + 1 ∧ (S 1100023 ((x5) + 1)) = (S 1100023 (x5)) ∧ (S 1100025 ((x5) + 1)) = ((S 1100025 x5))) ∧ (¬ (S 1075 0) = 0 → sm_LX (S 58) (S 63) (S 64) (S 1092 0) (S 1076 0))) ∧ (∀ g239 : sv_S, (((S 1075 0) = 0 → (S 1073 0) = 1 → 1 ≤ (S 1092 0) ∧ (S 1092 0) ≤ 24 ∧ 0 ≤ (g239 57 ((S 1092 0) - 1)) ∧ (g239 57 ((S 1092 0) - 1)) < (S 1046 0) ∧ (S 29 (g239 57 ((S 1092 0) - 1))) = (S 53 ((S 1092 0) - 1)) ∧ 0 ≤ (S 53 ((S 1092 0) - 1)) ∧ (S 53 ((S 1092 0) - 1)) < (S 1032 0) ∧ (S 60 ((S 1092 0) - 1)) = sm_dp (S 1100024) (S 1100023 (g239 57 ((S 1092 0) - 1))) ∧ sm_TC (S 61) (S 62) (S 27) (S 1100007) (S 1100023) (S 1100024) (40 * ((S 1092 0) - 1)) (S 1100023 (g239 57 ((S 1092 0) - 1))) ∧ sm_LK (S 1100029) (S 1076 0) (S 54 ((S 1092 0) - 1)) (S 53 ((S 1092 0) - 1)) ∧ sm_VO (S 44) (S 1076 0) (S 1007 0) ((S 55 ((S 1092 0) - 1))) ((S 56 ((S 1092 0) - 1))) ∧ sm_FW (S 44) (S 1076 0) (S 59 ((S 1092 0) - 1)) ∧ sm_FL (S 53) (S 54) (S 55) (S 56) (g239 57) (g239 58) (S 59) (S 60) (S 61) (S 62) (g239 63) (g239 64) (S 27) (S 29) (S 1100007) (S 1100023) (S 1100024) (S 1100025) (S 26) (S 1100029) (S 44) (S 1046 0) (S 1032 0) (S 1076 0) (S 1007 0) (((S 1092 0) - 1)) ∧ (g239 58 ((S 1092 0) - 1)) = (S 1100007 (g239 57 ((S 1092 0) - 1))) ∧ sm_SK (g239 63) (g239 64) (S 44) (S 1100007) (S 1100025) (S 1076 0) (S 1007 0) (400 * ((S 1092 0) - 1)) ((g239 58 ((S 1092 0) - 1))) ((S 1100025 (g239 57 ((S 1092 0) - 1))))) ∧ (¬ (S 1075 0) = 0 → sm_LX (g239 58) (g239 63) (g239 64) (S 1092 0) (S 1076 0))) → (sm_PL (S 1100020) (S 51) (S 52) (S 46) (S 47) (S 1076 0) (S 1086 0) ∧ sm_FR (S 1100020) (S 52) (S 1100021) (S 1100022) (3000 - (S 1084 0)) (S 1085 0) ∧ sm_PV (S 1100020) (S 48) (S 49) (S 50) (S 44) (S 1076 0) (S 1007 0) ∧ sm_AL (S 1100020) (S 48) (S 49) (S 50) (S 44) (S 1076 0) (S 1100032 0) ∧ sm_SV (S 1100020) (S 48) (S 1100029) (S 32) (S 33) (S 1076 0) (S 1032 0) ∧ 0 ≤ (S 1076 0) ∧ (S 1076 0) ≤ 300 ∧ 0 ≤ (S 1084 0) ∧ (S 1084 0) ≤ 3000 ∧ 0 ≤ (S 1086 0) ∧ sm_SC (S 1100029) (S 44) (S 45) (S 43) (S 21) (S 1076 0) (S 1032 0) ∧ sm_PO (S 42) (S 1076 0) ∧ ((S 1075 0) = 0 → (S 1100032 0) = -1 ∧ sm_FO (S 44) (S 45) (S 1076 0)) ∧ 23 ≤ (S 1076 0) ∧ 31 ≤ (S 1007 0) ∧ (S 1007 0) ≤ 400 ∧ sm_LN (S 4) 400 (S 1007 0) ∧ (S 1008 0) ≤ (S 1007 0) ∧ ((S 1075 0) = 1 → (S 1075 0) = 1) ∧ 0 ≤ (S 1092 0) ∧ (S 1092 0) ≤ 24 ∧ (S 1007 0) ≤ (S 1007 0) ∧ (¬ (S 1075 0) = 0 → sm_LX (g239 58) (g239 63) (g239 64) (S 1092 0) (S 1076 0)) ∧ ((S 1075 0) = 0 → (S 1073 0) = 1 → 1 ≤ (S 1092 0) ∧ (S 1092 0) ≤ 24 ∧ 0 ≤ (g239 57 ((S 1092 0) - 1)) ∧ (g239 57 ((S 1092 0) - 1)) < (S 1046 0) ∧ (S 29 (g239 57 ((S 1092 0) - 1))) = (S 53 ((S 1092 0) - 1)) ∧ 0 ≤ (S 53 ((S 1092 0) - 1)) ∧ (S 53 ((S 1092 0) - 1)) < (S 1032 0) ∧ (S 60 ((S 1092 0) - 1)) = sm_dp (S 1100024) (S 1100023 (g239 57 ((S 1092 0) - 1))) ∧ sm_TC (S 61) (S 62) (S 27) (S 1100007) (S 1100023) (S 1100024) (40 * ((S 1092 0) - 1)) (S 1100023 (g239 57 ((S 1092 0) - 1))) ∧ sm_LK (S 1100029) (S 1076 0) (S 54 ((S 1092 0) - 1)) (S 53 ((S 1092 0) - 1)) ∧ sm_VO (S 44) (S 1076 0) (S 1007 0) ((S 55 ((S 1092 0) - 1))) ((S 56 ((S 1092 0) - 1))) ∧ sm_FW (S 44) (S 1076 0) (S 59 ((S 1092 0) - 1)) ∧ sm_FL (S 53) (S 54) (S 55) (S 56) (g239 57) (g239 58) (S 59) (S 60) (S 61) (S 62) (g239 63) (g239 64) (S 27) (S 29) (S 1100007) (S 1100023) (S 1100024) (S 1100025) (S 26) (S 1100029) (S 44) (S 1046 0) (S 1032 0) (S 1076 0) (S 1007 0) (((S 1092 0) - 1)) ∧ (g239 58 ((S 1092 0) - 1)) = (S 1100007 (g239 57 ((S 1092 0) - 1))) ∧ sm_SK (g239 63) (g239 64) (S 44) (S 1100007) (S 1100025) (S 1076 0) (S 1007 0) (400 * ((S 1092 0) - 1)) ((g239 58 ((S 1092 0) - 1))) ((S 1100025 (g239 57 ((S 1092 0) - 1))))) ∧ ((S 1073 0) = 1 ∨ (S 1092 0) = 0 ∧ (S 1075 0) = 0 ∧ ((S 1073 0) = 2 ∨ (S 1073 0) = 3)) ∧ (S 1086 0) ≤ (S 1086 0) ∧ (S 1086 0) ≤ (S 1086 0) + 110 ∧ 0 ≤ (S 1107 0) ∧ (S 1107 0) ≤ 100 ∧ sm_PT (S 67) (S 1107 0) (S 1007 0)))) ∧ ((sm_CT (S 26) (S 27) (S 28) (S 29) (S 1100007) (S 1100023) (S 1100024) (S 1100025) (S 21) (S 1046 0) (S 1032 0) (S 1008 0) (S 1055 0) → 0 ≤ (x5) → (x5) < (S 1046 0) → ((S 26 (x5)) = 13 → (0 ≤ (S 27 (x5)) ∧ (S 27 (x5)) ≤ 4) ∧ (0 ≤ ((S 1100007 (x5)) - 1) ∧ (0 ≤ (S 1100023 (x5)) → (S 1100007 (S 1100023 (x5))) ≤ ((S 1100007 (x5)) - 1)) ∧ (0 ≤ (S 1100025 (x5)) → (S 1100007 (S 1100025 (x5))) ≤ ((S 1100007 (x5)) - 1))) ∧ (0 ≤ ((x5) + 1) ∧ ((x5) + 1) < (S 1046 0) ∧ (S 29 ((x5) + 1)) = ((S 29 (x5))) ∧ (S 1100007 ((x5) + 1)) = ((S 1100007 (x5))) ∧ (S 1100023 ((x5) + 1)) = ((S 1100023 (x5))) ∧ (S 1100025 ((x5) + 1)) = ((S 1100025 (x5)))))) → ((sm_SK (S 63) (S 64) (S 44) (S 1100007) (S 1100025) (S 1076 0) (S 1007 0) (400 * ((S 1092 0) - 1)) ((S 58 ((S 1092 0) - 1))) (((S 1100025 x5))) → sm_LS (S 26) (S 1100007) (S 1100025) (S 1046 0) → 0 ≤ (S 58 ((S 1092 0) - 1)) - 1 → (S 58 ((S 1092 0) - 1)) - 1 < (S 58 ((S 1092 0) - 1)) → ((S 1100025 x5)) < (S 1046 0) → ((S 1100025 x5)) = (S 1100025 (x5)) → (S 58 ((S 1092 0) - 1)) = (S 1100007 (x5)) → (0 ≤ ((S 1100025 x5)) → (S 26 ((S 1100025 x5))) = 29) → (0 ≤ (S 1100025 (x5)) → (S 1100007 (S 1100025 (x5))) ≤ (S 1100007 (x5)) - 1) → sm_VO (S 44) (S 1076 0) (S 1007 0) ((S 63 ((400 * ((S 1092 0) - 1) + (S 58 ((S 1092 0) - 1))) - 1 - (0 : Int)))) ((S 64 ((400 * ((S 1092 0) - 1) + (S 58 ((S 1092 0) - 1))) - 1 - (0 : Int))))) → (((¬ (S 27 x5) = (4 : Int)) → (1 ≤ (S 1092 0) ∧ (S 1092 0) ≤ 24 ∧ 0 ≤ (S 58 ((S 1092 0) - 1)) ∧ (S 58 ((S 1092 0) - 1)) ≤ 400 ∧ 0 ≤ (0 : Int) ∧ (0 : Int) < (S 58 ((S 1092 0) - 1))) ∧ (31 ≤ (S 1007 0) ∧ (S 1007 0) ≤ 400 ∧ sm_LN (S 4) 400 (S 1007 0) ∧ (((S 63 ((400 * ((S 1092 0) - 1) + (S 58 ((S 1092 0) - 1))) - 1 - (0 : Int)))) = 6 → 0 ≤ ((S 64 ((400 * ((S 1092 0) - 1) + (S 58 ((S 1092 0) - 1))) - 1 - (0 : Int)))) ∧ ((S 64 ((400 * ((S 1092 0) - 1) + (S 58 ((S 1092 0) - 1))) - 1 - (0 : Int)))) < 400)) ∧ (∀ g249 : sv_S, (2 ≤ (g249 1111 0) ∧ (g249 1111 0) ≤ 5) → (sm_VO (S 44) (S 1076 0) (S 1007 0) ((g249 1111 0)) ((g249 1112 0))))) ∧ ((¬ (¬ (S 27 x5) = (4 : Int))) → (1 ≤ (S 1092 0) ∧ (S 1092 0) ≤ 24 ∧ 0 ≤ (S 58 ((S 1092 0) - 1)) ∧ (S 58 ((S 1092 0) - 1)) ≤ 400 ∧ 0 ≤ (0 : Int) ∧ (0 : Int) < (S 58 ((S 1092 0) - 1))) ∧ ((((S 63 ((400 * ((S 1092 0) - 1) + (S 58 ((S 1092 0) - 1))) - 1 - (0 : Int)))) = 7 → 0 ≤ ((S 64 ((400 * ((S 1092 0) - 1) + (S 58 ((S 1092 0) - 1))) - 1 - (0 : Int)))) ∧ ((S 64 ((400 * ((S 1092 0) - 1) + (S 58 ((S 1092 0) - 1))) - 1 - (0 : Int)))) < 300) ∧ 0 ≤ ((S 63 ((400 * ((S 1092 0) - 1) + (S 58 ((S 1092 0) - 1))) - 1 - (0 : Int)))) ∧ ((S 63 ((400 * ((S 1092 0) - 1) + (S 58 ((S 1092 0) - 1))) - 1 - (0 : Int)))) ≤ 7) ∧ (∀ r261 : Int, sv_R r261 → (19 ≤ r261 ∧ r261 ≤ 24) → (∀ g262 : sv_S, ((g262 1111 0) = (6 : Int) ∧ (g262 1112 0) = r261) → (sm_VO (S 44) (S 1076 0) (S 1007 0) ((g262 1111 0)) ((g262 1112 0))))))))))))) ∧ (((S 26 x5) = (14 : Int)) → ((sm_CT (S 26) (S 27) (S 28) (S 29) (S 1100007) (S 1100023) (S 1100024) (S 1100025) (S 21) (S 1046 0) (S 1032 0) (S 1008 0) (S 1055 0) → 0 ≤ (x5) → (x5) < (S 1046 0) → ((S 26 (x5)) = 14 → (0 ≤ (S 27 (x5)) ∧ (S 27 (x5)) ≤ 20) ∧ (0 ≤ ((S 1100007 (x5)) - 2) ∧ (0 ≤ (S 1100023 (x5)) → (S 1100007 (S 1100023 (x5))) ≤ ((S 1100007 (x5)) - 2)) ∧ (0 ≤ (S 1100025 (x5)) → (S 1100007 (S 1100025 (x5))) ≤ ((S 1100007 (x5)) - 2))) ∧ (0 ≤ ((x5) + 1) ∧ ((x5) + 1) < (S 1046 0) ∧ (S 29 ((x5) + 1)) = ((S 29 (x5))) ∧ (S 1100007 ((x5) + 1)) = ((S 1100007 (x5)) - 1) ∧ (S 1100023 ((x5) + 1)) = ((S 1100023 (x5))) ∧ (S 1100025 ((x5) + 1)) = ((S 1100025 (x5)))))) → ((S 1075 0) = 0 ∧ (S 1073 0) = 1 ∧ sm_LX (S 58) (S 63) (S 64) (S 1092 0) (S 1076 0) ∧ sm_PL (S 1100020) (S 51) (S 52) (S 46) (S 47) (S 1076 0) (S 1086 0) ∧ sm_FR (S 1100020) (S 52) (S 1100021) (S 1100022) (3000 - (S 1084 0)) (S 1085 0) ∧ sm_PV (S 1100020) (S 48) (S 49) (S 50) (S 44) (S 1076 0) (S 1007 0) ∧ sm_AL (S 1100020) (S 48) (S 49) (S 50) (S 44) (S 1076 0) (S 1100032 0) ∧ sm_SV (S 1100020) (S 48) (S 1100029) (S 32) (S 33) (S 1076 0) (S 1032 0) ∧ 0 ≤ (S 1076 0) ∧ (S 1076 0) ≤ 300 ∧ 0 ≤ (S 1084 0) ∧ (S 1084 0) ≤ 3000 ∧ 0 ≤ (S 1086 0) ∧ sm_SC (S 1100029) (S 44) (S 45) (S 43) (S 21) (S 1076 0) (S 1032 0) ∧ sm_PO (S 42) (S 1076 0) ∧ (S 1100032 0) = -1 ∧ sm_FO (S 44) (S 45) (S 1076 0) ∧ 23 ≤ (S 1076 0) ∧ 31 ≤ (S 1007 0) ∧ (S 1007 0) ≤ 400 ∧ sm_LN (S 4) 400 (S 1007 0) ∧ sm_CT (S 26) (S 27) (S 28) (S 29) (S 1100007) (S 1100023) (S 1100024) (S 1100025) (S 21) (S 1046 0) (S 1032 0) (S 1008 0) (S 1055 0) ∧ sm_LS (S 26) (S 1100007) (S 1100025) (S 1046 0) ∧ sm_CL (S 1100007) (S 1100023) (S 1100025) (S 1046 0) ∧ 1 ≤ (S 1032 0) ∧ (S 1032 0) ≤ 11 ∧ 0 ≤ (S 1046 0) ∧ (S 1046 0) ≤ 600 ∧ 31 ≤ (S 1008 0) ∧ (S 1008 0) ≤ (S 1007 0) ∧ 0 ≤ (S 1055 0) ∧ (S 1055 0) ≤ 19 ∧ 1 ≤ (S 1092 0) ∧ (S 1092 0) ≤ 24 ∧ 0 ≤ (x5) ∧ (x5) < (S 1046 0) ∧ (S 29 (x5)) = (S 53 ((S 1092 0) - 1)) ∧ 0 ≤ (S 53 ((S 1092 0) - 1)) ∧ (S 53 ((S 1092 0) - 1)) < (S 1032 0) ∧ (S 60 ((S 1092 0) - 1)) = sm_dp (S 1100024) (S 1100023 (x5)) ∧ sm_TC (S 61) (S 62) (S 27) (S 1100007) (S 1100023) (S 1100024) (40 * ((S 1092 0) - 1)) (S 1100023 (x5)) ∧ sm_LK (S 1100029) (S 1076 0) (S 54 ((S 1092 0) - 1)) (S 53 ((S 1092 0) - 1)) ∧ sm_VO (S 44) (S 1076 0) (S 1007 0) ((S 55 ((S 1092 0) - 1))) ((S 56 ((S 1092 0) - 1))) ∧ sm_FW (S 44) (S 1076 0) (S 59 ((S 1092 0) - 1)) ∧ sm_FL (S 53) (S 54) (S 55) (S 56) (S 57) (S 58) (S 59) (S 60) (S 61) (S 62) (S 63) (S 64) (S 27) (S 29) (S 1100007) (S 1100023) (S 1100024) (S 1100025) (S 26) (S 1100029) (S 44) (S 1046 0) (S 1032 0) (S 1076 0) (S 1007 0) (((S 1092 0) - 1)) ∧ (S 57 ((S 1092 0) - 1)) = (x5) ∧ 0 ≤ (S 58 ((S 1092 0) - 1)) ∧ (S 58 ((S 1092 0) - 1)) ≤ 400 ∧ sm_SK (S 63) (S 64) (S 44) (S 1100007) (S 1100025) (S 1076 0) (S 1007 0) (400 * ((S 1092 0) - 1)) ((S 58 ((S 1092 0) - 1))) (((S 1100025 x5))) ∧ -1 ≤ ((S 1100025 x5)) ∧ ((S 1100025 x5)) < (S 1046 0) ∧ (0 ≤ ((S 1100025 x5)) → (S 26 ((S 1100025 x5))) = 29) ∧ (S 58 ((S 1092 0) - 1)) = (S 1100007 (x5)) ∧ ((S 1100025 x5)) = (S 1100025 (x5)) ∧ (0 ≤ (S 1100023 (x5)) → (S 1100007 (S 1100023 (x5))) ≤ (S 58 ((S 1092 0) - 1))) ∧ (S 58 ((S 1092 0) - 1)) ≤ 396 ∧ 2 ≤ (S 58 ((S 1092 0) - 1)) ∧ (0 ≤ ((S 1100025 x5)) → (S 1100007 ((S 1100025 x5))) ≤ (S 58 ((S 1092 0) - 1)) - 2) ∧ (x5) + 1 < (S 1046 0) ∧ (S 29 ((x5) + 1)) = (S 29 (x5)) ∧ (S 1100007 ((x5) + 1)) = (S 58 ((S 1092 0) - 1)) + (-1) ∧ (S 1100023 ((x5) + 1)) = (S 1100023 (x5)) ∧ (S 1100025 ((x5) + 1)) = ((S 1100025 x5)) ∧ 0 ≤ (S 27 x5) ∧ (S 27 x5) ≤ 20) ∧ (∀ g270 : sv_S, (sm_PL (S 1100020) (S 51) (S 52) (g270 46) (g270 47) (g270 1076 0) (S 1086 0) ∧ sm_FR (S 1100020) (S 52) (S 1100021) (S 1100022) (3000 - (S 1084 0)) (S 1085 0) ∧ sm_PV (S 1100020) (S 48) (S 49) (S 50) (g270 44) (g270 1076 0) (g270 1007 0) ∧ sm_AL (S 1100020) (S 48) (S 49) (S 50) (g270 44) (g270 1076 0) (S 1100032 0) ∧ sm_SV (S 1100020) (S 48) (g270 1100029) (S 32) (S 33) (g270 1076 0) (S 1032 0) ∧ 0 ≤ (g270 1076 0) ∧ (g270 1076 0) ≤ 300 ∧ 0 ≤ (S 1084 0) ∧ (S 1084 0) ≤ 3000 ∧ 0 ≤ (S 1086 0) ∧ sm_SC (g270 1100029) (g270 44) (g270 45) (g270 43) (S 21) (g270 1076 0) (S 1032 0) ∧ sm_PO (g270 42) (g270 1076 0) ∧ ((g270 1075 0) = 0 → (S 1100032 0) = -1 ∧ sm_FO (g270 44) (g270 45) (g270 1076 0)) ∧ 23 ≤ (g270 1076 0) ∧ 31 ≤ (g270 1007 0) ∧ (g270 1007 0) ≤ 400 ∧ sm_LN (g270 4) 400 (g270 1007 0) ∧ (S 1008 0) ≤ (g270 1007 0) ∧ ((S 1075 0) = 1 → (g270 1075 0) = 1) ∧ 0 ≤ (g270 1092 0) ∧ (g270 1092 0) ≤ 24 ∧ (S 1007 0) ≤ (g270 1007 0) ∧ (¬ (g270 1075 0) = 0 → sm_LX (g270 58) (g270 63) (g270 64) (g270 1092 0) (g270 1076 0)) ∧ ((g270 1075 0) = 0 → (g270 1073 0) = 1 → 1 ≤ (g270 1092 0) ∧ (g270 1092 0) ≤ 24 ∧ 0 ≤ (g270 57 ((g270 1092 0) - 1)) ∧ (g270 57 ((g270 1092 0) - 1)) < (S 1046 0) ∧ (S 29 (g270 57 ((g270 1092 0) - 1))) = (S 53 ((g270 1092 0) - 1)) ∧ 0 ≤ (S 53 ((g270 1092 0) - 1)) ∧ (S 53 ((g270 1092 0) - 1)) < (S 1032 0) ∧ (g270 60 ((g270 1092 0) - 1)) = sm_dp (S 1100024) (S 1100023 (g270 57 ((g270 1092 0) - 1))) ∧ sm_TC (S 61) (S 62) (S 27) (S 1100007) (S 1100023) (S 1100024) (40 * ((g270 1092 0) - 1)) (S 1100023 (g270 57 ((g270 1092 0) - 1))) ∧ sm_LK (g270 1100029) (g270 1076 0) (S 54 ((g270 1092 0) - 1)) (S 53 ((g270 1092 0) - 1)) ∧ sm_VO (g270 44) (g270 1076 0) (g270 1007 0) ((S 55 ((g270 1092 0) - 1))) ((S 56 ((g270 1092 0) - 1))) ∧ sm_FW (g270 44) (g270 1076 0) (S 59 ((g270 1092 0) - 1)) ∧ sm_FL (S 53) (S 54) (S 55) (S 56) (g270 57) (g270 58) (S 59) (g270 60) (S 61) (S 62) (g270 63) (g270 64) (S 27) (S 29) (S 1100007) (S 1100023) (S 1100024) (S 1100025) (S 26) (g270 1100029) (g270 44) (S 1046 0) (S 1032 0) (g270 1076 0) (g270 1007 0) (((g270 1092 0) - 1)) ∧ (g270 58 ((g270 1092 0) - 1)) = (S 1100007 (g270 57 ((g270 1092 0) - 1))) ∧ sm_SK (g270 63) (g270 64) (g270 44) (S 1100007) (S 1100025) (g270 1076 0) (g270 1007 0) (400 * ((g270 1092 0) - 1)) ((g270 58 ((g270 1092 0) - 1))) ((S 1100025 (g270 57 ((g270 1092 0) - 1))))) ∧ ((g270 1073 0) = 1 ∨ (g270 1092 0) = 0 ∧ (g270 1075 0) = 0 ∧ ((g270 1073 0) = 2 ∨ (g270 1073 0) = 3))) → (sm_PL (S 1100020) (S 51) (S 52) (g270 46) (g270 47) (g270 1076 0) (S 1086 0) ∧ sm_FR (S 1100020) (S 52) (S 1100021) (S 1100022) (3000 - (S 1084 0)) (S 1085 0) ∧ sm_PV (S 1100020) (S 48) (S 49) (S 50) (g270 44) (g270 1076 0) (g270 1007 0) ∧ sm_AL (S 1100020) (S 48) (S 49) (S 50) (g270 44) (g270 1076 0) (S 1100032 0) ∧ sm_SV (S 1100020) (S 48) (g270 1100029) (S 32) (S 33) (g270 1076 0) (S 1032 0) ∧ 0 ≤ (g270 1076 0) ∧ (g270 1076 0) ≤ 300 ∧ 0 ≤ (S 1084 0) ∧ (S 1084 0) ≤ 3000 ∧ 0 ≤ (S 1086 0) ∧ sm_SC (g270 1100029) (g270 44) (g270 45) (g270 43) (S 21) (g270 1076 0) (S 1032 0) ∧ sm_PO (g270 42) (g270 1076 0) ∧ ((g270 1075 0) = 0 → (S 1100032 0) = -1 ∧ sm_FO (g270 44) (g270 45) (g270 1076 0)) ∧ 23 ≤ (g270 1076 0) ∧ 31 ≤ (g270 1007 0) ∧ (g270 1007 0) ≤ 400 ∧ sm_LN (g270 4) 400 (g270 1007 0) ∧ (S 1008 0) ≤ (g270 1007 0) ∧ ((S 1075 0) = 1 → (g270 1075 0) = 1) ∧ 0 ≤ (g270 1092 0) ∧ (g270 1092 0) ≤ 24 ∧ (S 1007 0) ≤ (g270 1007 0) ∧ (¬ (g270 1075 0) = 0 → sm_LX (g270 58) (g270 63) (g270 64) (g270 1092 0) (g270 1076 0)) ∧ ((g270 1075 0) = 0 → (g270 1073 0) = 1 → 1 ≤ (g270 1092 0) ∧ (g270 1092 0) ≤ 24 ∧ 0 ≤ (g270 57 ((g270 1092 0) - 1)) ∧ (g270 57 ((g270 1092 0) - 1)) < (S 1046 0) ∧ (S 29 (g270 57 ((g270 1092 0) - 1))) = (S 53 ((g270 1092 0) - 1)) ∧ 0 ≤ (S 53 ((g270 1092 0) - 1)) ∧ (S 53 ((g270 1092 0) - 1)) < (S 1032 0) ∧ (g270 60 ((g270 1092 0) - 1)) = sm_dp (S 1100024) (S 1100023 (g270 57 ((g270 1092 0) - 1))) ∧ sm_TC (S 61) (S 62) (S 27) (S 1100007) (S 1100023) (S 1100024) (40 * ((g270 1092 0) - 1)) (S 1100023 (g270 57 ((g270 1092 0) - 1))) ∧ sm_LK (g270 1100029) (g270 1076 0) (S 54 ((g270 1092 0) - 1)) (S 53 ((g270 1092 0) - 1)) ∧ sm_VO (g270 44) (g270 1076 0) (g270 1007 0) ((S 55 ((g270 1092 0) - 1))) ((S 56 ((g270 1092 0) - 1))) ∧ sm_FW (g270 44) (g270 1076 0) (S 59 ((g270 1092 0) - 1)) ∧ sm_FL (S 53) (S 54) (S 55) (S 56) (g270 57) (g270 58) (S 59) (g270 60) (S 61) (S 62) (g270 63) (g270 64) (S 27) (S 29) (S 1100007) (S 1100023) (S 1100024) (S 1100025) (S 26) (g270 1100029) (g270 44) (S 1046 0) (S 1032 0) (g270 1076 0) (g270 1007 0) (((g270 1092 0) - 1)) ∧ (g270 58 ((g270 1092 0) - 1)) = (S 1100007 (g270 57 ((g270 1092 0) - 1))) ∧ sm_SK (g270 63) (g270 64) (g270 44) (S 1100007) (S 1100025) (g270 1076 0) (g270 1007 0) (400 * ((g270 1092 0) - 1)) ((g270 58 ((g270 1092 0) - 1))) ((S 1100025 (g270 57 ((g270 1092 0) - 1))))) ∧ ((g270 1073 0) = 1 ∨ (g270 1092 0) = 0 ∧ (g270 1075 0) = 0 ∧ ((g270 1073 0) = 2 ∨ (g270 1073 0) = 3)) ∧ (S 1086 0) ≤ (S 1086 0) ∧ (S 1086 0) ≤ (S 1086 0) + 110 ∧ 0 ≤ (S 1107 0) ∧ (S 1107 0) ≤ 100 ∧ sm_PT (S 67) (S 1107 0) (g270 1007 0))))) ∧ (((S 26 x5) = (15 : Int)) → ((sm_CT (S 26) (S 27) (S 28) (S 29) (S 1100007) (S 1100023) (S 1100024) (S 1100025) (S 21) (S 1046 0) (S 1032 0) (S 1008 0) (S 1055 0) → 0 ≤ (x5) → (x5) < (S 1046 0) → ((S 26 (x5)) = 15 → (0 ≤ (S 27 (x5)) ∧ (S 27 (x5)) ≤ 8) ∧ (0 ≤ ((S 1100007 (x5)) - (S 27 (x5)) - 2) ∧ (0 ≤ (S 1100023 (x5)) → (S 1100007 (S 1100023 (x5))) ≤ ((S 1100007 (x5)) - (S 27 (x5)) - 2)) ∧ (0 ≤ (S 1100025 (x5)) → (S 1100007 (S 1100025 (x5))) ≤ ((S 1100007 (x5)) - (S 27 (x5)) - 2))) ∧ (0 ≤ ((x5) + 1) ∧ ((x5) + 1) < (S 1046 0) ∧ (S 29 ((x5) + 1)) = ((S 29 (x5))) ∧ (S 1100007 ((x5) + 1)) = ((S 1100007 (x5)) - (S 27 (x5)) - 1) ∧ (S 1100023 ((x5) + 1)) = ((S 1100023 (x5))) ∧ (S 1100025 ((x5) + 1)) = ((S 1100025 (x5)))))) → (0 ≤ (S 27 x5) ∧ (S 27 x5) ≤ 8 ∧ (S 1075 0) = 0 ∧ (S 1073 0) = 1 ∧ sm_LX (S 58) (S 63) (S 64) (S 1092 0) (S 1076 0) ∧ sm_PL (S 1100020) (S 51) (S 52) (S 46) (S 47) (S 1076 0) (S 1086 0) ∧ sm_FR (S 1100020) (S 52) (S 1100021) (S 1100022) (3000 - (S 1084 0)) (S 1085 0) ∧ sm_PV (S 1100020) (S 48) (S 49) (S 50) (S 44) (S 1076 0) (S 1007 0) ∧ sm_AL (S 1100020) (S 48) (S 49) (S 50) (S 44) (S 1076 0) (S 1100032 0) ∧ sm_SV (S 1100020) (S 48) (S 1100029) (S 32) (S 33) (S 1076 0) (S 1032 0) ∧ 0 ≤ (S 1076 0) ∧ (S 1076 0) ≤ 300 ∧ 0 ≤ (S 1084 0) ∧ (S 1084 0) ≤ 3000 ∧ 0 ≤ (S 1086 0) ∧ sm_SC (S 1100029) (S 44) (S 45) (S 43) (S 21) (S 1076 0) (S 1032 0) ∧ sm_PO (S 42) (S 1076 0) ∧ (S 1100032 0) = -1 ∧ sm_FO (S 44) (S 45) (S 1076 0) ∧ 23 ≤ (S 1076 0) ∧ 31 ≤ (S 1007 0) ∧ (S 1007 0) ≤ 400 ∧ sm_LN (S 4) 400 (S 1007 0) ∧ sm_CT (S 26) (S 27) (S 28) (S 29) (S 1100007) (S 1100023) (S 1100024) (S 1100025) (S 21) (S 1046 0) (S 1032 0) (S 1008 0) (S 1055 0) ∧ sm_LS (S 26) (S 1100007) (S 1100025) (S 1046 0) ∧ sm_CL (S 1100007) (S 1100023) (S 1100025) (S 1046 0) ∧ 1 ≤ (S 1032 0) ∧ (S 1032 0) ≤ 11 ∧ 0 ≤ (S 1046 0) ∧ (S 1046 0) ≤ 600 ∧ 31 ≤ (S 1008 0) ∧ (S 1008 0) ≤ (S 1007 0) ∧ 0 ≤ (S 1055 0) ∧ (S 1055 0) ≤ 19 ∧ 1 ≤ (S 1092 0) ∧ (S 1092 0) ≤ 24 ∧ 0 ≤ (x5) ∧ (x5) < (S 1046 0) ∧ (S 29 (x5)) = (S 53 ((S 1092 0) - 1)) ∧ 0 ≤ (S 53 ((S 1092 0) - 1)) ∧ (S 53 ((S 1092 0) - 1)) < (S 1032 0) ∧ (S 60 ((S 1092 0) - 1)) = sm_dp (S 1100024) (S 1100023 (x5)) ∧ sm_TC (S 61) (S 62) (S 27) (S 1100007) (S 1100023) (S 1100024) (40 * ((S 1092 0) - 1)) (S 1100023 (x5)) ∧ sm_LK (S 1100029) (S 1076 0) (S 54 ((S 1092 0) - 1)) (S 53 ((S 1092 0) - 1)) ∧ sm_VO (S 44) (S 1076 0) (S 1007 0) ((S 55 ((S 1092 0) - 1))) ((S 56 ((S 1092 0) - 1))) ∧ sm_FW (S 44) (S 1076 0) (S 59 ((S 1092 0) - 1)) ∧ sm_FL (S 53) (S 54) (S 55) (S 56) (S 57) (S 58) (S 59) (S 60) (S 61) (S 62) (S 63) (S 64) (S 27) (S 29) (S 1100007) (S 1100023) (S 1100024) (S 1100025) (S 26) (S 1100029) (S 44) (S 1046 0) (S 1032 0) (S 1076 0) (S 1007 0) (((S 1092 0) - 1)) ∧ (S 57 ((S 1092 0) - 1)) = (x5) ∧ 0 ≤ (S 58 ((S 1092 0) - 1)) ∧ (S 58 ((S 1092 0) - 1)) ≤ 400 ∧ sm_SK (S 63) (S 64) (S 44) (S 1100007) (S 1100025) (S 1076 0) (S 1007 0) (400 * ((S 1092 0) - 1)) ((S 58 ((S 1092 0) - 1))) (((S 1100025 x5))) ∧ -1 ≤ ((S 1100025 x5)) ∧ ((S 1100025 x5)) < (S 1046 0) ∧ (0 ≤ ((S 1100025 x5)) → (S 26 ((S 1100025 x5))) = 29) ∧ (S 58 ((S 1092 0) - 1)) = (S 1100007 (x5)) ∧ ((S 1100025 x5)) = (S 1100025 (x5)) ∧ (0 ≤ (S 1100023 (x5)) → (S 1100007 (S 1100023 (x5))) ≤ (S 58 ((S 1092 0) - 1))) ∧ (S 58 ((S 1092 0) - 1)) ≤ 396 ∧ 1 ≤ ((S 27 x5) + 2) ∧ ((S 27 x5) + 2) ≤ (S 58 ((S 1092 0) - 1)) ∧ (0 ≤ ((S 1100025 x5)) → (S 1100007 ((S 1100025 x5))) ≤ (S 58 ((S 1092 0) - 1)) - ((S 27 x5) + 2)) ∧ (x5) + 1 < (S 1046 0) ∧ (S 29 ((x5) + 1)) = (S 29 (x5)) ∧ (S 1100007 ((x5) + 1)) = (S 58 ((S 1092 0) - 1)) + 1 - ((S 27 x5) + 2) ∧ (S 1100023 ((x5) + 1)) = (S 1100023 (x5)) ∧ (S 1100025 ((x5) + 1)) = ((S 1100025 x5)) ∧ (0 ≤ (S 1100023 (x5)) → (S 1100007 (S 1100023 (x5))) ≤ (S 58 ((S 1092 0) - 1)) - ((S 27 x5) + 2)) ∧ (∀ g : Int, 0 ≤ g → g < (S 1032 0) → 0 ≤ (S 30 g) ∧ (S 30 g) < (S 1046 0) ∧ (S 1100007 (S 30 g)) = 0 ∧ (S 1100023 (S 30 g)) = -1 ∧ 0 ≤ (S 33 g) ∧ (S 33 g) ≤ 100 ∧ 0 ≤ (S 20 g) ∧ (S 20 g) ≤ 8) ∧ sm_VN (S 32) (S 33) (S 1032 0) (S 1008 0) ∧ (∀ f : Int, 0 ≤ f → f < (S 1032 0) → 0 ≤ (S 30 f) ∧ (S 30 f) < (S 1046 0) ∧ (S 29 (S 30 f)) = f ∧ (S 1100007 (S 30 f)) = 0 ∧ (S 1100023 (S 30 f)) = -1 ∧ (S 1100025 (S 30 f)) = -1) ∧ (S 1086 0) ≤ 1900000000 ∧ 0 ≤ (S 1107 0) ∧ (S 1107 0) ≤ 100 ∧ sm_PT (S 67) (S 1107 0) (S 1007 0)) ∧ (∀ g277 : sv_S, (sm_PL (g277 1100020) (g277 51) (g277 52) (g277 46) (g277 47) (g277 1076 0) (g277 1086 0) ∧ sm_FR (g277 1100020) (g277 52) (g277 1100021) (g277 1100022) (3000 - (g277 1084 0)) (g277 1085 0) ∧ sm_PV (g277 1100020) (g277 48) (g277 49) (g277 50) (g277 44) (g277 1076 0) (g277 1007 0) ∧ sm_AL (g277 1100020) (g277 48) (g277 49) (g277 50) (g277 44) (g277 1076 0) (g277 1100032 0) ∧ sm_SV (g277 1100020) (g277 48) (g277 1100029) (S 32) (S 33) (g277 1076 0) (S 1032 0) ∧ 0 ≤ (g277 1076 0) ∧ (g277 1076 0) ≤ 300 ∧ 0 ≤ (g277 1084 0) ∧ (g277 1084 0) ≤ 3000 ∧ 0 ≤ (g277 1086 0) ∧ sm_SC (g277 1100029) (g277 44) (g277 45) (g277 43) (S 21) (g277 1076 0) (S 1032 0) ∧ sm_PO (g277 42) (g277 1076 0) ∧ ((g277 1075 0) = 0 → (g277 1100032 0) = -1 ∧ sm_FO (g277 44) (g277 45) (g277 1076 0)) ∧ 23 ≤ (g277 1076 0) ∧ 31 ≤ (g277 1007 0) ∧ (g277 1007 0) ≤ 400 ∧ sm_LN (g277 4) 400 (g277 1007 0) ∧ (S 1008 0) ≤ (g277 1007 0) ∧ ((S 1075 0) = 1 → (g277 1075 0) = 1) ∧ 0 ≤ (g277 1092 0) ∧ (g277 1092 0) ≤ 24 ∧ (S 1007 0) ≤ (g277 1007 0) ∧ (¬ (g277 1075 0) = 0 → sm_LX (g277 58) (g277 63) (g277 64) (g277 1092 0) (g277 1076 0)) ∧ ((g277 1075 0) = 0 → (g277 1073 0) = 1 → 1 ≤ (g277 1092 0) ∧ (g277 1092 0) ≤ 24 ∧ 0 ≤ (g277 57 ((g277 1092 0) - 1)) ∧ (g277 57 ((g277 1092 0) - 1)) < (S 1046 0) ∧ (S 29 (g277 57 ((g277 1092 0) - 1))) = (g277 53 ((g277 1092 0) - 1)) ∧ 0 ≤ (g277 53 ((g277 1092 0) - 1)) ∧ (g277 53 ((g277 1092 0) - 1)) < (S 1032 0) ∧ (g277 60 ((g277 1092 0) - 1)) = sm_dp (S 1100024) (S 1100023 (g277 57 ((g277 1092 0) - 1))) ∧ sm_TC (S 61) (S 62) (S 27) (S 1100007) (S 1100023) (S 1100024) (40 * ((g277 1092 0) - 1)) (S 1100023 (g277 57 ((g277 1092 0) - 1))) ∧ sm_LK (g277 1100029) (g277 1076 0) (g277 54 ((g277 1092 0) - 1)) (g277 53 ((g277 1092 0) - 1)) ∧ sm_VO (g277 44) (g277 1076 0) (g277 1007 0) ((g277 55 ((g277 1092 0) - 1))) ((g277 56 ((g277 1092 0) - 1))) ∧ sm_FW (g277 44) (g277 1076 0) (g277 59 ((g277 1092 0) - 1)) ∧ sm_FL (g277 53) (g277 54) (g277 55) (g277 56) (g277 57) (g277 58) (g277 59) (g277 60) (S 61) (S 62) (g277 63) (g277 64) (S 27) (S 29) (S 1100007) (S 1100023) (S 1100024) (S 1100025) (S 26) (g277 1100029) (g277 44) (S 1046 0) (S 1032 0) (g277 1076 0) (g277 1007 0) (((g277 1092 0) - 1)) ∧ (g277 58 ((g277 1092 0) - 1)) = (S 1100007 (g277 57 ((g277 1092 0) - 1))) ∧ sm_SK (g277 63) (g277 64) (g277 44) (S 1100007) (S 1100025) (g277 1076 0) (g277 1007 0) (400 * ((g277 1092 0) - 1)) ((g277 58 ((g277 1092 0) - 1))) ((S 1100025 (g277 57 ((g277 1092 0) - 1))))) ∧ ((g277 1073 0) = 1 ∨ (g277 1092 0) = 0 ∧ (g277 1075 0) = 0 ∧ ((g277 1073 0) = 2 ∨ (g277 1073 0) = 3)) ∧ (S 1086 0) ≤ (g277 1086 0) ∧ (g277 1086 0) ≤ (S 1086 0) + 110 ∧ 0 ≤ (g277 1107 0) ∧ (g277 1107 0) ≤ 100 ∧ sm_PT (g277 67) (g277 1107 0) (g277 1007 0)) → (sm_PL (g277 1100020) (g277 51) (g277 52) (g277 46) (g277 47) (g277 1076 0) (g277 1086 0) ∧ sm_FR (g277 1100020) (g277 52) (g277 1100021) (g277 1100022) (3000 - (g277 1084 0)) (g277 1085 0) ∧ sm_PV (g277 1100020) (g277 48) (g277 49) (g277 50) (g277 44) (g277 1076 0) (g277 1007 0) ∧ sm_AL (g277 1100020) (g277 48) (g277 49) (g277 50) (g277 44) (g277 1076 0) (g277 1100032 0) ∧ sm_SV (g277 1100020) (g277 48) (g277 1100029) (S 32) (S 33) (g277 1076 0) (S 1032 0) ∧ 0 ≤ (g277 1076 0) ∧ (g277 1076 0) ≤ 300 ∧ 0 ≤ (g277 1084 0) ∧ (g277 1084 0) ≤ 3000 ∧ 0 ≤ (g277 1086 0) ∧ sm_SC (g277 1100029) (g277 44) (g277 45) (g277 43) (S 21) (g277 1076 0) (S 1032 0) ∧ sm_PO (g277 42) (g277 1076 0) ∧ ((g277 1075 0) = 0 → (g277 1100032 0) = -1 ∧ sm_FO (g277 44) (g277 45) (g277 1076 0)) ∧ 23 ≤ (g277 1076 0) ∧ 31 ≤ (g277 1007 0) ∧ (g277 1007 0) ≤ 400 ∧ sm_LN (g277 4) 400 (g277 1007 0) ∧ (S 1008 0) ≤ (g277 1007 0) ∧ ((S 1075 0) = 1 → (g277 1075 0) = 1) ∧ 0 ≤ (g277 1092 0) ∧ (g277 1092 0) ≤ 24 ∧ (S 1007 0) ≤ (g277 1007 0) ∧ (¬ (g277 1075 0) = 0 → sm_LX (g277 58) (g277 63) (g277 64) (g277 1092 0) (g277 1076 0)) ∧ ((g277 1075 0) = 0 → (g277 1073 0) = 1 → 1 ≤ (g277 1092 0) ∧ (g277 1092 0) ≤ 24 ∧ 0 ≤ (g277 57 ((g277 1092 0) - 1)) ∧ (g277 57 ((g277 1092 0) - 1)) < (S 1046 0) ∧ (S 29 (g277 57 ((g277 1092 0) - 1))) = (g277 53 ((g277 1092 0) - 1)) ∧ 0 ≤ (g277 53 ((g277 1092 0) - 1)) ∧ (g277 53 ((g277 1092 0) - 1)) < (S 1032 0) ∧ (g277 60 ((g277 1092 0) - 1)) = sm_dp (S 1100024) (S 1100023 (g277 57 ((g277 1092 0) - 1))) ∧ sm_TC (S 61) (S 62) (S 27) (S 1100007) (S 1100023) (S 1100024) (40 * ((g277 1092 0) - 1)) (S 1100023 (g277 57 ((g277 1092 0) - 1))) ∧ sm_LK (g277 1100029) (g277 1076 0) (g277 54 ((g277 1092 0) - 1)) (g277 53 ((g277 1092 0) - 1)) ∧ sm_VO (g277 44) (g277 1076 0) (g277 1007 0) ((g277 55 ((g277 1092 0) - 1))) ((g277 56 ((g277 1092 0) - 1))) ∧ sm_FW (g277 44) (g277 1076 0) (g277 59 ((g277 1092 0) - 1)) ∧ sm_FL (g277 53) (g277 54) (g277 55) (g277 56) (g277 57) (g277 58) (g277 59) (g277 60) (S 61) (S 62) (g277 63) (g277 64) (S 27) (S 29) (S 1100007) (S 1100023) (S 1100024) (S 1100025) (S 26) (g277 1100029) (g277 44) (S 1046 0) (S 1032 0) (g277 1076 0) (g277 1007 0) (((g277 1092 0) - 1)) ∧ (g277 58 ((g277 1092 0) - 1)) = (S 1100007 (g277 57 ((g277 1092 0) - 1))) ∧ sm_SK (g277 63) (g277 64) (g277 44) (S 1100007) (S 1100025) (g277 1076 0) (g277 1007 0) (400 * ((g277 1092 0) - 1)) ((g277 58 ((g277 1092 0) - 1))) ((S 1100025 (g277 57 ((g277 1092 0) - 1))))) ∧ ((g277 1073 0) = 1 ∨ (g277 1092 0) = 0 ∧ (g277 1075 0) = 0 ∧ ((g277 1073 0) = 2 ∨ (g277 1073 0) = 3)) ∧ (S 1086 0) ≤ (g277 1086 0) ∧ (g277 1086 0) ≤ (S 1086 0) + 110 ∧ 0 ≤ (g277 1107 0) ∧ (g277 1107 0) ≤ 100 ∧ sm_PT (g277 67) (g277 1107 0) (g277 1007 0))))) ∧ (((S 26 x5) = (16 : Int)) → ((sm_CT (S 26) (S 27) (S 28) (S 29) (S 1100007) (S 1100023) (S 1100024) (S 1100025) (S 21) (S 1046 0) (S 1032 0) (S 1008 0) (S 1055 0) → 0 ≤ (x5) → (x5) < (S 1046 0) → ((S 26 (x5)) = 16 → (0 ≤ (S 27 (x5)) ∧ (S 27 (x5)) ≤ 8 ∧ 0 ≤ (S 28 (x5)) ∧ (S 28 (x5)) < (S 1055 0)) ∧ (0 ≤ ((S 1100007 (x5)) - (S 27 (x5)) - 1) ∧ (0 ≤ (S 1100023 (x5)) → (S 1100007 (S 1100023 (x5))) ≤ ((S 1100007 (x5)) - (S 27 (x5)) - 1)) ∧ (0 ≤ (S 1100025 (x5)) → (S 1100007 (S 1100025 (x5))) ≤ ((S 1100007 (x5)) - (S 27 (x5)) - 1))) ∧ (0 ≤ ((x5) + 1) ∧ ((x5) + 1) < (S 1046 0) ∧ (S 29 ((x5) + 1)) = ((S 29 (x5))) ∧ (S 1100007 ((x5) + 1)) = ((S 1100007 (x5)) - (S 27 (x5))) ∧ (S 1100023 ((x5) + 1)) = ((S 1100023 (x5))) ∧ (S 1100025 ((x5) + 1)) = ((S 1100025 (x5)))))) → (0 ≤ (S 27 x5) ∧ (S 27 x5) ≤ 8 ∧ 0 ≤ (S 28 x5) ∧ (S 28 x5) < (S 1055 0) ∧ (S 1075 0) = 0 ∧ (S 1073 0) = 1 ∧ sm_LX (S 58) (S 63) (S 64) (S 1092 0) (S 1076 0) ∧ sm_PL (S 1100020) (S 51) (S 52) (S 46) (S 47) (S 1076 0) (S 1086 0) ∧ sm_FR (S 1100020) (S 52) (S 1100021) (S 1100022) (3000 - (S 1084 0)) (S 1085 0) ∧ sm_PV (S 1100020) (S 48) (S 49) (S 50) (S 44) (S 1076 0) (S 1007 0) ∧ sm_AL (S 1100020) (S 48) (S 49) (S 50) (S 44) (S 1076 0) (S 1100032 0) ∧ sm_SV (S 1100020) (S 48) (S 1100029) (S 32) (S 33) (S 1076 0) (S 1032 0) ∧ 0 ≤ (S 1076 0) ∧ (S 1076 0) ≤ 300 ∧ 0 ≤ (S 1084 0) ∧ (S 1084 0) ≤ 3000 ∧ 0 ≤ (S 1086 0) ∧ sm_SC (S 1100029) (S 44) (S 45) (S 43) (S 21) (S 1076 0) (S 1032 0) ∧ sm_PO (S 42) (S 1076 0) ∧ (S 1100032 0) = -1 ∧ sm_FO (S 44) (S 45) (S 1076 0) ∧ 23 ≤ (S 1076 0) ∧ 31 ≤ (S 1007 0) ∧ (S 1007 0) ≤ 400 ∧ sm_LN (S 4) 400 (S 1007 0) ∧ sm_CT (S 26) (S 27) (S 28) (S 29) (S 1100007) (S 1100023) (S 1100024) (S 1100025) (S 21) (S 1046 0) (S 1032 0) (S 1008 0) (S 1055 0) ∧ sm_LS (S 26) (S 1100007) (S 1100025) (S 1046 0) ∧ sm_CL (S 1100007) (S 1100023) (S 1100025) (S 1046 0) ∧ 1 ≤ (S 1032 0) ∧ (S 1032 0) ≤ 11 ∧ 0 ≤ (S 1046 0) ∧ (S 1046 0) ≤ 600 ∧ 31 ≤ (S 1008 0) ∧ (S 1008 0) ≤ (S 1007 0) ∧ 0 ≤ (S 1055 0) ∧ (S 1055 0) ≤ 19 ∧ 1 ≤ (S 1092 0) ∧ (S 1092 0) ≤ 24 ∧ 0 ≤ (x5) ∧ (x5) < (S 1046 0) ∧ (S 29 (x5)) = (S 53 ((S 1092 0) - 1)) ∧ 0 ≤ (S 53 ((S 1092 0) - 1)) ∧ (S 53 ((S 1092 0) - 1)) < (S 1032 0) ∧ (S 60 ((S 1092 0) - 1)) = sm_dp (S 1100024) (S 1100023 (x5)) ∧ sm_TC (S 61) (S 62) (S 27) (S 1100007) (S 1100023) (S 1100024) (40 * ((S 1092 0) - 1)) (S 1100023 (x5)) ∧ sm_LK (S 1100029) (S 1076 0) (S 54 ((S 1092 0) - 1)) (S 53 ((S 1092 0) - 1)) ∧ sm_VO (S 44) (S 1076 0) (S 1007 0) ((S 55 ((S 1092 0) - 1))) ((S 56 ((S 1092 0) - 1))) ∧ sm_FW (S 44) (S 1076 0) (S 59 ((S 1092 0) - 1)) ∧ sm_FL (S 53) (S 54) (S 55) (S 56) (S 57) (S 58) (S 59) (S 60) (S 61) (S 62) (S 63) (S 64) (S 27) (S 29) (S 1100007) (S 1100023) (S 1100024) (S 1100025) (S 26) (S 1100029) (S 44) (S 1046 0) (S 1032 0) (S 1076 0) (S 1007 0) (((S 1092 0) - 1)) ∧ (S 57 ((S 1092 0) - 1)) = (x5) ∧ 0 ≤ (S 58 ((S 1092 0) - 1)) ∧ (S 58 ((S 1092 0) - 1)) ≤ 400 ∧ sm_SK (S 63) (S 64) (S 44) (S 1100007) (S 1100025) (S 1076 0) (S 1007 0) (400 * ((S 1092 0) - 1)) ((S 58 ((S 1092 0) - 1))) (((S 1100025 x5))) ∧ -1 ≤ ((S 1100025 x5)) ∧ ((S 1100025 x5)) < (S 1046 0) ∧ (0 ≤ ((S 1100025 x5)) → (S 26 ((S 1100025 x5))) = 29) ∧ (S 58 ((S 1092 0) - 1)) = (S 1100007 (x5)) ∧ ((S 1100025 x5)) = (S 1100025 (x5)) ∧ (0 ≤ (S 1100023 (x5)) → (S 1100007 (S 1100023 (x5))) ≤ (S 58 ((S 1092 0) - 1))) ∧ (S 58 ((S 1092 0) - 1)) ≤ 396 ∧ 1 ≤ ((S 27 x5) + 1) ∧ ((S 27 x5) + 1) ≤ (S 58 ((S 1092 0) - 1)) ∧ (0 ≤ ((S 1100025 x5)) → (S 1100007 ((S 1100025 x5))) ≤ (S 58 ((S 1092 0) - 1)) - ((S 27 x5) + 1)) ∧ (x5) + 1 < (S 1046 0) ∧ (S 29 ((x5) + 1)) = (S 29 (x5)) ∧ (S 1100007 ((x5) + 1)) = (S 58 ((S 1092 0) - 1)) + 1 - ((S 27 x5) + 1) ∧ (S 1100023 ((x5) + 1)) = (S 1100023 (x5)) ∧ (S 1100025 ((x5) + 1)) = ((S 1100025 x5)) ∧ (0 ≤ (S 1100023 (x5)) → (S 1100007 (S 1100023 (x5))) ≤ (S 58 ((S 1092 0) - 1)) - ((S 27 x5) + 1)) ∧ (∀ g : Int, 0 ≤ g → g < (S 1032 0) → 0 ≤ (S 30 g) ∧ (S 30 g) < (S 1046 0) ∧ (S 1100007 (S 30 g)) = 0 ∧ (S 1100023 (S 30 g)) = -1 ∧ 0 ≤ (S 33 g) ∧ (S 33 g) ≤ 100 ∧ 0 ≤ (S 20 g) ∧ (S 20 g) ≤ 8) ∧ sm_VN (S 32) (S 33) (S 1032 0) (S 1008 0) ∧ (∀ f : Int, 0 ≤ f → f < (S 1032 0) → 0 ≤ (S 30 f) ∧ (S 30 f) < (S 1046 0) ∧ (S 29 (S 30 f)) = f ∧ (S 1100007 (S 30 f)) = 0 ∧ (S 1100023 (S 30 f)) = -1 ∧ (S 1100025 (S 30 f)) = -1) ∧ (S 1086 0) ≤ 1900000000 ∧ 0 ≤ (S 1107 0) ∧ (S 1107 0) ≤ 100 ∧ sm_PT (S 67) (S 1107 0) (S 1007 0)) ∧ (∀ g284 : sv_S, (sm_PL (g284 1100020) (g284 51) (g284 52) (g284 46) (g284 47) (g284 1076 0) (g284 1086 0) ∧ sm_FR (g284 1100020) (g284 52) (g284 1100021) (g284 1100022) (3000 - (g284 1084 0)) (g284 1085 0) ∧ sm_PV (g284 1100020) (g284 48) (g284 49) (g284 50) (g284 44) (g284 1076 0) (g284 1007 0) ∧ sm_AL (g284 1100020) (g284 48) (g284 49) (g284 50) (g284 44) (g284 1076 0) (g284 1100032 0) ∧ sm_SV (g284 1100020) (g284 48) (g284 1100029) (S 32) (S 33) (g284 1076 0) (S 1032 0) ∧ 0 ≤ (g284 1076 0) ∧ (g284 1076 0) ≤ 300 ∧ 0 ≤ (g284 1084 0) ∧ (g284 1084 0) ≤ 3000 ∧ 0 ≤ (g284 1086 0) ∧ sm_SC (g284 1100029) (g284 44) (g284 45) (g284 43) (S 21) (g284 1076 0) (S 1032 0) ∧ sm_PO (g284 42) (g284 1076 0) ∧ ((g284 1075 0) = 0 → (g284 1100032 0) = -1 ∧ sm_FO (g284 44) (g284 45) (g284 1076 0)) ∧ 23 ≤ (g284 1076 0) ∧ 31 ≤ (g284 1007 0) ∧ (g284 1007 0) ≤ 400 ∧ sm_LN (g284 4) 400 (g284 1007 0) ∧ (S 1008 0) ≤ (g284 1007 0) ∧ ((S 1075 0) = 1 → (g284 1075 0) = 1) ∧ 0 ≤ (g284 1092 0) ∧ (g284 1092 0) ≤ 24 ∧ (S 1007 0) ≤ (g284 1007 0) ∧ (¬ (g284 1075 0) = 0 → sm_LX (g284 58) (g284 63) (g284 64) (g284 1092 0) (g284 1076 0)) ∧ ((g284 1075 0) = 0 → (g284 1073 0) = 1 → 1 ≤ (g284 1092 0) ∧ (g284 1092 0) ≤ 24 ∧ 0 ≤ (g284 57 ((g284 1092 0) - 1)) ∧ (g284 57 ((g284 1092 0) - 1)) < (S 1046 0) ∧ (S 29 (g284 57 ((g284 1092 0) - 1))) = (g284 53 ((g284 1092 0) - 1)) ∧ 0 ≤ (g284 53 ((g284 1092 0) - 1)) ∧ (g284 53 ((g284 1092 0) - 1)) < (S 1032 0) ∧ (g284 60 ((g284 1092 0) - 1)) = sm_dp (S 1100024) (S 1100023 (g284 57 ((g284 1092 0) - 1))) ∧ sm_TC (S 61) (S 62) (S 27) (S 1100007) (S 1100023) (S 1100024) (40 * ((g284 1092 0) - 1)) (S 1100023 (g284 57 ((g284 1092 0) - 1))) ∧ sm_LK (g284 1100029) (g284 1076 0) (g284 54 ((g284 1092 0) - 1)) (g284 53 ((g284 1092 0) - 1)) ∧ sm_VO (g284 44) (g284 1076 0) (g284 1007 0) ((g284 55 ((g284 1092 0) - 1))) ((g284 56 ((g284 1092 0) - 1))) ∧ sm_FW (g284 44) (g284 1076 0) (g284 59 ((g284 1092 0) - 1)) ∧ sm_FL (g284 53) (g284 54) (g284 55) (g284 56) (g284 57) (g284 58) (g284 59) (g284 60) (S 61) (S 62) (g284 63) (g284 64) (S 27) (S 29) (S 1100007) (S 1100023) (S 1100024) (S 1100025) (S 26) (g284 1100029) (g284 44) (S 1046 0) (S 1032 0) (g284 1076 0) (g284 1007 0) (((g284 1092 0) - 1)) ∧ (g284 58 ((g284 1092 0) - 1)) = (S 1100007 (g284 57 ((g284 1092 0) - 1))) ∧ sm_SK (g284 63) (g284 64) (g284 44) (S 1100007) (S 1100025) (g284 1076 0) (g284 1007 0) (400 * ((g284 1092 0) - 1)) ((g284 58 ((g284 1092 0) - 1))) ((S 1100025 (g284 57 ((g284 1092 0) - 1))))) ∧ ((g284 1073 0) = 1 ∨ (g284 1092 0) = 0 ∧ (g284 1075 0) = 0 ∧ ((g284 1073 0) = 2 ∨ (g284 1073 0) = 3)) ∧ (S 1086 0) ≤ (g284 1086 0) ∧ (g284 1086 0) ≤ (S 1086 0) + 110 ∧ 0 ≤ (g284 1107 0) ∧ (g284 1107 0) ≤ 100 ∧ sm_PT (g284 67) (g284 1107 0) (g284 1007 0)) → (sm_PL (g284 1100020) (g284 51) (g284 52) (g284 46) (g284 47) (g284 1076 0) (g284 1086 0) ∧ sm_FR (g284 1100020) (g284 52) (g284 1100021) (g284 1100022) (3000 - (g284 1084 0)) (g284 1085 0) ∧ sm_PV (g284 1100020) (g284 48) (g284 49) (g284 50) (g284 44) (g284 1076 0) (g284 1007 0) ∧ sm_AL (g284 1100020) (g284 48) (g284 49) (g284 50) (g284 44) (g284 1076 0) (g284 1100032 0) ∧ sm_SV (g284 1100020) (g284 48) (g284 1100029) (S 32) (S 33) (g284 1076 0) (S 1032 0) ∧ 0 ≤ (g284 1076 0) ∧ (g284 1076 0) ≤ 300 ∧ 0 ≤ (g284 1084 0) ∧ (g284 1084 0) ≤ 3000 ∧ 0 ≤ (g284 1086 0) ∧ sm_SC (g284 1100029) (g284 44) (g284 45) (g284 43) (S 21) (g284 1076 0) (S 1032 0) ∧ sm_PO (g284 42) (g284 1076 0) ∧ ((g284 1075 0) = 0 → (g284 1100032 0) = -1 ∧ sm_FO (g284 44) (g284 45) (g284 1076 0)) ∧ 23 ≤ (g284 1076 0) ∧ 31 ≤ (g284 1007 0) ∧ (g284 1007 0) ≤ 400 ∧ sm_LN (g284 4) 400 (g284 1007 0) ∧ (S 1008 0) ≤ (g284 1007 0) ∧ ((S 1075 0) = 1 → (g284 1075 0) = 1) ∧ 0 ≤ (g284 1092 0) ∧ (g284 1092 0) ≤ 24 ∧ (S 1007 0) ≤ (g284 1007 0) ∧ (¬ (g284 1075 0) = 0 → sm_LX (g284 58) (g284 63) (g284 64) (g284 1092 0) (g284 1076 0)) ∧ ((g284 1075 0) = 0 → (g284 1073 0) = 1 → 1 ≤ (g284 1092 0) ∧ (g284 1092 0) ≤ 24 ∧ 0 ≤ (g284 57 ((g284 1092 0) - 1)) ∧ (g284 57 ((g284 1092 0) - 1)) < (S 1046 0) ∧ (S 29 (g284 57 ((g284 1092 0) - 1))) = (g284 53 ((g284 1092 0) - 1)) ∧ 0 ≤ (g284 53 ((g284 1092 0) - 1)) ∧ (g284 53 ((g284 1092 0) - 1)) < (S 1032 0) ∧ (g284 60 ((g284 1092 0) - 1)) = sm_dp (S 1100024) (S 1100023 (g284 57 ((g284 1092 0) - 1))) ∧ sm_TC (S 61) (S 62) (S 27) (S 1100007) (S 1100023) (S 1100024) (40 * ((g284 1092 0) - 1)) (S 1100023 (g284 57 ((g284 1092 0) - 1))) ∧ sm_LK (g284 1100029) (g284 1076 0) (g284 54 ((g284 1092 0) - 1)) (g284 53 ((g284 1092 0) - 1)) ∧ sm_VO (g284 44) (g284 1076 0) (g284 1007 0) ((g284 55 ((g284 1092 0) - 1))) ((g284 56 ((g284 1092 0) - 1))) ∧ sm_FW (g284 44) (g284 1076 0) (g284 59 ((g284 1092 0) - 1)) ∧ sm_FL (g284 53) (g284 54) (g284 55) (g284 56) (g284 57) (g284 58) (g284 59) (g284 60) (S 61) (S 62) (g284 63) (g284 64) (S 27) (S 29) (S 1100007) (S 1100023) (S 1100024) (S 1100025) (S 26) (g284 1100029) (g284 44) (S 1046 0) (S 1032 0) (g284 1076 0) (g284 1007 0) (((g284 1092 0) - 1)) ∧ (g284 58 ((g284 1092 0) - 1)) = (S 1100007 (g284 57 ((g284 1092 0) - 1))) ∧ sm_SK (g284 63) (g284 64) (g284 44) (S 1100007) (S 1100025) (g284 1076 0) (g284 1007 0) (400 * ((g284 1092 0) - 1)) ((g284 58 ((g284 1092 0) - 1))) ((S 1100025 (g284 57 ((g284 1092 0) - 1))))) ∧ ((g284 1073 0) = 1 ∨ (g284 1092 0) = 0 ∧ (g284 1075 0) = 0 ∧ ((g284 1073 0) = 2 ∨ (g284 1073 0) = 3)) ∧ (S 1086 0) ≤ (g284 1086 0) ∧ (g284 1086 0) ≤ (S 1086 0) + 110 ∧ 0 ≤ (g284 1107 0) ∧ (g284 1107 0) ≤ 100 ∧ sm_PT (g284 67) (g284 1107 0) (g284 1007 0))))))))))))))))))))) := by
  intro S
  intro h1_
  rintro ⟨h2_, ⟨h3_, ⟨h4_, ⟨h5_, ⟨h6_, ⟨h7_, ⟨h8_, ⟨h9_, ⟨h10_, ⟨h11_, ⟨h12_, ⟨h13_, ⟨h14_, ⟨h15_, ⟨h16_, ⟨h17_, ⟨h18_, ⟨h19_, ⟨h20_, ⟨h21_, ⟨h22_, ⟨h23_, ⟨h24_, ⟨h25_, ⟨h26_, ⟨h27_, ⟨h28_, ⟨h29_, ⟨h30_, ⟨h31_, ⟨h32_, ⟨h33_, ⟨h34_, ⟨h35_, ⟨h36_, ⟨h37_, ⟨h38_, ⟨h39_, ⟨h40_, ⟨h41_, ⟨h42_, ⟨h43_, ⟨h44_, ⟨h45_, ⟨h46_, ⟨h47_, ⟨h48_, ⟨h49_, ⟨h50_, ⟨h51_, ⟨h52_, ⟨h53_, ⟨h54_, ⟨h55_, h56_⟩⟩⟩⟩⟩⟩⟩⟩⟩⟩⟩⟩⟩⟩⟩⟩⟩⟩⟩⟩⟩⟩⟩⟩⟩⟩⟩⟩⟩⟩⟩⟩⟩⟩⟩⟩⟩⟩⟩⟩⟩⟩⟩⟩⟩⟩⟩⟩⟩⟩⟩⟩⟩⟩
  intro h57_
  refine ⟨(la_step__0 h33_ h34_), ?_⟩
  intro h58_
  intro h59_
  have h60_ := (h59_ h22_)
  have h61_ := (h60_ h35_)
  obtain ⟨h62_, ⟨h63_, ⟨h64_, ⟨h65_, ⟨h66_, ⟨h67_, ⟨h68_, ⟨h69_, ⟨h70_, ⟨h71_, ⟨h72_, ⟨h73_, h74_⟩⟩⟩⟩⟩⟩⟩⟩⟩⟩⟩⟩ := (h61_ h36_)
  intro x5
  intro h75_
  refine ⟨(la_step__1 h28_ h35_ h36_ h75_), ?_⟩
  refine ⟨?_, ?_⟩
  · skip
    have e76_ : S 1100025 x5 = S 1100025 (S 57 (S 1092 0 - 1)) := congrArg ((S 1100025)) (la_step__2 h75_)
    exact (la_step__3 h58_ h73_ h74_ e76_)
  intro h77_
  have h78_ := (h77_ h22_)
  have h79_ := (h78_ (la_step__4 h35_ h75_))
  obtain ⟨h80_, ⟨h81_, ⟨h82_, ⟨h83_, ⟨h84_, ⟨h85_, ⟨h86_, ⟨h87_, ⟨h88_, ⟨h89_, ⟨h90_, ⟨h91_, h92_⟩⟩⟩⟩⟩⟩⟩⟩⟩⟩⟩⟩ := (h79_ (la_step__5 h36_ h75_))
  intro h93_
  have h94_ := (h93_ h22_)
  have h95_ := (h94_ (la_step__6 h87_ h88_))
  obtain ⟨h96_, ⟨h97_, ⟨h98_, ⟨h99_, ⟨h100_, ⟨h101_, ⟨h102_, ⟨h103_, h104_⟩⟩⟩⟩⟩⟩⟩⟩ := (h95_ (la_step__5 h36_ h75_))
  intro h105_
  have h106_ := (h105_ h22_)
  have h107_ := (h106_ (la_step__6 h87_ h88_))
  have h108_ := (h107_ (la_step__5 h36_ h75_))
  intro h109_
  have h110_ := (h109_ h22_)
  have h111_ := (h110_ (la_step__6 h87_ h88_))
  have h112_ := (h111_ (la_step__5 h36_ h75_))
  intro h113_
  have h114_ := (h113_ h75_)
  intro h115_
  have h116_ := (h115_ h75_)
  intro h117_
  have h118_ := (h117_ h75_)
  intro h119_
  have h120_ := (h119_ h75_)
  refine ⟨(la_step__7 h28_ h36_ h75_ h87_ h88_), ?_⟩
  intro h121_
  intro h122_
  intro h123_
  refine ⟨?_, ?_⟩
  · skip
    intro h124_
    have h125_ := (h124_.resolve_left (la_step__8 h80_))
    have h126_ := (h112_ (la_step__9 h125_))
    refine ⟨?_, ?_⟩
    · skip
      refine ⟨h2_, ?_⟩
      refine ⟨h3_, ?_⟩
      refine ⟨h56_, ?_⟩
      refine ⟨h4_, ?_⟩
      refine ⟨h5_, ?_⟩
      refine ⟨h6_, ?_⟩
      refine ⟨h7_, ?_⟩
      refine ⟨h8_, ?_⟩
      refine ⟨h9_, ?_⟩
      refine ⟨h10_, ?_⟩
      refine ⟨h11_, ?_⟩
      refine ⟨h12_, ?_⟩
      refine ⟨h13_, ?_⟩
      refine ⟨h14_, ?_⟩
      refine ⟨h15_, ?_⟩
      refine ⟨h16_, ?_⟩
      refine ⟨h17_, ?_⟩
      refine ⟨h18_, ?_⟩
      refine ⟨h19_, ?_⟩
      refine ⟨h20_, ?_⟩
      refine ⟨h21_, ?_⟩
      refine ⟨h22_, ?_⟩
      refine ⟨h23_, ?_⟩
      refine ⟨h24_, ?_⟩
      refine ⟨h25_, ?_⟩
      refine ⟨h26_, ?_⟩
      refine ⟨h27_, ?_⟩
      refine ⟨h28_, ?_⟩
      refine ⟨h29_, ?_⟩
      refine ⟨h30_, ?_⟩
      refine ⟨h31_, ?_⟩
      refine ⟨h32_, ?_⟩
      refine ⟨h33_, ?_⟩
      refine ⟨h34_, ?_⟩
      refine ⟨(la_step__4 h35_ h75_), ?_⟩
      refine ⟨(la_step__5 h36_ h75_), ?_⟩
      refine ⟨(la_step__10 h37_ h120_), ?_⟩
      refine ⟨h38_, ?_⟩
      refine ⟨h39_, ?_⟩
      refine ⟨?_, ?_⟩
      · skip
        have e127_ : S 1100007 x5 = S 1100007 (S 57 (S 1092 0 - 1)) := congrArg ((S 1100007)) (la_step__2 h75_)
        have e128_ : S 1100023 x5 = S 1100023 (S 57 (S 1092 0 - 1)) := congrArg ((S 1100023)) (la_step__2 h75_)
        have e129_ : S 1100024 x5 = S 1100024 (S 57 (S 1092 0 - 1)) := congrArg ((S 1100024)) (la_step__2 h75_)
        have e130_ : S 1100025 x5 = S 1100025 (S 57 (S 1092 0 - 1)) := congrArg ((S 1100025)) (la_step__2 h75_)
        have e131_ : S 26 x5 = S 26 (S 57 (S 1092 0 - 1)) := congrArg ((S 26)) (la_step__2 h75_)
        have e132_ : S 29 x5 = S 29 (S 57 (S 1092 0 - 1)) := congrArg ((S 29)) (la_step__2 h75_)
        have e133_ : sm_dp (S 1100024) (S 1100023 x5) = sm_dp (S 1100024) (S 1100023 (S 57 (S 1092 0 - 1))) := congrArg ((sm_dp (S 1100024))) e128_
        exact (la_step__11 h40_ e133_)
      refine ⟨(sm_TC_t h41_ h118_), ?_⟩
      refine ⟨h42_, ?_⟩
      refine ⟨h43_, ?_⟩
      refine ⟨h44_, ?_⟩
      refine ⟨h45_, ?_⟩
      refine ⟨h75_, ?_⟩
      refine ⟨(la_step__12 h46_ h66_), ?_⟩
      refine ⟨(la_step__13 h46_ h67_), ?_⟩
      refine ⟨(sm_SK_q h47_ (la_step__2 h114_) rfl rfl), ?_⟩
      refine ⟨h91_, ?_⟩
      refine ⟨(la_step__15 h36_ h74_ h114_), ?_⟩
      refine ⟨(la_step__16 h96_), ?_⟩
      refine ⟨(la_step__17 h46_ h116_), ?_⟩
      refine ⟨la_step__18, ?_⟩
      refine ⟨(la_step__19 h46_ h108_ h116_), ?_⟩
      refine ⟨(la_step__20 h46_ h67_), ?_⟩
      refine ⟨(la_step__9 h125_), ?_⟩
      refine ⟨h81_, ?_⟩
      refine ⟨la_step__18, ?_⟩
      refine ⟨la_step__18, ?_⟩
      have e134_ : S 1100007 x5 = S 1100007 (S 57 (S 1092 0 - 1)) := congrArg ((S 1100007)) (la_step__2 h75_)
      have e135_ : S 1100023 x5 = S 1100023 (S 57 (S 1092 0 - 1)) := congrArg ((S 1100023)) (la_step__2 h75_)
      have e136_ : S 1100024 x5 = S 1100024 (S 57 (S 1092 0 - 1)) := congrArg ((S 1100024)) (la_step__2 h75_)
      have e137_ : S 1100025 x5 = S 1100025 (S 57 (S 1092 0 - 1)) := congrArg ((S 1100025)) (la_step__2 h75_)
      have e138_ : S 26 x5 = S 26 (S 57 (S 1092 0 - 1)) := congrArg ((S 26)) (la_step__2 h75_)
      have e139_ : S 29 x5 = S 29 (S 57 (S 1092 0 - 1)) := congrArg ((S 29)) (la_step__2 h75_)
      exact (la_step__21 h46_ h116_ h126_)
    intro g30
    rintro ⟨h140_, ⟨h141_, ⟨h142_, ⟨h143_, ⟨h144_, ⟨h145_, ⟨h146_, ⟨h147_, ⟨h148_, ⟨h149_, ⟨h150_, ⟨h151_, ⟨h152_, ⟨h153_, ⟨h154_, ⟨h155_, ⟨h156_, ⟨h157_, ⟨h158_, ⟨h159_, ⟨h160_, ⟨h161_, ⟨h162_, ⟨h163_, h164_⟩⟩⟩⟩⟩⟩⟩⟩⟩⟩⟩⟩⟩⟩⟩⟩⟩⟩⟩⟩⟩⟩⟩⟩
    obtain ⟨h165_, h166_⟩ := (h152_ h2_)
    have h167_ := (h163_ h2_)
    refine ⟨h4_, ?_⟩
    refine ⟨h5_, ?_⟩
    refine ⟨h6_, ?_⟩
    refine ⟨h7_, ?_⟩
    refine ⟨h8_, ?_⟩
    refine ⟨h9_, ?_⟩
    refine ⟨h10_, ?_⟩
    refine ⟨h11_, ?_⟩
    refine ⟨h12_, ?_⟩
    refine ⟨h13_, ?_⟩
    refine ⟨h14_, ?_⟩
    refine ⟨h15_, ?_⟩
    refine ⟨h152_, ?_⟩
    refine ⟨h18_, ?_⟩
    refine ⟨h19_, ?_⟩
    refine ⟨h20_, ?_⟩
    refine ⟨h21_, ?_⟩
    refine ⟨h30_, ?_⟩
    refine ⟨h158_, ?_⟩
    refine ⟨h159_, ?_⟩
    refine ⟨h160_, ?_⟩
    refine ⟨h161_, ?_⟩
    refine ⟨h162_, ?_⟩
    refine ⟨h163_, ?_⟩
    refine ⟨h164_, ?_⟩
    refine ⟨la_step__14, ?_⟩
    refine ⟨la_step__24, ?_⟩
    refine ⟨h53_, ?_⟩
    refine ⟨h54_, ?_⟩
    exact h55_
  refine ⟨?_, ?_⟩
  · skip
    intro h168_
    intro h169_
    have h170_ := (h169_ h22_)
    have h171_ := (h170_ (la_step__6 h87_ h88_))
    have h172_ := (h171_ (la_step__5 h36_ h75_))
    obtain ⟨⟨h173_, ⟨h174_, h175_⟩⟩, ⟨⟨h176_, ⟨h177_, h178_⟩⟩, ⟨h179_, ⟨h180_, ⟨h181_, ⟨h182_, ⟨h183_, h184_⟩⟩⟩⟩⟩⟩⟩ := (h172_ h168_)
    intro g36
    rintro ⟨h185_, h186_⟩
    refine ⟨?_, ?_⟩
    · skip
      refine ⟨?_, ?_⟩
      · skip
        intro h187_
        intro h188_
        refine ⟨h4_, ?_⟩
        refine ⟨h5_, ?_⟩
        refine ⟨h6_, ?_⟩
        refine ⟨h7_, ?_⟩
        refine ⟨h8_, ?_⟩
        refine ⟨h9_, ?_⟩
        refine ⟨h10_, ?_⟩
        refine ⟨h11_, ?_⟩
        refine ⟨h12_, ?_⟩
        refine ⟨h13_, ?_⟩
        refine ⟨h14_, ?_⟩
        refine ⟨h15_, ?_⟩
        refine ⟨h16_, ?_⟩
        refine ⟨h17_, ?_⟩
        refine ⟨h18_, ?_⟩
        refine ⟨h19_, ?_⟩
        refine ⟨h20_, ?_⟩
        refine ⟨h21_, ?_⟩
        refine ⟨h22_, ?_⟩
        refine ⟨h23_, ?_⟩
        refine ⟨h24_, ?_⟩
        refine ⟨h25_, ?_⟩
        refine ⟨h26_, ?_⟩
        refine ⟨h27_, ?_⟩
        refine ⟨h28_, ?_⟩
        refine ⟨h29_, ?_⟩
        refine ⟨h30_, ?_⟩
        refine ⟨h31_, ?_⟩
        refine ⟨h32_, ?_⟩
        refine ⟨h33_, ?_⟩
        refine ⟨h34_, ?_⟩
        refine ⟨(la_step__6 h87_ h88_), ?_⟩
        refine ⟨(la_step__26 h180_), ?_⟩
        refine ⟨(la_step__10 h37_ h120_), ?_⟩
        refine ⟨h38_, ?_⟩
        refine ⟨h39_, ?_⟩
        refine ⟨?_, ?_⟩
        · skip
          have e189_ : S 1100007 x5 = S 1100007 (S 57 (S 1092 0 - 1)) := congrArg ((S 1100007)) (la_step__2 h75_)
          have e190_ : S 1100023 x5 = S 1100023 (S 57 (S 1092 0 - 1)) := congrArg ((S 1100023)) (la_step__2 h75_)
          have e191_ : S 1100024 x5 = S 1100024 (S 57 (S 1092 0 - 1)) := congrArg ((S 1100024)) (la_step__2 h75_)
          have e192_ : S 1100025 x5 = S 1100025 (S 57 (S 1092 0 - 1)) := congrArg ((S 1100025)) (la_step__2 h75_)
          have e193_ : S 26 x5 = S 26 (S 57 (S 1092 0 - 1)) := congrArg ((S 26)) (la_step__2 h75_)
          have e194_ : S 29 x5 = S 29 (S 57 (S 1092 0 - 1)) := congrArg ((S 29)) (la_step__2 h75_)
          have e195_ : sm_dp (S 1100024) (S 1100023 x5) = sm_dp (S 1100024) (S 1100023 (S 57 (S 1092 0 - 1))) := congrArg ((sm_dp (S 1100024))) e190_
          exact (la_step__11 h40_ e195_)
        refine ⟨(sm_TC_t h41_ h118_), ?_⟩
        refine ⟨h42_, ?_⟩
        refine ⟨h43_, ?_⟩
        refine ⟨h44_, ?_⟩
        refine ⟨h45_, ?_⟩
        refine ⟨h75_, ?_⟩
        refine ⟨(la_step__12 h46_ h66_), ?_⟩
        refine ⟨(la_step__13 h46_ h67_), ?_⟩
        refine ⟨(sm_SK_q h47_ (la_step__2 h114_) rfl rfl), ?_⟩
        refine ⟨h91_, ?_⟩
        refine ⟨(la_step__27 h92_ h180_), ?_⟩
        refine ⟨(la_step__16 h96_), ?_⟩
        refine ⟨la_step__28, ?_⟩
        refine ⟨(la_step__12 h46_ h66_), ?_⟩
        refine ⟨(la_step__29 h46_ h67_), ?_⟩
        refine ⟨(sm_VO_i (la_step__30 h173_ h185_) (la_step__31 h174_ h185_) (la_step__32 h30_ h174_ h175_ h185_ h186_) (la_step__33 h174_ h185_)), ?_⟩
        refine ⟨(la_step__34 h46_ h96_ h116_), ?_⟩
        refine ⟨h180_, ?_⟩
        refine ⟨h181_, ?_⟩
        refine ⟨(la_step__35 h46_ h116_ h182_), ?_⟩
        refine ⟨h183_, ?_⟩
        exact h184_
      intro h196_
      exact h56_
    intro g42
    rintro ⟨h197_, h198_⟩
    have h199_ := (h197_ h2_)
    obtain ⟨h200_, ⟨h201_, ⟨h202_, ⟨h203_, ⟨h204_, ⟨h205_, ⟨h206_, ⟨h207_, ⟨h208_, ⟨h209_, ⟨h210_, ⟨h211_, ⟨h212_, ⟨h213_, h214_⟩⟩⟩⟩⟩⟩⟩⟩⟩⟩⟩⟩⟩⟩ := (h199_ h3_)
    refine ⟨h4_, ?_⟩
    refine ⟨h5_, ?_⟩
    refine ⟨h6_, ?_⟩
    refine ⟨h7_, ?_⟩
    refine ⟨h8_, ?_⟩
    refine ⟨h9_, ?_⟩
    refine ⟨h10_, ?_⟩
    refine ⟨h11_, ?_⟩
    refine ⟨h12_, ?_⟩
    refine ⟨h13_, ?_⟩
    refine ⟨h14_, ?_⟩
    refine ⟨h15_, ?_⟩
    refine ⟨?_, ?_⟩
    · skip
      intro h215_
      refine ⟨h16_, ?_⟩
      exact h17_
    refine ⟨h18_, ?_⟩
    refine ⟨h19_, ?_⟩
    refine ⟨h20_, ?_⟩
    refine ⟨h21_, ?_⟩
    refine ⟨h30_, ?_⟩
    refine ⟨(la_step__38 h2_), ?_⟩
    refine ⟨(la_step__39 h33_), ?_⟩
    refine ⟨h34_, ?_⟩
    refine ⟨la_step__14, ?_⟩
    refine ⟨h198_, ?_⟩
    refine ⟨h197_, ?_⟩
    refine ⟨(la_step__40 h2_ h3_ h33_), ?_⟩
    refine ⟨la_step__14, ?_⟩
    refine ⟨la_step__24, ?_⟩
    refine ⟨h53_, ?_⟩
    refine ⟨h54_, ?_⟩
    exact h55_
  refine ⟨?_, ?_⟩
  · skip
    intro h216_
    intro h217_
    have h218_ := (h217_ h22_)
    have h219_ := (h218_ (la_step__6 h87_ h88_))
    have h220_ := (h219_ (la_step__5 h36_ h75_))
    obtain ⟨⟨h221_, ⟨h222_, h223_⟩⟩, ⟨⟨h224_, ⟨h225_, h226_⟩⟩, ⟨h227_, ⟨h228_, ⟨h229_, ⟨h230_, ⟨h231_, h232_⟩⟩⟩⟩⟩⟩⟩ := (h220_ (la_step__42 h216_))
    intro h233_
    have h234_ := (h233_ h48_)
    have h235_ := (h234_ (la_step__6 h87_ h88_))
    have h236_ := (h235_ (la_step__26 h228_))
    have h237_ := (h236_ (la_step__43 h216_))
    have h238_ := (h237_ (la_step__10 h37_ h120_))
    have h239_ := (h238_ la_step__18)
    refine ⟨⟨h33_, ⟨h34_, ⟨h221_, ⟨h10_, ⟨h14_, ⟨h42_, h239_⟩⟩⟩⟩⟩⟩, ?_⟩
    intro r54
    intro h240_
    rintro ⟨h241_, ⟨h242_, h243_⟩⟩
    refine ⟨h240_, ?_⟩
    intro h244_
    have h245_ := (h244_ (la_step__10 h37_ h120_))
    have h246_ := (h245_ la_step__18)
    have h247_ := (h246_ h243_)
    refine ⟨⟨h4_, (la_step__44 h10_ h11_ h12_ h13_ h18_ h241_ h242_)⟩, ?_⟩
    intro r66
    intro h248_
    rintro ⟨h249_, h250_⟩
    intro h251_
    have h252_ := (h251_ h48_)
    have h253_ := (h252_ h8_)
    have h254_ := (h253_ (la_step__6 h87_ h88_))
    have h255_ := (h254_ (la_step__26 h228_))
    have h256_ := (h255_ (la_step__43 h216_))
    have h257_ := (h256_ h241_)
    have h258_ := (h257_ h242_)
    have h259_ := (h258_ h247_)
    have h260_ := (h259_ la_step__18)
    have h261_ := (h260_ h250_)
    obtain ⟨h262_, ⟨h263_, ⟨h264_, h265_⟩⟩⟩ := (h249_.resolve_left h261_)
    intro h266_
    have h267_ := (h266_ h6_)
    have h268_ := (h267_ h262_)
    have h269_ := (h268_ h263_)
    obtain ⟨⟨h270_, h271_⟩, h272_⟩ := (h269_ (la_step__30 h241_ h264_))
    refine ⟨(la_step__47 h262_ h263_), ?_⟩
    intro h273_
    intro h274_
    intro g72
    rintro ⟨h275_, h276_⟩
    refine ⟨?_, ?_⟩
    · skip
      refine ⟨?_, ?_⟩
      · skip
        intro h277_
        intro h278_
        refine ⟨h4_, ?_⟩
        refine ⟨h5_, ?_⟩
        refine ⟨h6_, ?_⟩
        refine ⟨h7_, ?_⟩
        refine ⟨h8_, ?_⟩
        refine ⟨h9_, ?_⟩
        refine ⟨h10_, ?_⟩
        refine ⟨h11_, ?_⟩
        refine ⟨h12_, ?_⟩
        refine ⟨h13_, ?_⟩
        refine ⟨h14_, ?_⟩
        refine ⟨h15_, ?_⟩
        refine ⟨h16_, ?_⟩
        refine ⟨h17_, ?_⟩
        refine ⟨h18_, ?_⟩
        refine ⟨h19_, ?_⟩
        refine ⟨h20_, ?_⟩
        refine ⟨h21_, ?_⟩
        refine ⟨h22_, ?_⟩
        refine ⟨h23_, ?_⟩
        refine ⟨h24_, ?_⟩
        refine ⟨h25_, ?_⟩
        refine ⟨h26_, ?_⟩
        refine ⟨h27_, ?_⟩
        refine ⟨h28_, ?_⟩
        refine ⟨h29_, ?_⟩
        refine ⟨h30_, ?_⟩
        refine ⟨h31_, ?_⟩
        refine ⟨h32_, ?_⟩
        refine ⟨h33_, ?_⟩
        refine ⟨h34_, ?_⟩
        refine ⟨(la_step__6 h87_ h88_), ?_⟩
        refine ⟨(la_step__26 h228_), ?_⟩
        refine ⟨(la_step__10 h37_ h120_), ?_⟩
        refine ⟨h38_, ?_⟩
        refine ⟨h39_, ?_⟩
        refine ⟨?_, ?_⟩
        · skip
          have e279_ : S 1100007 x5 = S 1100007 (S 57 (S 1092 0 - 1)) := congrArg ((S 1100007)) (la_step__2 h75_)
          have e280_ : S 1100023 x5 = S 1100023 (S 57 (S 1092 0 - 1)) := congrArg ((S 1100023)) (la_step__2 h75_)
          have e281_ : S 1100024 x5 = S 1100024 (S 57 (S 1092 0 - 1)) := congrArg ((S 1100024)) (la_step__2 h75_)
          have e282_ : S 1100025 x5 = S 1100025 (S 57 (S 1092 0 - 1)) := congrArg ((S 1100025)) (la_step__2 h75_)
          have e283_ : S 26 x5 = S 26 (S 57 (S 1092 0 - 1)) := congrArg ((S 26)) (la_step__2 h75_)
          have e284_ : S 29 x5 = S 29 (S 57 (S 1092 0 - 1)) := congrArg ((S 29)) (la_step__2 h75_)
          have e285_ : sm_dp (S 1100024) (S 1100023 x5) = sm_dp (S 1100024) (S 1100023 (S 57 (S 1092 0 - 1))) := congrArg ((sm_dp (S 1100024))) e280_
          exact (la_step__11 h40_ e285_)
        refine ⟨(sm_TC_t h41_ h118_), ?_⟩
        refine ⟨h42_, ?_⟩
        refine ⟨h43_, ?_⟩
        refine ⟨h44_, ?_⟩
        refine ⟨h45_, ?_⟩
        refine ⟨h75_, ?_⟩
        refine ⟨(la_step__12 h46_ h66_), ?_⟩
        refine ⟨(la_step__13 h46_ h67_), ?_⟩
        refine ⟨(sm_SK_q h47_ (la_step__2 h114_) rfl rfl), ?_⟩
        refine ⟨h91_, ?_⟩
        refine ⟨(la_step__27 h92_ h228_), ?_⟩
        refine ⟨(la_step__16 h96_), ?_⟩
        refine ⟨la_step__28, ?_⟩
        refine ⟨(la_step__12 h46_ h66_), ?_⟩
        refine ⟨(la_step__29 h46_ h67_), ?_⟩
        refine ⟨(sm_VO_eq h272_ h275_ h276_), ?_⟩
        refine ⟨(la_step__34 h46_ h96_ h116_), ?_⟩
        refine ⟨h228_, ?_⟩
        refine ⟨h229_, ?_⟩
        refine ⟨(la_step__35 h46_ h116_ h230_), ?_⟩
        refine ⟨h231_, ?_⟩
        exact h232_
      intro h286_
      exact h56_
    intro g78
    rintro ⟨h287_, h288_⟩
    have h289_ := (h287_ h2_)
    obtain ⟨h290_, ⟨h291_, ⟨h292_, ⟨h293_, ⟨h294_, ⟨h295_, ⟨h296_, ⟨h297_, ⟨h298_, ⟨h299_, ⟨h300_, ⟨h301_, ⟨h302_, ⟨h303_, h304_⟩⟩⟩⟩⟩⟩⟩⟩⟩⟩⟩⟩⟩⟩ := (h289_ h3_)
    refine ⟨h4_, ?_⟩
    refine ⟨h5_, ?_⟩
    refine ⟨h6_, ?_⟩
    refine ⟨h7_, ?_⟩
    refine ⟨h8_, ?_⟩
    refine ⟨h9_, ?_⟩
    refine ⟨h10_, ?_⟩
    refine ⟨h11_, ?_⟩
    refine ⟨h12_, ?_⟩
    refine ⟨h13_, ?_⟩
    refine ⟨h14_, ?_⟩
    refine ⟨h15_, ?_⟩
    refine ⟨?_, ?_⟩
    · skip
      intro h305_
      refine ⟨h16_, ?_⟩
      exact h17_
    refine ⟨h18_, ?_⟩
    refine ⟨h19_, ?_⟩
    refine ⟨h20_, ?_⟩
    refine ⟨h21_, ?_⟩
    refine ⟨h30_, ?_⟩
    refine ⟨(la_step__38 h2_), ?_⟩
    refine ⟨(la_step__39 h33_), ?_⟩
    refine ⟨h34_, ?_⟩
    refine ⟨la_step__14, ?_⟩
    refine ⟨h288_, ?_⟩
    refine ⟨h287_, ?_⟩
    refine ⟨(la_step__40 h2_ h3_ h33_), ?_⟩
    refine ⟨la_step__14, ?_⟩
    refine ⟨la_step__24, ?_⟩
    refine ⟨h53_, ?_⟩
    refine ⟨h54_, ?_⟩
    exact h55_
  refine ⟨?_, ?_⟩
  · skip
    intro h306_
    intro h307_
    have h308_ := (h307_ h22_)
    have h309_ := (h308_ (la_step__6 h87_ h88_))
    have h310_ := (h309_ (la_step__5 h36_ h75_))
    obtain ⟨⟨h311_, ⟨h312_, h313_⟩⟩, ⟨⟨h314_, ⟨h315_, h316_⟩⟩, ⟨h317_, ⟨h318_, ⟨h319_, ⟨h320_, ⟨h321_, h322_⟩⟩⟩⟩⟩⟩⟩ := (h310_ (la_step__49 h306_))
    intro h323_
    have h324_ := (h323_ h48_)
    have h325_ := (h324_ (la_step__6 h91_ h92_))
    have h326_ := (h325_ (la_step__26 h318_))
    have h327_ := (h326_ (la_step__50 h306_))
    have h328_ := (h327_ (la_step__10 h37_ h120_))
    have h329_ := (h328_ la_step__18)
    refine ⟨⟨h33_, ⟨h34_, ⟨h311_, ⟨h10_, ⟨h14_, ⟨h42_, h329_⟩⟩⟩⟩⟩⟩, ?_⟩
    intro r90
    intro h330_
    rintro ⟨h331_, ⟨h332_, h333_⟩⟩
    intro h334_
    have h335_ := (h334_ h329_)
    have h336_ := (h335_ h311_)
    intro h337_
    have h338_ := (h337_ h14_)
    have h339_ := (h338_ h331_)
    have h340_ := (h339_ h332_)
    have h341_ := (h340_ (la_step__51 h333_ h336_))
    intro h342_
    have h343_ := (h342_ (sm_SK_q h47_ (la_step__2 h114_) rfl rfl))
    have h344_ := (h343_ h23_)
    have h345_ := (h344_ (la_step__52 h46_ h116_ h314_))
    have h346_ := (h345_ la_step__53)
    have h347_ := (h346_ (la_step__27 h92_ h318_))
    have h348_ := (h347_ la_step__18)
    have h349_ := (h348_ (la_step__17 h46_ h116_))
    have h350_ := (h349_ (la_step__16 h96_))
    have h351_ := (h350_ h316_)
    refine ⟨(la_step__54 h33_ h34_ h46_ h67_ h116_ h314_), ?_⟩
    refine ⟨⟨h4_, ⟨h5_, ⟨h6_, ⟨h7_, ⟨h8_, ⟨h9_, ⟨h10_, ⟨h11_, ⟨h12_, ⟨h13_, ⟨h331_, ⟨h332_, ⟨h312_, ⟨(la_step__55 h30_ h313_), ⟨h351_, (la_step__56 h52_ h341_)⟩⟩⟩⟩⟩⟩⟩⟩⟩⟩⟩⟩⟩⟩⟩, ?_⟩
    intro g96
    rintro ⟨h352_, ⟨h353_, ⟨h354_, ⟨h355_, ⟨h356_, ⟨h357_, ⟨h358_, ⟨h359_, ⟨h360_, ⟨h361_, ⟨h362_, ⟨h363_, ⟨h364_, ⟨h365_, ⟨h366_, ⟨h367_, h368_⟩⟩⟩⟩⟩⟩⟩⟩⟩⟩⟩⟩⟩⟩⟩⟩
    refine ⟨(la_step__57 h28_ h33_ h34_ h35_ h75_ h318_), ?_⟩
    intro g102
    rintro ⟨h369_, h370_⟩
    refine ⟨h352_, ?_⟩
    refine ⟨h353_, ?_⟩
    refine ⟨h354_, ?_⟩
    refine ⟨h355_, ?_⟩
    refine ⟨h356_, ?_⟩
    refine ⟨h9_, ?_⟩
    refine ⟨h10_, ?_⟩
    refine ⟨h359_, ?_⟩
    refine ⟨h360_, ?_⟩
    refine ⟨h361_, ?_⟩
    refine ⟨h14_, ?_⟩
    refine ⟨h15_, ?_⟩
    refine ⟨?_, ?_⟩
    · skip
      intro h371_
      have h372_ := (h364_ h371_)
      refine ⟨h16_, ?_⟩
      exact h17_
    refine ⟨h18_, ?_⟩
    refine ⟨h19_, ?_⟩
    refine ⟨h20_, ?_⟩
    refine ⟨h21_, ?_⟩
    refine ⟨h30_, ?_⟩
    refine ⟨h363_, ?_⟩
    refine ⟨(la_step__39 h33_), ?_⟩
    refine ⟨h34_, ?_⟩
    refine ⟨la_step__14, ?_⟩
    refine ⟨?_, ?_⟩
    · skip
      intro h373_
      exact h56_
    refine ⟨?_, ?_⟩
    · skip
      intro h374_
      have h375_ := (h364_ h374_)
      intro h376_
      refine ⟨h33_, ?_⟩
      refine ⟨h34_, ?_⟩
      refine ⟨(la_step__58 h35_ h369_), ?_⟩
      refine ⟨(la_step__59 h75_ h318_ h369_), ?_⟩
      refine ⟨?_, ?_⟩
      · skip
        have h377_ := (h370_ (S 1092 0 - 1))
        have e378_ : S 1100007 x5 = S 1100007 (S 57 (S 1092 0 - 1)) := congrArg ((S 1100007)) (la_step__2 h75_)
        have e379_ : S 1100023 x5 = S 1100023 (S 57 (S 1092 0 - 1)) := congrArg ((S 1100023)) (la_step__2 h75_)
        have e380_ : S 1100024 x5 = S 1100024 (S 57 (S 1092 0 - 1)) := congrArg ((S 1100024)) (la_step__2 h75_)
        have e381_ : S 1100025 x5 = S 1100025 (S 57 (S 1092 0 - 1)) := congrArg ((S 1100025)) (la_step__2 h75_)
        have e382_ : S 26 x5 = S 26 (S 57 (S 1092 0 - 1)) := congrArg ((S 26)) (la_step__2 h75_)
        have e383_ : S 29 (g102 57 (S 1092 0 - 1)) = S 29 (x5 + 1) := congrArg ((S 29)) (la_step__61 h75_ h369_)
        have e384_ : S 29 x5 = S 29 (S 57 (S 1092 0 - 1)) := congrArg ((S 29)) (la_step__2 h75_)
        exact (la_step__62 h37_ h120_ h319_ e383_ e384_)
      refine ⟨h38_, ?_⟩
      refine ⟨h39_, ?_⟩
      refine ⟨?_, ?_⟩
      · skip
        have h385_ := (h370_ (S 1092 0 - 1))
        have e386_ : S 1100007 x5 = S 1100007 (S 57 (S 1092 0 - 1)) := congrArg ((S 1100007)) (la_step__2 h75_)
        have e387_ : S 1100023 (g102 57 (S 1092 0 - 1)) = S 1100023 (x5 + 1) := congrArg ((S 1100023)) (la_step__61 h75_ h369_)
        have e388_ : S 1100023 x5 = S 1100023 (S 57 (S 1092 0 - 1)) := congrArg ((S 1100023)) (la_step__2 h75_)
        have e389_ : S 1100024 x5 = S 1100024 (S 57 (S 1092 0 - 1)) := congrArg ((S 1100024)) (la_step__2 h75_)
        have e390_ : S 1100025 x5 = S 1100025 (S 57 (S 1092 0 - 1)) := congrArg ((S 1100025)) (la_step__2 h75_)
        have e391_ : S 26 x5 = S 26 (S 57 (S 1092 0 - 1)) := congrArg ((S 26)) (la_step__2 h75_)
        have e392_ : S 29 x5 = S 29 (S 57 (S 1092 0 - 1)) := congrArg ((S 29)) (la_step__2 h75_)
        have e393_ : sm_dp (S 1100024) (S 1100023 (g102 57 (S 1092 0 - 1))) = sm_dp (S 1100024) (S 1100023 (S 57 (S 1092 0 - 1))) := congrArg ((sm_dp (S 1100024))) (la_step__63 h118_ h321_ e387_)
        exact (la_step__11 h40_ e393_)
      refine ⟨?_, ?_⟩
      · skip
        have h394_ := (h370_ (S 1092 0 - 1))
        have e395_ : S 1100007 x5 = S 1100007 (S 57 (S 1092 0 - 1)) := congrArg ((S 1100007)) (la_step__2 h75_)
        have e396_ : S 1100023 (g102 57 (S 1092 0 - 1)) = S 1100023 (x5 + 1) := congrArg ((S 1100023)) (la_step__61 h75_ h369_)
        have e397_ : S 1100023 x5 = S 1100023 (S 57 (S 1092 0 - 1)) := congrArg ((S 1100023)) (la_step__2 h75_)
        have e398_ : S 1100024 x5 = S 1100024 (S 57 (S 1092 0 - 1)) := congrArg ((S 1100024)) (la_step__2 h75_)
        have e399_ : S 1100025 x5 = S 1100025 (S 57 (S 1092 0 - 1)) := congrArg ((S 1100025)) (la_step__2 h75_)
        have e400_ : S 26 x5 = S 26 (S 57 (S 1092 0 - 1)) := congrArg ((S 26)) (la_step__2 h75_)
        have e401_ : S 29 x5 = S 29 (S 57 (S 1092 0 - 1)) := congrArg ((S 29)) (la_step__2 h75_)
        exact (sm_TC_t h41_ (la_step__64 h118_ h321_ e396_))
      refine ⟨h42_, ?_⟩
      refine ⟨h43_, ?_⟩
      refine ⟨h44_, ?_⟩
      refine ⟨(sm_FL_F h45_ sm_F1_rf sm_F1_rf sm_F1_rf sm_F1_rf (sm_F1_le (sm_F1_ne h370_ (Int.le_refl _)) (Int.le_refl _)) sm_F1_rf sm_F1_rf sm_F1_rf sm_F1_rf sm_F1_rf sm_F1_rf sm_F1_rf (Int.le_refl _) (Int.le_refl _) sm_F1_rf sm_F1_rf (sm_FL_dp h45_ h22_)), ?_⟩
      refine ⟨?_, ?_⟩
      · skip
        have h402_ := (h370_ (S 1092 0 - 1))
        have e403_ : S 1100007 (g102 57 (S 1092 0 - 1)) = S 1100007 (x5 + 1) := congrArg ((S 1100007)) (la_step__61 h75_ h369_)
        have e404_ : S 1100007 x5 = S 1100007 (S 57 (S 1092 0 - 1)) := congrArg ((S 1100007)) (la_step__2 h75_)
        have e405_ : S 1100023 x5 = S 1100023 (S 57 (S 1092 0 - 1)) := congrArg ((S 1100023)) (la_step__2 h75_)
        have e406_ : S 1100024 x5 = S 1100024 (S 57 (S 1092 0 - 1)) := congrArg ((S 1100024)) (la_step__2 h75_)
        have e407_ : S 1100025 x5 = S 1100025 (S 57 (S 1092 0 - 1)) := congrArg ((S 1100025)) (la_step__2 h75_)
        have e408_ : S 26 x5 = S 26 (S 57 (S 1092 0 - 1)) := congrArg ((S 26)) (la_step__2 h75_)
        have e409_ : S 29 x5 = S 29 (S 57 (S 1092 0 - 1)) := congrArg ((S 29)) (la_step__2 h75_)
        exact (la_step__65 h46_ h320_ e403_ e404_)
      have h410_ := (h370_ (S 1092 0 - 1))
      have e411_ : S 1100007 x5 = S 1100007 (S 57 (S 1092 0 - 1)) := congrArg ((S 1100007)) (la_step__2 h75_)
      have e412_ : S 1100023 x5 = S 1100023 (S 57 (S 1092 0 - 1)) := congrArg ((S 1100023)) (la_step__2 h75_)
      have e413_ : S 1100024 x5 = S 1100024 (S 57 (S 1092 0 - 1)) := congrArg ((S 1100024)) (la_step__2 h75_)
      have e414_ : S 1100025 (g102 57 (S 1092 0 - 1)) = S 1100025 (x5 + 1) := congrArg ((S 1100025)) (la_step__61 h75_ h369_)
      have e415_ : S 1100025 x5 = S 1100025 (S 57 (S 1092 0 - 1)) := congrArg ((S 1100025)) (la_step__2 h75_)
      have e416_ : S 26 x5 = S 26 (S 57 (S 1092 0 - 1)) := congrArg ((S 26)) (la_step__2 h75_)
      have e417_ : S 29 x5 = S 29 (S 57 (S 1092 0 - 1)) := congrArg ((S 29)) (la_step__2 h75_)
      exact (sm_SK_q h47_ (la_step__63 h114_ h322_ e414_) rfl rfl)
    refine ⟨(la_step__67 h3_ h33_), ?_⟩
    refine ⟨h365_, ?_⟩
    refine ⟨(la_step__68 h366_), ?_⟩
    refine ⟨h53_, ?_⟩
    refine ⟨h54_, ?_⟩
    exact h55_
  refine ⟨?_, ?_⟩
  · skip
    intro h418_
    intro h419_
    have h420_ := (h419_ h22_)
    have h421_ := (h420_ (la_step__4 h35_ h75_))
    have h422_ := (h421_ (la_step__5 h36_ h75_))
    refine ⟨?_, ?_⟩
    · skip
      intro h423_
      have h424_ := (h418_.resolve_left h423_)
      obtain ⟨⟨h425_, ⟨h426_, h427_⟩⟩, ⟨⟨h428_, ⟨h429_, h430_⟩⟩, ⟨h431_, ⟨h432_, ⟨h433_, ⟨h434_, ⟨h435_, h436_⟩⟩⟩⟩⟩⟩⟩ := (h422_ (la_step__69 h424_))
      refine ⟨?_, ?_⟩
      · skip
        refine ⟨h2_, ?_⟩
        refine ⟨h3_, ?_⟩
        refine ⟨h56_, ?_⟩
        refine ⟨h4_, ?_⟩
        refine ⟨h5_, ?_⟩
        refine ⟨h6_, ?_⟩
        refine ⟨h7_, ?_⟩
        refine ⟨h8_, ?_⟩
        refine ⟨h9_, ?_⟩
        refine ⟨h10_, ?_⟩
        refine ⟨h11_, ?_⟩
        refine ⟨h12_, ?_⟩
        refine ⟨h13_, ?_⟩
        refine ⟨h14_, ?_⟩
        refine ⟨h15_, ?_⟩
        refine ⟨h16_, ?_⟩
        refine ⟨h17_, ?_⟩
        refine ⟨h18_, ?_⟩
        refine ⟨h19_, ?_⟩
        refine ⟨h20_, ?_⟩
        refine ⟨h21_, ?_⟩
        refine ⟨h22_, ?_⟩
        refine ⟨h23_, ?_⟩
        refine ⟨h24_, ?_⟩
        refine ⟨h25_, ?_⟩
        refine ⟨h26_, ?_⟩
        refine ⟨h27_, ?_⟩
        refine ⟨h28_, ?_⟩
        refine ⟨h29_, ?_⟩
        refine ⟨h30_, ?_⟩
        refine ⟨h31_, ?_⟩
        refine ⟨h32_, ?_⟩
        refine ⟨h33_, ?_⟩
        refine ⟨h34_, ?_⟩
        refine ⟨(la_step__6 h87_ h88_), ?_⟩
        refine ⟨(la_step__26 h432_), ?_⟩
        refine ⟨(la_step__10 h37_ h120_), ?_⟩
        refine ⟨h38_, ?_⟩
        refine ⟨h39_, ?_⟩
        refine ⟨?_, ?_⟩
        · skip
          have e437_ : S 1100007 x5 = S 1100007 (S 57 (S 1092 0 - 1)) := congrArg ((S 1100007)) (la_step__2 h75_)
          have e438_ : S 1100023 x5 = S 1100023 (S 57 (S 1092 0 - 1)) := congrArg ((S 1100023)) (la_step__2 h75_)
          have e439_ : S 1100024 x5 = S 1100024 (S 57 (S 1092 0 - 1)) := congrArg ((S 1100024)) (la_step__2 h75_)
          have e440_ : S 1100025 x5 = S 1100025 (S 57 (S 1092 0 - 1)) := congrArg ((S 1100025)) (la_step__2 h75_)
          have e441_ : S 26 x5 = S 26 (S 57 (S 1092 0 - 1)) := congrArg ((S 26)) (la_step__2 h75_)
          have e442_ : S 29 x5 = S 29 (S 57 (S 1092 0 - 1)) := congrArg ((S 29)) (la_step__2 h75_)
          have e443_ : sm_dp (S 1100024) (S 1100023 x5) = sm_dp (S 1100024) (S 1100023 (S 57 (S 1092 0 - 1))) := congrArg ((sm_dp (S 1100024))) e438_
          exact (la_step__11 h40_ e443_)
        refine ⟨(sm_TC_t h41_ h118_), ?_⟩
        refine ⟨h42_, ?_⟩
        refine ⟨h43_, ?_⟩
        refine ⟨h44_, ?_⟩
        refine ⟨h45_, ?_⟩
        refine ⟨h75_, ?_⟩
        refine ⟨(la_step__12 h46_ h66_), ?_⟩
        refine ⟨(la_step__13 h46_ h67_), ?_⟩
        refine ⟨(sm_SK_q h47_ (la_step__2 h114_) rfl rfl), ?_⟩
        refine ⟨h91_, ?_⟩
        refine ⟨(la_step__27 h92_ h432_), ?_⟩
        refine ⟨(la_step__16 h96_), ?_⟩
        refine ⟨(la_step__17 h46_ h116_), ?_⟩
        refine ⟨la_step__18, ?_⟩
        refine ⟨(la_step__19 h46_ h108_ h116_), ?_⟩
        refine ⟨(la_step__20 h46_ h67_), ?_⟩
        refine ⟨(la_step__12 h46_ h66_), ?_⟩
        refine ⟨(la_step__34 h46_ h96_ h116_), ?_⟩
        refine ⟨h432_, ?_⟩
        refine ⟨h433_, ?_⟩
        refine ⟨(la_step__73 h46_ h116_ h434_), ?_⟩
        refine ⟨h435_, ?_⟩
        refine ⟨h436_, ?_⟩
        refine ⟨h426_, ?_⟩
        refine ⟨h427_, ?_⟩
        exact la_step__74
      intro g109
      rintro ⟨h444_, ⟨h445_, ⟨h446_, ⟨h447_, ⟨h448_, ⟨h449_, ⟨h450_, ⟨h451_, ⟨h452_, ⟨h453_, ⟨h454_, ⟨h455_, ⟨h456_, ⟨h457_, ⟨h458_, ⟨h459_, ⟨h460_, ⟨h461_, ⟨h462_, ⟨h463_, ⟨h464_, ⟨h465_, ⟨h466_, ⟨h467_, h468_⟩⟩⟩⟩⟩⟩⟩⟩⟩⟩⟩⟩⟩⟩⟩⟩⟩⟩⟩⟩⟩⟩⟩⟩
      refine ⟨h444_, ?_⟩
      refine ⟨h5_, ?_⟩
      refine ⟨h446_, ?_⟩
      refine ⟨h447_, ?_⟩
      refine ⟨h448_, ?_⟩
      refine ⟨h449_, ?_⟩
      refine ⟨h450_, ?_⟩
      refine ⟨h11_, ?_⟩
      refine ⟨h12_, ?_⟩
      refine ⟨h13_, ?_⟩
      refine ⟨h454_, ?_⟩
      refine ⟨h455_, ?_⟩
      refine ⟨h456_, ?_⟩
      refine ⟨h457_, ?_⟩
      refine ⟨h19_, ?_⟩
      refine ⟨h20_, ?_⟩
      refine ⟨h21_, ?_⟩
      refine ⟨h30_, ?_⟩
      refine ⟨h462_, ?_⟩
      refine ⟨h463_, ?_⟩
      refine ⟨h464_, ?_⟩
      refine ⟨h465_, ?_⟩
      refine ⟨h466_, ?_⟩
      refine ⟨h467_, ?_⟩
      refine ⟨h468_, ?_⟩
      refine ⟨la_step__14, ?_⟩
      refine ⟨la_step__24, ?_⟩
      refine ⟨h53_, ?_⟩
      refine ⟨h54_, ?_⟩
      exact h55_
    intro h469_
    have h470_ := (h418_.resolve_right (la_step__76 h469_))
    obtain ⟨⟨h471_, ⟨h472_, h473_⟩⟩, ⟨⟨h474_, ⟨h475_, h476_⟩⟩, ⟨h477_, ⟨h478_, ⟨h479_, ⟨h480_, ⟨h481_, h482_⟩⟩⟩⟩⟩⟩⟩ := (h422_ (la_step__77 h469_ h470_))
    refine ⟨?_, ?_⟩
    · skip
      refine ⟨h2_, ?_⟩
      refine ⟨h3_, ?_⟩
      refine ⟨h56_, ?_⟩
      refine ⟨h4_, ?_⟩
      refine ⟨h5_, ?_⟩
      refine ⟨h6_, ?_⟩
      refine ⟨h7_, ?_⟩
      refine ⟨h8_, ?_⟩
      refine ⟨h9_, ?_⟩
      refine ⟨h10_, ?_⟩
      refine ⟨h11_, ?_⟩
      refine ⟨h12_, ?_⟩
      refine ⟨h13_, ?_⟩
      refine ⟨h14_, ?_⟩
      refine ⟨h15_, ?_⟩
      refine ⟨h16_, ?_⟩
      refine ⟨h17_, ?_⟩
      refine ⟨h18_, ?_⟩
      refine ⟨h19_, ?_⟩
      refine ⟨h20_, ?_⟩
      refine ⟨h21_, ?_⟩
      refine ⟨h22_, ?_⟩
      refine ⟨h23_, ?_⟩
      refine ⟨h24_, ?_⟩
      refine ⟨h25_, ?_⟩
      refine ⟨h26_, ?_⟩
      refine ⟨h27_, ?_⟩
      refine ⟨h28_, ?_⟩
      refine ⟨h29_, ?_⟩
      refine ⟨h30_, ?_⟩
      refine ⟨h31_, ?_⟩
      refine ⟨h32_, ?_⟩
      refine ⟨h33_, ?_⟩
      refine ⟨h34_, ?_⟩
      refine ⟨(la_step__6 h87_ h88_), ?_⟩
      refine ⟨(la_step__26 h478_), ?_⟩
      refine ⟨(la_step__10 h37_ h120_), ?_⟩
      refine ⟨h38_, ?_⟩
      refine ⟨h39_, ?_⟩
      refine ⟨?_, ?_⟩
      · skip
        have e483_ : S 1100007 x5 = S 1100007 (S 57 (S 1092 0 - 1)) := congrArg ((S 1100007)) (la_step__2 h75_)
        have e484_ : S 1100023 x5 = S 1100023 (S 57 (S 1092 0 - 1)) := congrArg ((S 1100023)) (la_step__2 h75_)
        have e485_ : S 1100024 x5 = S 1100024 (S 57 (S 1092 0 - 1)) := congrArg ((S 1100024)) (la_step__2 h75_)
        have e486_ : S 1100025 x5 = S 1100025 (S 57 (S 1092 0 - 1)) := congrArg ((S 1100025)) (la_step__2 h75_)
        have e487_ : S 26 x5 = S 26 (S 57 (S 1092 0 - 1)) := congrArg ((S 26)) (la_step__2 h75_)
        have e488_ : S 29 x5 = S 29 (S 57 (S 1092 0 - 1)) := congrArg ((S 29)) (la_step__2 h75_)
        have e489_ : sm_dp (S 1100024) (S 1100023 x5) = sm_dp (S 1100024) (S 1100023 (S 57 (S 1092 0 - 1))) := congrArg ((sm_dp (S 1100024))) e484_
        exact (la_step__11 h40_ e489_)
      refine ⟨(sm_TC_t h41_ h118_), ?_⟩
      refine ⟨h42_, ?_⟩
      refine ⟨h43_, ?_⟩
      refine ⟨h44_, ?_⟩
      refine ⟨h45_, ?_⟩
      refine ⟨h75_, ?_⟩
      refine ⟨(la_step__12 h46_ h66_), ?_⟩
      refine ⟨(la_step__13 h46_ h67_), ?_⟩
      refine ⟨(sm_SK_q h47_ (la_step__2 h114_) rfl rfl), ?_⟩
      refine ⟨h91_, ?_⟩
      refine ⟨(la_step__27 h92_ h478_), ?_⟩
      refine ⟨(la_step__16 h96_), ?_⟩
      refine ⟨(la_step__17 h46_ h116_), ?_⟩
      refine ⟨la_step__18, ?_⟩
      refine ⟨(la_step__19 h46_ h108_ h116_), ?_⟩
      refine ⟨(la_step__20 h46_ h67_), ?_⟩
      refine ⟨(la_step__12 h46_ h66_), ?_⟩
      refine ⟨(la_step__34 h46_ h96_ h116_), ?_⟩
      refine ⟨h478_, ?_⟩
      refine ⟨h479_, ?_⟩
      refine ⟨(la_step__73 h46_ h116_ h480_), ?_⟩
      refine ⟨h481_, ?_⟩
      refine ⟨h482_, ?_⟩
      refine ⟨h472_, ?_⟩
      refine ⟨h473_, ?_⟩
      exact la_step__78
    intro g115
    rintro ⟨h490_, ⟨h491_, ⟨h492_, ⟨h493_, ⟨h494_, ⟨h495_, ⟨h496_, ⟨h497_, ⟨h498_, ⟨h499_, ⟨h500_, ⟨h501_, ⟨h502_, ⟨h503_, ⟨h504_, ⟨h505_, ⟨h506_, ⟨h507_, ⟨h508_, ⟨h509_, ⟨h510_, ⟨h511_, ⟨h512_, ⟨h513_, h514_⟩⟩⟩⟩⟩⟩⟩⟩⟩⟩⟩⟩⟩⟩⟩⟩⟩⟩⟩⟩⟩⟩⟩⟩
    refine ⟨h490_, ?_⟩
    refine ⟨h5_, ?_⟩
    refine ⟨h492_, ?_⟩
    refine ⟨h493_, ?_⟩
    refine ⟨h494_, ?_⟩
    refine ⟨h495_, ?_⟩
    refine ⟨h496_, ?_⟩
    refine ⟨h11_, ?_⟩
    refine ⟨h12_, ?_⟩
    refine ⟨h13_, ?_⟩
    refine ⟨h500_, ?_⟩
    refine ⟨h501_, ?_⟩
    refine ⟨h502_, ?_⟩
    refine ⟨h503_, ?_⟩
    refine ⟨h19_, ?_⟩
    refine ⟨h20_, ?_⟩
    refine ⟨h21_, ?_⟩
    refine ⟨h30_, ?_⟩
    refine ⟨h508_, ?_⟩
    refine ⟨h509_, ?_⟩
    refine ⟨h510_, ?_⟩
    refine ⟨h511_, ?_⟩
    refine ⟨h512_, ?_⟩
    refine ⟨h513_, ?_⟩
    refine ⟨h514_, ?_⟩
    refine ⟨la_step__14, ?_⟩
    refine ⟨la_step__24, ?_⟩
    refine ⟨h53_, ?_⟩
    refine ⟨h54_, ?_⟩
    exact h55_
  refine ⟨?_, ?_⟩
  · skip
    intro h515_
    intro h516_
    have h517_ := (h516_ h22_)
    have h518_ := (h517_ (la_step__6 h87_ h88_))
    have h519_ := (h518_ (la_step__5 h36_ h75_))
    obtain ⟨⟨h520_, ⟨h521_, h522_⟩⟩, ⟨⟨h523_, ⟨h524_, h525_⟩⟩, ⟨h526_, ⟨h527_, ⟨h528_, ⟨h529_, ⟨h530_, h531_⟩⟩⟩⟩⟩⟩⟩ := (h519_ (la_step__80 h515_))
    intro h532_
    have h533_ := (h532_ (sm_SK_q h47_ (la_step__2 h114_) rfl rfl))
    have h534_ := (h533_ h23_)
    have h535_ := (h534_ (la_step__52 h46_ h116_ h523_))
    have h536_ := (h535_ la_step__53)
    have h537_ := (h536_ (la_step__27 h92_ h527_))
    have h538_ := (h537_ la_step__18)
    have h539_ := (h538_ (la_step__17 h46_ h116_))
    have h540_ := (h539_ (la_step__16 h96_))
    have h541_ := (h540_ h525_)
    intro h542_
    have h543_ := (h542_ h17_)
    have h544_ := (h543_ (la_step__81 h18_))
    refine ⟨(la_step__54 h33_ h34_ h46_ h67_ h116_ h523_), ?_⟩
    refine ⟨⟨h4_, ⟨h5_, ⟨h6_, ⟨h7_, ⟨h8_, ⟨h9_, ⟨h10_, ⟨h11_, ⟨h12_, ⟨h13_, ⟨la_step__28, ⟨(la_step__82 h18_), ⟨h521_, ⟨(la_step__55 h30_ h522_), ⟨h541_, (la_step__83 h52_ h544_)⟩⟩⟩⟩⟩⟩⟩⟩⟩⟩⟩⟩⟩⟩⟩, ?_⟩
    intro g125
    rintro ⟨h545_, ⟨h546_, ⟨h547_, ⟨h548_, ⟨h549_, ⟨h550_, ⟨h551_, ⟨h552_, ⟨h553_, ⟨h554_, ⟨h555_, ⟨h556_, ⟨h557_, ⟨h558_, ⟨h559_, ⟨h560_, h561_⟩⟩⟩⟩⟩⟩⟩⟩⟩⟩⟩⟩⟩⟩⟩⟩
    rintro ⟨h562_, h563_⟩
    refine ⟨?_, ?_⟩
    · skip
      intro h564_
      have h565_ : ¬ (S 1084 0 < 3000) := fun q_ => (la_step__85 h2_ (la_step__84 h562_ h564_)) (h560_ q_)
      refine ⟨h545_, ?_⟩
      refine ⟨h546_, ?_⟩
      refine ⟨h547_, ?_⟩
      refine ⟨h548_, ?_⟩
      refine ⟨h549_, ?_⟩
      refine ⟨h9_, ?_⟩
      refine ⟨h10_, ?_⟩
      refine ⟨h552_, ?_⟩
      refine ⟨h553_, ?_⟩
      refine ⟨h554_, ?_⟩
      refine ⟨h14_, ?_⟩
      refine ⟨h15_, ?_⟩
      refine ⟨?_, ?_⟩
      · skip
        intro h566_
        refine ⟨h16_, ?_⟩
        exact h17_
      refine ⟨h18_, ?_⟩
      refine ⟨h19_, ?_⟩
      refine ⟨h20_, ?_⟩
      refine ⟨h21_, ?_⟩
      refine ⟨h30_, ?_⟩
      refine ⟨h556_, ?_⟩
      refine ⟨(la_step__39 h33_), ?_⟩
      refine ⟨h34_, ?_⟩
      refine ⟨la_step__14, ?_⟩
      refine ⟨?_, ?_⟩
      · skip
        intro h567_
        exact h56_
      refine ⟨?_, ?_⟩
      · skip
        intro h568_
        intro h569_
        refine ⟨h33_, ?_⟩
        refine ⟨h34_, ?_⟩
        refine ⟨h35_, ?_⟩
        refine ⟨h36_, ?_⟩
        refine ⟨h37_, ?_⟩
        refine ⟨h38_, ?_⟩
        refine ⟨h39_, ?_⟩
        refine ⟨h40_, ?_⟩
        refine ⟨h41_, ?_⟩
        refine ⟨h42_, ?_⟩
        refine ⟨h43_, ?_⟩
        refine ⟨h44_, ?_⟩
        refine ⟨h45_, ?_⟩
        refine ⟨h46_, ?_⟩
        exact h47_
      refine ⟨(la_step__86 h3_ h33_ (la_step__84 h562_ h564_)), ?_⟩
      refine ⟨h558_, ?_⟩
      refine ⟨(la_step__68 h559_), ?_⟩
      refine ⟨h53_, ?_⟩
      refine ⟨h54_, ?_⟩
      exact h55_
    intro h570_
    have h571_ := (h557_ (la_step__87 h570_))
    refine ⟨(la_step__57 h28_ h33_ h34_ h35_ h75_ h527_), ?_⟩
    intro g132
    rintro ⟨h572_, h573_⟩
    refine ⟨h545_, ?_⟩
    refine ⟨h546_, ?_⟩
    refine ⟨h547_, ?_⟩
    refine ⟨h548_, ?_⟩
    refine ⟨h549_, ?_⟩
    refine ⟨h9_, ?_⟩
    refine ⟨h10_, ?_⟩
    refine ⟨h552_, ?_⟩
    refine ⟨h553_, ?_⟩
    refine ⟨h554_, ?_⟩
    refine ⟨h14_, ?_⟩
    refine ⟨h15_, ?_⟩
    refine ⟨?_, ?_⟩
    · skip
      intro h574_
      refine ⟨h16_, ?_⟩
      exact h17_
    refine ⟨h18_, ?_⟩
    refine ⟨h19_, ?_⟩
    refine ⟨h20_, ?_⟩
    refine ⟨h21_, ?_⟩
    refine ⟨h30_, ?_⟩
    refine ⟨h556_, ?_⟩
    refine ⟨(la_step__39 h33_), ?_⟩
    refine ⟨h34_, ?_⟩
    refine ⟨la_step__14, ?_⟩
    refine ⟨?_, ?_⟩
    · skip
      intro h575_
      have h576_ := (h560_ (la_step__89 h562_ (la_step__37 (la_step__88 h570_) h575_)))
      exact h56_
    refine ⟨?_, ?_⟩
    · skip
      intro h577_
      intro h578_
      refine ⟨h33_, ?_⟩
      refine ⟨h34_, ?_⟩
      refine ⟨(la_step__58 h35_ h572_), ?_⟩
      refine ⟨(la_step__59 h75_ h527_ h572_), ?_⟩
      refine ⟨?_, ?_⟩
      · skip
        have h579_ := (h573_ (S 1092 0 - 1))
        have e580_ : S 1100007 x5 = S 1100007 (S 57 (S 1092 0 - 1)) := congrArg ((S 1100007)) (la_step__2 h75_)
        have e581_ : S 1100023 x5 = S 1100023 (S 57 (S 1092 0 - 1)) := congrArg ((S 1100023)) (la_step__2 h75_)
        have e582_ : S 1100024 x5 = S 1100024 (S 57 (S 1092 0 - 1)) := congrArg ((S 1100024)) (la_step__2 h75_)
        have e583_ : S 1100025 x5 = S 1100025 (S 57 (S 1092 0 - 1)) := congrArg ((S 1100025)) (la_step__2 h75_)
        have e584_ : S 26 x5 = S 26 (S 57 (S 1092 0 - 1)) := congrArg ((S 26)) (la_step__2 h75_)
        have e585_ : S 29 (g132 57 (S 1092 0 - 1)) = S 29 (x5 + 1) := congrArg ((S 29)) (la_step__61 h75_ h572_)
        have e586_ : S 29 x5 = S 29 (S 57 (S 1092 0 - 1)) := congrArg ((S 29)) (la_step__2 h75_)
        exact (la_step__62 h37_ h120_ h528_ e585_ e586_)
      refine ⟨h38_, ?_⟩
      refine ⟨h39_, ?_⟩
      refine ⟨?_, ?_⟩
      · skip
        have h587_ := (h573_ (S 1092 0 - 1))
        have e588_ : S 1100007 x5 = S 1100007 (S 57 (S 1092 0 - 1)) := congrArg ((S 1100007)) (la_step__2 h75_)
        have e589_ : S 1100023 (g132 57 (S 1092 0 - 1)) = S 1100023 (x5 + 1) := congrArg ((S 1100023)) (la_step__61 h75_ h572_)
        have e590_ : S 1100023 x5 = S 1100023 (S 57 (S 1092 0 - 1)) := congrArg ((S 1100023)) (la_step__2 h75_)
        have e591_ : S 1100024 x5 = S 1100024 (S 57 (S 1092 0 - 1)) := congrArg ((S 1100024)) (la_step__2 h75_)
        have e592_ : S 1100025 x5 = S 1100025 (S 57 (S 1092 0 - 1)) := congrArg ((S 1100025)) (la_step__2 h75_)
        have e593_ : S 26 x5 = S 26 (S 57 (S 1092 0 - 1)) := congrArg ((S 26)) (la_step__2 h75_)
        have e594_ : S 29 x5 = S 29 (S 57 (S 1092 0 - 1)) := congrArg ((S 29)) (la_step__2 h75_)
        have e595_ : sm_dp (S 1100024) (S 1100023 (g132 57 (S 1092 0 - 1))) = sm_dp (S 1100024) (S 1100023 (S 57 (S 1092 0 - 1))) := congrArg ((sm_dp (S 1100024))) (la_step__63 h118_ h530_ e589_)
        exact (la_step__11 h40_ e595_)
      refine ⟨?_, ?_⟩
      · skip
        have h596_ := (h573_ (S 1092 0 - 1))
        have e597_ : S 1100007 x5 = S 1100007 (S 57 (S 1092 0 - 1)) := congrArg ((S 1100007)) (la_step__2 h75_)
        have e598_ : S 1100023 (g132 57 (S 1092 0 - 1)) = S 1100023 (x5 + 1) := congrArg ((S 1100023)) (la_step__61 h75_ h572_)
        have e599_ : S 1100023 x5 = S 1100023 (S 57 (S 1092 0 - 1)) := congrArg ((S 1100023)) (la_step__2 h75_)
        have e600_ : S 1100024 x5 = S 1100024 (S 57 (S 1092 0 - 1)) := congrArg ((S 1100024)) (la_step__2 h75_)
        have e601_ : S 1100025 x5 = S 1100025 (S 57 (S 1092 0 - 1)) := congrArg ((S 1100025)) (la_step__2 h75_)
        have e602_ : S 26 x5 = S 26 (S 57 (S 1092 0 - 1)) := congrArg ((S 26)) (la_step__2 h75_)
        have e603_ : S 29 x5 = S 29 (S 57 (S 1092 0 - 1)) := congrArg ((S 29)) (la_step__2 h75_)
        exact (sm_TC_t h41_ (la_step__64 h118_ h530_ e598_))
      refine ⟨h42_, ?_⟩
      refine ⟨h43_, ?_⟩
      refine ⟨h44_, ?_⟩
      refine ⟨(sm_FL_F h45_ sm_F1_rf sm_F1_rf sm_F1_rf sm_F1_rf (sm_F1_le (sm_F1_ne h573_ (Int.le_refl _)) (Int.le_refl _)) sm_F1_rf sm_F1_rf sm_F1_rf sm_F1_rf sm_F1_rf sm_F1_rf sm_F1_rf (Int.le_refl _) (Int.le_refl _) sm_F1_rf sm_F1_rf (sm_FL_dp h45_ h22_)), ?_⟩
      refine ⟨?_, ?_⟩
      · skip
        have h604_ := (h573_ (S 1092 0 - 1))
        have e605_ : S 1100007 (g132 57 (S 1092 0 - 1)) = S 1100007 (x5 + 1) := congrArg ((S 1100007)) (la_step__61 h75_ h572_)
        have e606_ : S 1100007 x5 = S 1100007 (S 57 (S 1092 0 - 1)) := congrArg ((S 1100007)) (la_step__2 h75_)
        have e607_ : S 1100023 x5 = S 1100023 (S 57 (S 1092 0 - 1)) := congrArg ((S 1100023)) (la_step__2 h75_)
        have e608_ : S 1100024 x5 = S 1100024 (S 57 (S 1092 0 - 1)) := congrArg ((S 1100024)) (la_step__2 h75_)
        have e609_ : S 1100025 x5 = S 1100025 (S 57 (S 1092 0 - 1)) := congrArg ((S 1100025)) (la_step__2 h75_)
        have e610_ : S 26 x5 = S 26 (S 57 (S 1092 0 - 1)) := congrArg ((S 26)) (la_step__2 h75_)
        have e611_ : S 29 x5 = S 29 (S 57 (S 1092 0 - 1)) := congrArg ((S 29)) (la_step__2 h75_)
        exact (la_step__65 h46_ h529_ e605_ e606_)
      have h612_ := (h573_ (S 1092 0 - 1))
      have e613_ : S 1100007 x5 = S 1100007 (S 57 (S 1092 0 - 1)) := congrArg ((S 1100007)) (la_step__2 h75_)
      have e614_ : S 1100023 x5 = S 1100023 (S 57 (S 1092 0 - 1)) := congrArg ((S 1100023)) (la_step__2 h75_)
      have e615_ : S 1100024 x5 = S 1100024 (S 57 (S 1092 0 - 1)) := congrArg ((S 1100024)) (la_step__2 h75_)
      have e616_ : S 1100025 (g132 57 (S 1092 0 - 1)) = S 1100025 (x5 + 1) := congrArg ((S 1100025)) (la_step__61 h75_ h572_)
      have e617_ : S 1100025 x5 = S 1100025 (S 57 (S 1092 0 - 1)) := congrArg ((S 1100025)) (la_step__2 h75_)
      have e618_ : S 26 x5 = S 26 (S 57 (S 1092 0 - 1)) := congrArg ((S 26)) (la_step__2 h75_)
      have e619_ : S 29 x5 = S 29 (S 57 (S 1092 0 - 1)) := congrArg ((S 29)) (la_step__2 h75_)
      exact (sm_SK_q h47_ (la_step__63 h114_ h531_ e616_) rfl rfl)
    refine ⟨(la_step__67 h3_ h33_), ?_⟩
    refine ⟨h558_, ?_⟩
    refine ⟨(la_step__68 h559_), ?_⟩
    refine ⟨h53_, ?_⟩
    refine ⟨h54_, ?_⟩
    exact h55_
  refine ⟨?_, ?_⟩
  · skip
    intro h620_
    intro h621_
    have h622_ := (h621_ h22_)
    have h623_ := (h622_ (la_step__4 h35_ h75_))
    have h624_ := (h623_ (la_step__5 h36_ h75_))
    obtain ⟨⟨h625_, ⟨h626_, h627_⟩⟩, ⟨h628_, ⟨h629_, ⟨h630_, ⟨h631_, ⟨h632_, h633_⟩⟩⟩⟩⟩⟩ := (h624_ h620_)
    intro h634_
    intro h635_
    intro g140
    rintro ⟨h636_, h637_⟩
    refine ⟨?_, ?_⟩
    · skip
      refine ⟨?_, ?_⟩
      · skip
        intro h638_
        intro h639_
        refine ⟨h4_, ?_⟩
        refine ⟨h5_, ?_⟩
        refine ⟨h6_, ?_⟩
        refine ⟨h7_, ?_⟩
        refine ⟨h8_, ?_⟩
        refine ⟨h9_, ?_⟩
        refine ⟨h10_, ?_⟩
        refine ⟨h11_, ?_⟩
        refine ⟨h12_, ?_⟩
        refine ⟨h13_, ?_⟩
        refine ⟨h14_, ?_⟩
        refine ⟨h15_, ?_⟩
        refine ⟨h16_, ?_⟩
        refine ⟨h17_, ?_⟩
        refine ⟨h18_, ?_⟩
        refine ⟨h19_, ?_⟩
        refine ⟨h20_, ?_⟩
        refine ⟨h21_, ?_⟩
        refine ⟨h22_, ?_⟩
        refine ⟨h23_, ?_⟩
        refine ⟨h24_, ?_⟩
        refine ⟨h25_, ?_⟩
        refine ⟨h26_, ?_⟩
        refine ⟨h27_, ?_⟩
        refine ⟨h28_, ?_⟩
        refine ⟨h29_, ?_⟩
        refine ⟨h30_, ?_⟩
        refine ⟨h31_, ?_⟩
        refine ⟨h32_, ?_⟩
        refine ⟨h33_, ?_⟩
        refine ⟨h34_, ?_⟩
        refine ⟨(la_step__6 h87_ h88_), ?_⟩
        refine ⟨(la_step__26 h629_), ?_⟩
        refine ⟨(la_step__10 h37_ h120_), ?_⟩
        refine ⟨h38_, ?_⟩
        refine ⟨h39_, ?_⟩
        refine ⟨?_, ?_⟩
        · skip
          have e640_ : S 1100007 x5 = S 1100007 (S 57 (S 1092 0 - 1)) := congrArg ((S 1100007)) (la_step__2 h75_)
          have e641_ : S 1100023 x5 = S 1100023 (S 57 (S 1092 0 - 1)) := congrArg ((S 1100023)) (la_step__2 h75_)
          have e642_ : S 1100024 x5 = S 1100024 (S 57 (S 1092 0 - 1)) := congrArg ((S 1100024)) (la_step__2 h75_)
          have e643_ : S 1100025 x5 = S 1100025 (S 57 (S 1092 0 - 1)) := congrArg ((S 1100025)) (la_step__2 h75_)
          have e644_ : S 26 x5 = S 26 (S 57 (S 1092 0 - 1)) := congrArg ((S 26)) (la_step__2 h75_)
          have e645_ : S 29 x5 = S 29 (S 57 (S 1092 0 - 1)) := congrArg ((S 29)) (la_step__2 h75_)
          have e646_ : sm_dp (S 1100024) (S 1100023 x5) = sm_dp (S 1100024) (S 1100023 (S 57 (S 1092 0 - 1))) := congrArg ((sm_dp (S 1100024))) e641_
          exact (la_step__11 h40_ e646_)
        refine ⟨(sm_TC_t h41_ h118_), ?_⟩
        refine ⟨h42_, ?_⟩
        refine ⟨h43_, ?_⟩
        refine ⟨h44_, ?_⟩
        refine ⟨h45_, ?_⟩
        refine ⟨h75_, ?_⟩
        refine ⟨(la_step__12 h46_ h66_), ?_⟩
        refine ⟨(la_step__13 h46_ h67_), ?_⟩
        refine ⟨(sm_SK_q h47_ (la_step__2 h114_) rfl rfl), ?_⟩
        refine ⟨h91_, ?_⟩
        refine ⟨(la_step__27 h92_ h629_), ?_⟩
        refine ⟨(la_step__16 h96_), ?_⟩
        refine ⟨la_step__28, ?_⟩
        refine ⟨(la_step__12 h46_ h66_), ?_⟩
        refine ⟨(la_step__29 h46_ h67_), ?_⟩
        refine ⟨(sm_VO_eq h43_ h636_ h637_), ?_⟩
        refine ⟨(la_step__34 h46_ h96_ h116_), ?_⟩
        refine ⟨h629_, ?_⟩
        refine ⟨h630_, ?_⟩
        refine ⟨(la_step__35 h46_ h116_ h631_), ?_⟩
        refine ⟨h632_, ?_⟩
        exact h633_
      intro h647_
      exact h56_
    intro g146
    rintro ⟨h648_, h649_⟩
    have h650_ := (h648_ h2_)
    obtain ⟨h651_, ⟨h652_, ⟨h653_, ⟨h654_, ⟨h655_, ⟨h656_, ⟨h657_, ⟨h658_, ⟨h659_, ⟨h660_, ⟨h661_, ⟨h662_, ⟨h663_, ⟨h664_, h665_⟩⟩⟩⟩⟩⟩⟩⟩⟩⟩⟩⟩⟩⟩ := (h650_ h3_)
    refine ⟨h4_, ?_⟩
    refine ⟨h5_, ?_⟩
    refine ⟨h6_, ?_⟩
    refine ⟨h7_, ?_⟩
    refine ⟨h8_, ?_⟩
    refine ⟨h9_, ?_⟩
    refine ⟨h10_, ?_⟩
    refine ⟨h11_, ?_⟩
    refine ⟨h12_, ?_⟩
    refine ⟨h13_, ?_⟩
    refine ⟨h14_, ?_⟩
    refine ⟨h15_, ?_⟩
    refine ⟨?_, ?_⟩
    · skip
      intro h666_
      refine ⟨h16_, ?_⟩
      exact h17_
    refine ⟨h18_, ?_⟩
    refine ⟨h19_, ?_⟩
    refine ⟨h20_, ?_⟩
    refine ⟨h21_, ?_⟩
    refine ⟨h30_, ?_⟩
    refine ⟨(la_step__38 h2_), ?_⟩
    refine ⟨(la_step__39 h33_), ?_⟩
    refine ⟨h34_, ?_⟩
    refine ⟨la_step__14, ?_⟩
    refine ⟨h649_, ?_⟩
    refine ⟨h648_, ?_⟩
    refine ⟨(la_step__40 h2_ h3_ h33_), ?_⟩
    refine ⟨la_step__14, ?_⟩
    refine ⟨la_step__24, ?_⟩
    refine ⟨h53_, ?_⟩
    refine ⟨h54_, ?_⟩
    exact h55_
  refine ⟨?_, ?_⟩
  · skip
    intro h667_
    intro h668_
    have h669_ := (h668_ h22_)
    have h670_ := (h669_ (la_step__6 h87_ h88_))
    have h671_ := (h670_ (la_step__5 h36_ h75_))
    obtain ⟨⟨h672_, h673_⟩, ⟨⟨h674_, ⟨h675_, h676_⟩⟩, ⟨h677_, ⟨h678_, ⟨h679_, ⟨h680_, ⟨h681_, h682_⟩⟩⟩⟩⟩⟩⟩ := (h671_ (la_step__92 h667_))
    refine ⟨(la_step__93 h25_ h26_ h32_ h672_ h673_), ?_⟩
    intro r157
    intro h683_
    intro h684_
    refine ⟨⟨h4_, ⟨h5_, ⟨h6_, ⟨h7_, ⟨h8_, ⟨h9_, ⟨h10_, ⟨h11_, ⟨h12_, ⟨h13_, ⟨h14_, ⟨h15_, (la_step__94 h18_ h25_ h26_ h32_ h672_ h673_ h684_)⟩⟩⟩⟩⟩⟩⟩⟩⟩⟩⟩⟩, ?_⟩
    intro r163
    intro h685_
    intro g159
    rintro ⟨h686_, ⟨h687_, ⟨h688_, ⟨h689_, ⟨h690_, ⟨h691_, ⟨h692_, ⟨h693_, ⟨h694_, ⟨h695_, ⟨h696_, ⟨h697_, ⟨h698_, ⟨h699_, ⟨h700_, ⟨h701_, ⟨h702_, ⟨h703_, ⟨h704_, ⟨h705_, ⟨h706_, ⟨h707_, ⟨h708_, ⟨h709_, ⟨h710_, h711_⟩⟩⟩⟩⟩⟩⟩⟩⟩⟩⟩⟩⟩⟩⟩⟩⟩⟩⟩⟩⟩⟩⟩⟩⟩
    have h712_ := (h710_ h17_)
    have h713_ := (h712_ la_step__95)
    have h714_ := (h713_ (la_step__96 h18_))
    intro h715_
    have h716_ := (h715_ h698_)
    have h717_ := (h716_ h699_)
    intro g166
    rintro ⟨h718_, h719_⟩
    refine ⟨?_, ?_⟩
    · skip
      refine ⟨?_, ?_⟩
      · skip
        intro h720_
        obtain ⟨h721_, ⟨h722_, ⟨h723_, ⟨h724_, ⟨h725_, ⟨h726_, h727_⟩⟩⟩⟩⟩⟩ := (h707_ h720_)
        obtain ⟨h728_, h729_⟩ := (h711_ (la_step__98 h692_ h699_ h721_))
        have h730_ := (h717_ (la_step__99 h723_))
        obtain ⟨h731_, ⟨h732_, h733_⟩⟩ := ((sm_VO_e h730_).2.2.2 la_step__101)
        intro h734_
        refine ⟨h686_, ?_⟩
        refine ⟨h5_, ?_⟩
        refine ⟨h688_, ?_⟩
        refine ⟨h689_, ?_⟩
        refine ⟨h690_, ?_⟩
        refine ⟨h691_, ?_⟩
        refine ⟨h692_, ?_⟩
        refine ⟨h11_, ?_⟩
        refine ⟨h12_, ?_⟩
        refine ⟨h13_, ?_⟩
        refine ⟨h696_, ?_⟩
        refine ⟨h697_, ?_⟩
        refine ⟨h16_, ?_⟩
        refine ⟨h714_, ?_⟩
        refine ⟨(la_step__104 h18_ h729_), ?_⟩
        refine ⟨h19_, ?_⟩
        refine ⟨h20_, ?_⟩
        refine ⟨h21_, ?_⟩
        refine ⟨h22_, ?_⟩
        refine ⟨h23_, ?_⟩
        refine ⟨h24_, ?_⟩
        refine ⟨h25_, ?_⟩
        refine ⟨h26_, ?_⟩
        refine ⟨h27_, ?_⟩
        refine ⟨h28_, ?_⟩
        refine ⟨h29_, ?_⟩
        refine ⟨h30_, ?_⟩
        refine ⟨h31_, ?_⟩
        refine ⟨h32_, ?_⟩
        refine ⟨h33_, ?_⟩
        refine ⟨h34_, ?_⟩
        refine ⟨(la_step__6 h87_ h88_), ?_⟩
        refine ⟨(la_step__26 h678_), ?_⟩
        refine ⟨(la_step__10 h37_ h120_), ?_⟩
        refine ⟨h38_, ?_⟩
        refine ⟨h39_, ?_⟩
        refine ⟨?_, ?_⟩
        · skip
          have e735_ : S 1100007 x5 = S 1100007 (S 57 (S 1092 0 - 1)) := congrArg ((S 1100007)) (la_step__2 h75_)
          have e736_ : S 1100023 x5 = S 1100023 (S 57 (S 1092 0 - 1)) := congrArg ((S 1100023)) (la_step__2 h75_)
          have e737_ : S 1100024 x5 = S 1100024 (S 57 (S 1092 0 - 1)) := congrArg ((S 1100024)) (la_step__2 h75_)
          have e738_ : S 1100025 x5 = S 1100025 (S 57 (S 1092 0 - 1)) := congrArg ((S 1100025)) (la_step__2 h75_)
          have e739_ : S 26 x5 = S 26 (S 57 (S 1092 0 - 1)) := congrArg ((S 26)) (la_step__2 h75_)
          have e740_ : S 29 x5 = S 29 (S 57 (S 1092 0 - 1)) := congrArg ((S 29)) (la_step__2 h75_)
          have e741_ : sm_dp (S 1100024) (S 1100023 x5) = sm_dp (S 1100024) (S 1100023 (S 57 (S 1092 0 - 1))) := congrArg ((sm_dp (S 1100024))) e736_
          exact (la_step__11 h40_ e741_)
        refine ⟨(sm_TC_t h41_ h118_), ?_⟩
        refine ⟨(sm_LK_m h42_ h701_ (sm_F1_le h703_ (Int.le_refl _))), ?_⟩
        refine ⟨(sm_VO_m h43_ h701_ (Int.le_refl _) (sm_F1_le h702_ (Int.le_refl _))), ?_⟩
        refine ⟨(sm_FW_m h44_ h701_ (sm_F1_le h702_ (Int.le_refl _))), ?_⟩
        refine ⟨(sm_FL_F h45_ sm_F1_rf sm_F1_rf sm_F1_rf sm_F1_rf sm_F1_rf sm_F1_rf sm_F1_rf sm_F1_rf sm_F1_rf sm_F1_rf sm_F1_rf sm_F1_rf h701_ (Int.le_refl _) (sm_F1_le h703_ (Int.le_refl _)) (sm_F1_le h702_ (Int.le_refl _)) (sm_FL_dp h45_ h22_)), ?_⟩
        refine ⟨h75_, ?_⟩
        refine ⟨(la_step__12 h46_ h66_), ?_⟩
        refine ⟨(la_step__13 h46_ h67_), ?_⟩
        refine ⟨(sm_SK_q (sm_SK_m h47_ h701_ (Int.le_refl _) (sm_F1_le h702_ (Int.le_refl _))) (la_step__2 h114_) rfl rfl), ?_⟩
        refine ⟨h91_, ?_⟩
        refine ⟨(la_step__27 h92_ h678_), ?_⟩
        refine ⟨(la_step__16 h96_), ?_⟩
        refine ⟨la_step__28, ?_⟩
        refine ⟨(la_step__12 h46_ h66_), ?_⟩
        refine ⟨(la_step__29 h46_ h67_), ?_⟩
        refine ⟨(sm_VO_eq h730_ h718_ h719_), ?_⟩
        refine ⟨(la_step__34 h46_ h96_ h116_), ?_⟩
        refine ⟨h678_, ?_⟩
        refine ⟨h679_, ?_⟩
        refine ⟨(la_step__35 h46_ h116_ h680_), ?_⟩
        refine ⟨h681_, ?_⟩
        exact h682_
      intro h742_
      exact (sm_LX_m h56_ h701_)
    intro g172
    rintro ⟨h743_, h744_⟩
    refine ⟨h686_, ?_⟩
    refine ⟨h5_, ?_⟩
    refine ⟨h688_, ?_⟩
    refine ⟨h689_, ?_⟩
    refine ⟨h690_, ?_⟩
    refine ⟨h691_, ?_⟩
    refine ⟨h692_, ?_⟩
    refine ⟨h11_, ?_⟩
    refine ⟨h12_, ?_⟩
    refine ⟨h13_, ?_⟩
    refine ⟨h696_, ?_⟩
    refine ⟨h697_, ?_⟩
    refine ⟨?_, ?_⟩
    · skip
      intro h745_
      obtain ⟨h746_, ⟨h747_, ⟨h748_, ⟨h749_, ⟨h750_, ⟨h751_, h752_⟩⟩⟩⟩⟩⟩ := (h707_ h745_)
      obtain ⟨h753_, h754_⟩ := (h711_ (la_step__98 h692_ h699_ h746_))
      have h755_ := (h717_ (la_step__99 h748_))
      have h756_ := (h743_ h745_)
      obtain ⟨h757_, ⟨h758_, h759_⟩⟩ := ((sm_VO_e h755_).2.2.2 la_step__101)
      obtain ⟨h760_, ⟨h761_, ⟨h762_, ⟨h763_, ⟨h764_, ⟨h765_, ⟨h766_, ⟨h767_, ⟨h768_, ⟨h769_, ⟨h770_, ⟨h771_, ⟨h772_, ⟨h773_, h774_⟩⟩⟩⟩⟩⟩⟩⟩⟩⟩⟩⟩⟩⟩ := (h756_ h3_)
      refine ⟨h16_, ?_⟩
      exact h714_
    refine ⟨(la_step__105 h18_ h701_), ?_⟩
    refine ⟨h19_, ?_⟩
    refine ⟨h20_, ?_⟩
    refine ⟨h21_, ?_⟩
    refine ⟨h30_, ?_⟩
    refine ⟨h700_, ?_⟩
    refine ⟨(la_step__39 h33_), ?_⟩
    refine ⟨h34_, ?_⟩
    refine ⟨la_step__14, ?_⟩
    refine ⟨h744_, ?_⟩
    refine ⟨h743_, ?_⟩
    refine ⟨(la_step__67 h3_ h33_), ?_⟩
    refine ⟨la_step__14, ?_⟩
    refine ⟨la_step__24, ?_⟩
    refine ⟨h53_, ?_⟩
    refine ⟨h54_, ?_⟩
    exact h55_
  refine ⟨?_, ?_⟩
  · skip
    intro h775_
    intro h776_
    have h777_ := (h776_ h22_)
    have h778_ := (h777_ (la_step__6 h87_ h88_))
    have h779_ := (h778_ (la_step__5 h36_ h75_))
    obtain ⟨⟨h780_, h781_⟩, ⟨⟨h782_, ⟨h783_, h784_⟩⟩, ⟨h785_, ⟨h786_, ⟨h787_, ⟨h788_, ⟨h789_, h790_⟩⟩⟩⟩⟩⟩⟩ := (h779_ (la_step__107 h775_))
    refine ⟨(la_step__93 h25_ h26_ h32_ h780_ h781_), ?_⟩
    intro r183
    intro h791_
    intro h792_
    refine ⟨⟨h4_, ⟨h5_, ⟨h6_, ⟨h7_, ⟨h8_, ⟨h9_, ⟨h10_, ⟨h11_, ⟨h12_, ⟨h13_, ⟨h14_, ⟨h15_, (la_step__108 h16_ h18_ h19_ h20_ h25_ h26_ h32_ h52_ h780_ h781_ h792_)⟩⟩⟩⟩⟩⟩⟩⟩⟩⟩⟩⟩, ?_⟩
    intro r189
    intro h793_
    intro g185
    rintro ⟨h794_, ⟨h795_, ⟨h796_, ⟨h797_, ⟨h798_, ⟨h799_, ⟨h800_, ⟨h801_, ⟨h802_, ⟨h803_, ⟨h804_, ⟨h805_, ⟨h806_, ⟨h807_, ⟨h808_, ⟨h809_, ⟨h810_, ⟨h811_, ⟨h812_, ⟨h813_, ⟨h814_, ⟨h815_, ⟨h816_, ⟨h817_, h818_⟩⟩⟩⟩⟩⟩⟩⟩⟩⟩⟩⟩⟩⟩⟩⟩⟩⟩⟩⟩⟩⟩⟩⟩
    intro h819_
    have h820_ := (h819_ h807_)
    have h821_ := (h820_ h808_)
    intro g192
    rintro ⟨h822_, h823_⟩
    refine ⟨?_, ?_⟩
    · skip
      refine ⟨?_, ?_⟩
      · skip
        intro h824_
        obtain ⟨h825_, ⟨h826_, ⟨h827_, ⟨h828_, h829_⟩⟩⟩⟩ := (h806_ h824_)
        have h830_ := (h821_ (la_step__109 h826_))
        obtain ⟨h831_, ⟨h832_, h833_⟩⟩ := ((sm_VO_e h830_).2.2.2 la_step__101)
        have h834_ := (h829_ h17_)
        intro h835_
        refine ⟨h794_, ?_⟩
        refine ⟨h795_, ?_⟩
        refine ⟨h796_, ?_⟩
        refine ⟨h797_, ?_⟩
        refine ⟨h798_, ?_⟩
        refine ⟨h799_, ?_⟩
        refine ⟨h800_, ?_⟩
        refine ⟨h801_, ?_⟩
        refine ⟨h802_, ?_⟩
        refine ⟨h803_, ?_⟩
        refine ⟨h804_, ?_⟩
        refine ⟨h805_, ?_⟩
        refine ⟨h825_, ?_⟩
        refine ⟨h834_, ?_⟩
        refine ⟨(la_step__111 h18_ h808_ h827_), ?_⟩
        refine ⟨h19_, ?_⟩
        refine ⟨h20_, ?_⟩
        refine ⟨h21_, ?_⟩
        refine ⟨h22_, ?_⟩
        refine ⟨h23_, ?_⟩
        refine ⟨h24_, ?_⟩
        refine ⟨h25_, ?_⟩
        refine ⟨h26_, ?_⟩
        refine ⟨h27_, ?_⟩
        refine ⟨h28_, ?_⟩
        refine ⟨h29_, ?_⟩
        refine ⟨h30_, ?_⟩
        refine ⟨h31_, ?_⟩
        refine ⟨h32_, ?_⟩
        refine ⟨h33_, ?_⟩
        refine ⟨h34_, ?_⟩
        refine ⟨(la_step__6 h87_ h88_), ?_⟩
        refine ⟨(la_step__26 h786_), ?_⟩
        refine ⟨(la_step__10 h37_ h120_), ?_⟩
        refine ⟨h38_, ?_⟩
        refine ⟨h39_, ?_⟩
        refine ⟨?_, ?_⟩
        · skip
          have e836_ : S 1100007 x5 = S 1100007 (S 57 (S 1092 0 - 1)) := congrArg ((S 1100007)) (la_step__2 h75_)
          have e837_ : S 1100023 x5 = S 1100023 (S 57 (S 1092 0 - 1)) := congrArg ((S 1100023)) (la_step__2 h75_)
          have e838_ : S 1100024 x5 = S 1100024 (S 57 (S 1092 0 - 1)) := congrArg ((S 1100024)) (la_step__2 h75_)
          have e839_ : S 1100025 x5 = S 1100025 (S 57 (S 1092 0 - 1)) := congrArg ((S 1100025)) (la_step__2 h75_)
          have e840_ : S 26 x5 = S 26 (S 57 (S 1092 0 - 1)) := congrArg ((S 26)) (la_step__2 h75_)
          have e841_ : S 29 x5 = S 29 (S 57 (S 1092 0 - 1)) := congrArg ((S 29)) (la_step__2 h75_)
          have e842_ : sm_dp (S 1100024) (S 1100023 x5) = sm_dp (S 1100024) (S 1100023 (S 57 (S 1092 0 - 1))) := congrArg ((sm_dp (S 1100024))) e837_
          exact (la_step__11 h40_ e842_)
        refine ⟨(sm_TC_t h41_ h118_), ?_⟩
        refine ⟨(sm_LK_m h42_ h810_ (sm_F1_le h814_ (Int.le_refl _))), ?_⟩
        refine ⟨(sm_VO_m h43_ h810_ (Int.le_refl _) (sm_F1_le h813_ (Int.le_refl _))), ?_⟩
        refine ⟨(sm_FW_m h44_ h810_ (sm_F1_le h813_ (Int.le_refl _))), ?_⟩
        refine ⟨(sm_FL_F h45_ sm_F1_rf sm_F1_rf sm_F1_rf sm_F1_rf sm_F1_rf sm_F1_rf sm_F1_rf sm_F1_rf sm_F1_rf sm_F1_rf sm_F1_rf sm_F1_rf h810_ (Int.le_refl _) (sm_F1_le h814_ (Int.le_refl _)) (sm_F1_le h813_ (Int.le_refl _)) (sm_FL_dp h45_ h22_)), ?_⟩
        refine ⟨h75_, ?_⟩
        refine ⟨(la_step__12 h46_ h66_), ?_⟩
        refine ⟨(la_step__13 h46_ h67_), ?_⟩
        refine ⟨(sm_SK_q (sm_SK_m h47_ h810_ (Int.le_refl _) (sm_F1_le h813_ (Int.le_refl _))) (la_step__2 h114_) rfl rfl), ?_⟩
        refine ⟨h91_, ?_⟩
        refine ⟨(la_step__27 h92_ h786_), ?_⟩
        refine ⟨(la_step__16 h96_), ?_⟩
        refine ⟨la_step__28, ?_⟩
        refine ⟨(la_step__12 h46_ h66_), ?_⟩
        refine ⟨(la_step__29 h46_ h67_), ?_⟩
        refine ⟨(sm_VO_eq h830_ h822_ h823_), ?_⟩
        refine ⟨(la_step__34 h46_ h96_ h116_), ?_⟩
        refine ⟨h786_, ?_⟩
        refine ⟨h787_, ?_⟩
        refine ⟨(la_step__35 h46_ h116_ h788_), ?_⟩
        refine ⟨h789_, ?_⟩
        exact h790_
      intro h843_
      exact (sm_LX_m h56_ h810_)
    intro g198
    rintro ⟨h844_, h845_⟩
    refine ⟨h794_, ?_⟩
    refine ⟨h795_, ?_⟩
    refine ⟨h796_, ?_⟩
    refine ⟨h797_, ?_⟩
    refine ⟨h798_, ?_⟩
    refine ⟨h799_, ?_⟩
    refine ⟨h800_, ?_⟩
    refine ⟨h801_, ?_⟩
    refine ⟨h802_, ?_⟩
    refine ⟨h803_, ?_⟩
    refine ⟨h804_, ?_⟩
    refine ⟨h805_, ?_⟩
    refine ⟨?_, ?_⟩
    · skip
      intro h846_
      obtain ⟨h847_, ⟨h848_, ⟨h849_, ⟨h850_, h851_⟩⟩⟩⟩ := (h806_ h846_)
      have h852_ := (h821_ (la_step__109 h848_))
      have h853_ := (h844_ h846_)
      obtain ⟨h854_, ⟨h855_, h856_⟩⟩ := ((sm_VO_e h852_).2.2.2 la_step__101)
      have h857_ := (h851_ h17_)
      obtain ⟨h858_, ⟨h859_, ⟨h860_, ⟨h861_, ⟨h862_, ⟨h863_, ⟨h864_, ⟨h865_, ⟨h866_, ⟨h867_, ⟨h868_, ⟨h869_, ⟨h870_, ⟨h871_, h872_⟩⟩⟩⟩⟩⟩⟩⟩⟩⟩⟩⟩⟩⟩ := (h853_ h3_)
      refine ⟨h847_, ?_⟩
      exact h857_
    refine ⟨(la_step__105 h18_ h810_), ?_⟩
    refine ⟨h19_, ?_⟩
    refine ⟨h20_, ?_⟩
    refine ⟨h21_, ?_⟩
    refine ⟨h30_, ?_⟩
    refine ⟨h809_, ?_⟩
    refine ⟨(la_step__39 h33_), ?_⟩
    refine ⟨h34_, ?_⟩
    refine ⟨la_step__14, ?_⟩
    refine ⟨h845_, ?_⟩
    refine ⟨h844_, ?_⟩
    refine ⟨(la_step__67 h3_ h33_), ?_⟩
    refine ⟨h811_, ?_⟩
    refine ⟨(la_step__68 h812_), ?_⟩
    refine ⟨h53_, ?_⟩
    refine ⟨h54_, ?_⟩
    exact h55_
  refine ⟨?_, ?_⟩
  · skip
    intro h873_
    intro h874_
    have h875_ := (h874_ h22_)
    have h876_ := (h875_ (la_step__4 h35_ h75_))
    have h877_ := (h876_ (la_step__5 h36_ h75_))
    obtain ⟨⟨h878_, ⟨h879_, h880_⟩⟩, ⟨⟨h881_, ⟨h882_, h883_⟩⟩, ⟨h884_, ⟨h885_, ⟨h886_, ⟨h887_, ⟨h888_, h889_⟩⟩⟩⟩⟩⟩⟩ := (h877_ h873_)
    refine ⟨?_, ?_⟩
    · skip
      refine ⟨h2_, ?_⟩
      refine ⟨h3_, ?_⟩
      refine ⟨h56_, ?_⟩
      refine ⟨h4_, ?_⟩
      refine ⟨h5_, ?_⟩
      refine ⟨h6_, ?_⟩
      refine ⟨h7_, ?_⟩
      refine ⟨h8_, ?_⟩
      refine ⟨h9_, ?_⟩
      refine ⟨h10_, ?_⟩
      refine ⟨h11_, ?_⟩
      refine ⟨h12_, ?_⟩
      refine ⟨h13_, ?_⟩
      refine ⟨h14_, ?_⟩
      refine ⟨h15_, ?_⟩
      refine ⟨h16_, ?_⟩
      refine ⟨h17_, ?_⟩
      refine ⟨h18_, ?_⟩
      refine ⟨h19_, ?_⟩
      refine ⟨h20_, ?_⟩
      refine ⟨h21_, ?_⟩
      refine ⟨h22_, ?_⟩
      refine ⟨h23_, ?_⟩
      refine ⟨h24_, ?_⟩
      refine ⟨h25_, ?_⟩
      refine ⟨h26_, ?_⟩
      refine ⟨h27_, ?_⟩
      refine ⟨h28_, ?_⟩
      refine ⟨h29_, ?_⟩
      refine ⟨h30_, ?_⟩
      refine ⟨h31_, ?_⟩
      refine ⟨h32_, ?_⟩
      refine ⟨h33_, ?_⟩
      refine ⟨h34_, ?_⟩
      refine ⟨(la_step__6 h87_ h88_), ?_⟩
      refine ⟨(la_step__26 h885_), ?_⟩
      refine ⟨(la_step__10 h37_ h120_), ?_⟩
      refine ⟨h38_, ?_⟩
      refine ⟨h39_, ?_⟩
      refine ⟨?_, ?_⟩
      · skip
        have e890_ : S 1100007 x5 = S 1100007 (S 57 (S 1092 0 - 1)) := congrArg ((S 1100007)) (la_step__2 h75_)
        have e891_ : S 1100023 x5 = S 1100023 (S 57 (S 1092 0 - 1)) := congrArg ((S 1100023)) (la_step__2 h75_)
        have e892_ : S 1100024 x5 = S 1100024 (S 57 (S 1092 0 - 1)) := congrArg ((S 1100024)) (la_step__2 h75_)
        have e893_ : S 1100025 x5 = S 1100025 (S 57 (S 1092 0 - 1)) := congrArg ((S 1100025)) (la_step__2 h75_)
        have e894_ : S 26 x5 = S 26 (S 57 (S 1092 0 - 1)) := congrArg ((S 26)) (la_step__2 h75_)
        have e895_ : S 29 x5 = S 29 (S 57 (S 1092 0 - 1)) := congrArg ((S 29)) (la_step__2 h75_)
        have e896_ : sm_dp (S 1100024) (S 1100023 x5) = sm_dp (S 1100024) (S 1100023 (S 57 (S 1092 0 - 1))) := congrArg ((sm_dp (S 1100024))) e891_
        exact (la_step__11 h40_ e896_)
      refine ⟨(sm_TC_t h41_ h118_), ?_⟩
      refine ⟨h42_, ?_⟩
      refine ⟨h43_, ?_⟩
      refine ⟨h44_, ?_⟩
      refine ⟨h45_, ?_⟩
      refine ⟨h75_, ?_⟩
      refine ⟨(la_step__12 h46_ h66_), ?_⟩
      refine ⟨(la_step__13 h46_ h67_), ?_⟩
      refine ⟨(sm_SK_q h47_ (la_step__2 h114_) rfl rfl), ?_⟩
      refine ⟨h91_, ?_⟩
      refine ⟨(la_step__27 h92_ h885_), ?_⟩
      refine ⟨(la_step__16 h96_), ?_⟩
      refine ⟨(la_step__17 h46_ h116_), ?_⟩
      refine ⟨la_step__18, ?_⟩
      refine ⟨(la_step__19 h46_ h108_ h116_), ?_⟩
      refine ⟨(la_step__20 h46_ h67_), ?_⟩
      refine ⟨(la_step__12 h46_ h66_), ?_⟩
      refine ⟨(la_step__34 h46_ h96_ h116_), ?_⟩
      refine ⟨h885_, ?_⟩
      refine ⟨h886_, ?_⟩
      refine ⟨(la_step__73 h46_ h116_ h887_), ?_⟩
      refine ⟨h888_, ?_⟩
      refine ⟨h889_, ?_⟩
      refine ⟨h52_, ?_⟩
      refine ⟨h878_, ?_⟩
      refine ⟨h879_, ?_⟩
      exact (la_step__113 h37_ h120_ h880_)
    intro g205
    rintro ⟨h897_, ⟨h898_, ⟨h899_, ⟨h900_, ⟨h901_, ⟨h902_, ⟨h903_, ⟨h904_, ⟨h905_, ⟨h906_, ⟨h907_, ⟨h908_, ⟨h909_, ⟨h910_, ⟨h911_, ⟨h912_, ⟨h913_, ⟨h914_, ⟨h915_, ⟨h916_, ⟨h917_, ⟨h918_, ⟨h919_, ⟨h920_, ⟨h921_, ⟨h922_, h923_⟩⟩⟩⟩⟩⟩⟩⟩⟩⟩⟩⟩⟩⟩⟩⟩⟩⟩⟩⟩⟩⟩⟩⟩⟩⟩
    refine ⟨h897_, ?_⟩
    refine ⟨h898_, ?_⟩
    refine ⟨h899_, ?_⟩
    refine ⟨h900_, ?_⟩
    refine ⟨h901_, ?_⟩
    refine ⟨h902_, ?_⟩
    refine ⟨h903_, ?_⟩
    refine ⟨h904_, ?_⟩
    refine ⟨h905_, ?_⟩
    refine ⟨h906_, ?_⟩
    refine ⟨h907_, ?_⟩
    refine ⟨h908_, ?_⟩
    refine ⟨h909_, ?_⟩
    refine ⟨h910_, ?_⟩
    refine ⟨h19_, ?_⟩
    refine ⟨h20_, ?_⟩
    refine ⟨h21_, ?_⟩
    refine ⟨h30_, ?_⟩
    refine ⟨h915_, ?_⟩
    refine ⟨h916_, ?_⟩
    refine ⟨h917_, ?_⟩
    refine ⟨h918_, ?_⟩
    refine ⟨h919_, ?_⟩
    refine ⟨h920_, ?_⟩
    refine ⟨h921_, ?_⟩
    refine ⟨h922_, ?_⟩
    refine ⟨h923_, ?_⟩
    refine ⟨h53_, ?_⟩
    refine ⟨h54_, ?_⟩
    exact h55_
  refine ⟨?_, ?_⟩
  · skip
    intro h924_
    intro h925_
    have h926_ := (h925_ h22_)
    have h927_ := (h926_ (la_step__4 h35_ h75_))
    have h928_ := (h927_ (la_step__5 h36_ h75_))
    obtain ⟨⟨h929_, ⟨h930_, h931_⟩⟩, ⟨h932_, ⟨h933_, ⟨h934_, ⟨h935_, ⟨h936_, h937_⟩⟩⟩⟩⟩⟩ := (h928_ (la_step__115 h924_))
    refine ⟨?_, ?_⟩
    · skip
      refine ⟨h2_, ?_⟩
      refine ⟨h3_, ?_⟩
      refine ⟨h56_, ?_⟩
      refine ⟨h4_, ?_⟩
      refine ⟨h5_, ?_⟩
      refine ⟨h6_, ?_⟩
      refine ⟨h7_, ?_⟩
      refine ⟨h8_, ?_⟩
      refine ⟨h9_, ?_⟩
      refine ⟨h10_, ?_⟩
      refine ⟨h11_, ?_⟩
      refine ⟨h12_, ?_⟩
      refine ⟨h13_, ?_⟩
      refine ⟨h14_, ?_⟩
      refine ⟨h15_, ?_⟩
      refine ⟨h16_, ?_⟩
      refine ⟨h17_, ?_⟩
      refine ⟨h18_, ?_⟩
      refine ⟨h19_, ?_⟩
      refine ⟨h20_, ?_⟩
      refine ⟨h21_, ?_⟩
      refine ⟨h22_, ?_⟩
      refine ⟨h23_, ?_⟩
      refine ⟨h24_, ?_⟩
      refine ⟨h25_, ?_⟩
      refine ⟨h26_, ?_⟩
      refine ⟨h27_, ?_⟩
      refine ⟨h28_, ?_⟩
      refine ⟨h29_, ?_⟩
      refine ⟨h30_, ?_⟩
      refine ⟨h31_, ?_⟩
      refine ⟨h32_, ?_⟩
      refine ⟨h33_, ?_⟩
      refine ⟨h34_, ?_⟩
      refine ⟨(la_step__4 h35_ h75_), ?_⟩
      refine ⟨(la_step__26 h933_), ?_⟩
      refine ⟨(la_step__10 h37_ h120_), ?_⟩
      refine ⟨h38_, ?_⟩
      refine ⟨h39_, ?_⟩
      refine ⟨?_, ?_⟩
      · skip
        have e938_ : S 1100007 x5 = S 1100007 (S 57 (S 1092 0 - 1)) := congrArg ((S 1100007)) (la_step__2 h75_)
        have e939_ : S 1100023 x5 = S 1100023 (S 57 (S 1092 0 - 1)) := congrArg ((S 1100023)) (la_step__2 h75_)
        have e940_ : S 1100024 x5 = S 1100024 (S 57 (S 1092 0 - 1)) := congrArg ((S 1100024)) (la_step__2 h75_)
        have e941_ : S 1100025 x5 = S 1100025 (S 57 (S 1092 0 - 1)) := congrArg ((S 1100025)) (la_step__2 h75_)
        have e942_ : S 26 x5 = S 26 (S 57 (S 1092 0 - 1)) := congrArg ((S 26)) (la_step__2 h75_)
        have e943_ : S 29 x5 = S 29 (S 57 (S 1092 0 - 1)) := congrArg ((S 29)) (la_step__2 h75_)
        have e944_ : sm_dp (S 1100024) (S 1100023 x5) = sm_dp (S 1100024) (S 1100023 (S 57 (S 1092 0 - 1))) := congrArg ((sm_dp (S 1100024))) e939_
        exact (la_step__11 h40_ e944_)
      refine ⟨(sm_TC_t h41_ h118_), ?_⟩
      refine ⟨h42_, ?_⟩
      refine ⟨h43_, ?_⟩
      refine ⟨h44_, ?_⟩
      refine ⟨h45_, ?_⟩
      refine ⟨h75_, ?_⟩
      refine ⟨(la_step__116 h46_ h116_ h929_), ?_⟩
      refine ⟨(la_step__13 h46_ h67_), ?_⟩
      refine ⟨(sm_SK_q h47_ (la_step__2 h114_) rfl rfl), ?_⟩
      refine ⟨h91_, ?_⟩
      refine ⟨(la_step__27 h92_ h933_), ?_⟩
      refine ⟨(la_step__16 h96_), ?_⟩
      refine ⟨(la_step__17 h46_ h116_), ?_⟩
      refine ⟨la_step__18, ?_⟩
      refine ⟨(la_step__19 h46_ h108_ h116_), ?_⟩
      refine ⟨(la_step__20 h46_ h67_), ?_⟩
      refine ⟨(la_step__117 h46_ h116_ h929_), ?_⟩
      refine ⟨(la_step__118 h46_ h116_ h931_), ?_⟩
      refine ⟨h933_, ?_⟩
      refine ⟨h934_, ?_⟩
      refine ⟨(la_step__119 h46_ h116_ h935_), ?_⟩
      refine ⟨h936_, ?_⟩
      exact h937_
    intro g212
    rintro ⟨h945_, ⟨h946_, ⟨h947_, ⟨h948_, ⟨h949_, ⟨h950_, ⟨h951_, ⟨h952_, ⟨h953_, ⟨h954_, ⟨h955_, ⟨h956_, ⟨h957_, ⟨h958_, ⟨h959_, ⟨h960_, ⟨h961_, ⟨h962_, ⟨h963_, ⟨h964_, ⟨h965_, ⟨h966_, ⟨h967_, ⟨h968_, h969_⟩⟩⟩⟩⟩⟩⟩⟩⟩⟩⟩⟩⟩⟩⟩⟩⟩⟩⟩⟩⟩⟩⟩⟩
    refine ⟨h945_, ?_⟩
    refine ⟨h5_, ?_⟩
    refine ⟨h947_, ?_⟩
    refine ⟨h948_, ?_⟩
    refine ⟨h949_, ?_⟩
    refine ⟨h950_, ?_⟩
    refine ⟨h951_, ?_⟩
    refine ⟨h11_, ?_⟩
    refine ⟨h12_, ?_⟩
    refine ⟨h13_, ?_⟩
    refine ⟨h955_, ?_⟩
    refine ⟨h956_, ?_⟩
    refine ⟨h957_, ?_⟩
    refine ⟨h958_, ?_⟩
    refine ⟨h959_, ?_⟩
    refine ⟨h960_, ?_⟩
    refine ⟨h961_, ?_⟩
    refine ⟨h962_, ?_⟩
    refine ⟨h963_, ?_⟩
    refine ⟨h964_, ?_⟩
    refine ⟨h965_, ?_⟩
    refine ⟨h966_, ?_⟩
    refine ⟨h967_, ?_⟩
    refine ⟨h968_, ?_⟩
    refine ⟨h969_, ?_⟩
    refine ⟨la_step__14, ?_⟩
    refine ⟨la_step__24, ?_⟩
    refine ⟨h53_, ?_⟩
    refine ⟨h54_, ?_⟩
    exact (sm_PT_w h55_ (Int.le_refl _) h966_)
  refine ⟨?_, ?_⟩
  · skip
    intro h970_
    intro h971_
    have h972_ := (h971_ h22_)
    have h973_ := (h972_ (la_step__4 h35_ h75_))
    have h974_ := (h973_ (la_step__5 h36_ h75_))
    obtain ⟨⟨h975_, ⟨h976_, h977_⟩⟩, ⟨h978_, ⟨h979_, ⟨h980_, ⟨h981_, ⟨h982_, h983_⟩⟩⟩⟩⟩⟩ := (h974_ h970_)
    refine ⟨?_, ?_⟩
    · skip
      refine ⟨h2_, ?_⟩
      refine ⟨h3_, ?_⟩
      refine ⟨h56_, ?_⟩
      refine ⟨h4_, ?_⟩
      refine ⟨h5_, ?_⟩
      refine ⟨h6_, ?_⟩
      refine ⟨h7_, ?_⟩
      refine ⟨h8_, ?_⟩
      refine ⟨h9_, ?_⟩
      refine ⟨h10_, ?_⟩
      refine ⟨h11_, ?_⟩
      refine ⟨h12_, ?_⟩
      refine ⟨h13_, ?_⟩
      refine ⟨h14_, ?_⟩
      refine ⟨h15_, ?_⟩
      refine ⟨h16_, ?_⟩
      refine ⟨h17_, ?_⟩
      refine ⟨h18_, ?_⟩
      refine ⟨h19_, ?_⟩
      refine ⟨h20_, ?_⟩
      refine ⟨h21_, ?_⟩
      refine ⟨h22_, ?_⟩
      refine ⟨h23_, ?_⟩
      refine ⟨h24_, ?_⟩
      refine ⟨h25_, ?_⟩
      refine ⟨h26_, ?_⟩
      refine ⟨h27_, ?_⟩
      refine ⟨h28_, ?_⟩
      refine ⟨h29_, ?_⟩
      refine ⟨h30_, ?_⟩
      refine ⟨h31_, ?_⟩
      refine ⟨h32_, ?_⟩
      refine ⟨h33_, ?_⟩
      refine ⟨h34_, ?_⟩
      refine ⟨(la_step__121 h86_ h975_), ?_⟩
      refine ⟨(la_step__26 h979_), ?_⟩
      refine ⟨(la_step__10 h37_ h120_), ?_⟩
      refine ⟨h38_, ?_⟩
      refine ⟨h39_, ?_⟩
      refine ⟨?_, ?_⟩
      · skip
        have e984_ : S 1100007 x5 = S 1100007 (S 57 (S 1092 0 - 1)) := congrArg ((S 1100007)) (la_step__2 h75_)
        have e985_ : S 1100023 x5 = S 1100023 (S 57 (S 1092 0 - 1)) := congrArg ((S 1100023)) (la_step__2 h75_)
        have e986_ : S 1100024 x5 = S 1100024 (S 57 (S 1092 0 - 1)) := congrArg ((S 1100024)) (la_step__2 h75_)
        have e987_ : S 1100025 x5 = S 1100025 (S 57 (S 1092 0 - 1)) := congrArg ((S 1100025)) (la_step__2 h75_)
        have e988_ : S 26 x5 = S 26 (S 57 (S 1092 0 - 1)) := congrArg ((S 26)) (la_step__2 h75_)
        have e989_ : S 29 x5 = S 29 (S 57 (S 1092 0 - 1)) := congrArg ((S 29)) (la_step__2 h75_)
        have e990_ : sm_dp (S 1100024) (S 1100023 x5) = sm_dp (S 1100024) (S 1100023 (S 57 (S 1092 0 - 1))) := congrArg ((sm_dp (S 1100024))) e985_
        exact (la_step__11 h40_ e990_)
      refine ⟨(sm_TC_t h41_ h118_), ?_⟩
      refine ⟨h42_, ?_⟩
      refine ⟨h43_, ?_⟩
      refine ⟨h44_, ?_⟩
      refine ⟨h45_, ?_⟩
      refine ⟨h75_, ?_⟩
      refine ⟨(la_step__122 h46_ h116_ h975_), ?_⟩
      refine ⟨(la_step__13 h46_ h67_), ?_⟩
      refine ⟨(sm_SK_q h47_ (la_step__2 h114_) rfl rfl), ?_⟩
      refine ⟨h91_, ?_⟩
      refine ⟨(la_step__27 h92_ h979_), ?_⟩
      refine ⟨(la_step__16 h96_), ?_⟩
      refine ⟨(la_step__17 h46_ h116_), ?_⟩
      refine ⟨la_step__18, ?_⟩
      refine ⟨(la_step__19 h46_ h108_ h116_), ?_⟩
      refine ⟨(la_step__20 h46_ h67_), ?_⟩
      refine ⟨(la_step__123 h46_ h116_ h975_), ?_⟩
      refine ⟨(la_step__124 h46_ h116_ h977_), ?_⟩
      refine ⟨h979_, ?_⟩
      refine ⟨h980_, ?_⟩
      refine ⟨(la_step__125 h46_ h116_ h981_), ?_⟩
      refine ⟨h982_, ?_⟩
      refine ⟨h983_, ?_⟩
      exact h52_
    intro g219
    rintro ⟨h991_, ⟨h992_, ⟨h993_, ⟨h994_, ⟨h995_, ⟨h996_, ⟨h997_, ⟨h998_, ⟨h999_, ⟨h1000_, ⟨h1001_, ⟨h1002_, ⟨h1003_, ⟨h1004_, ⟨h1005_, ⟨h1006_, ⟨h1007_, ⟨h1008_, ⟨h1009_, ⟨h1010_, ⟨h1011_, ⟨h1012_, ⟨h1013_, ⟨h1014_, ⟨h1015_, ⟨h1016_, h1017_⟩⟩⟩⟩⟩⟩⟩⟩⟩⟩⟩⟩⟩⟩⟩⟩⟩⟩⟩⟩⟩⟩⟩⟩⟩⟩
    refine ⟨h991_, ?_⟩
    refine ⟨h992_, ?_⟩
    refine ⟨h993_, ?_⟩
    refine ⟨h994_, ?_⟩
    refine ⟨h995_, ?_⟩
    refine ⟨h996_, ?_⟩
    refine ⟨h997_, ?_⟩
    refine ⟨h998_, ?_⟩
    refine ⟨h999_, ?_⟩
    refine ⟨h1000_, ?_⟩
    refine ⟨h1001_, ?_⟩
    refine ⟨h1002_, ?_⟩
    refine ⟨h1003_, ?_⟩
    refine ⟨h1004_, ?_⟩
    refine ⟨h1005_, ?_⟩
    refine ⟨h1006_, ?_⟩
    refine ⟨h1007_, ?_⟩
    refine ⟨h1008_, ?_⟩
    refine ⟨h1009_, ?_⟩
    refine ⟨h1010_, ?_⟩
    refine ⟨h1011_, ?_⟩
    refine ⟨h1012_, ?_⟩
    refine ⟨h1013_, ?_⟩
    refine ⟨h1014_, ?_⟩
    refine ⟨h1015_, ?_⟩
    refine ⟨h1016_, ?_⟩
    refine ⟨h1017_, ?_⟩
    refine ⟨h53_, ?_⟩
    refine ⟨h54_, ?_⟩
    exact (sm_PT_w h55_ (Int.le_refl _) h1012_)
  refine ⟨?_, ?_⟩
  · skip
    intro h1018_
    intro h1019_
    have h1020_ := (h1019_ h22_)
    have h1021_ := (h1020_ (la_step__4 h35_ h75_))
    have h1022_ := (h1021_ (la_step__5 h36_ h75_))
    obtain ⟨⟨h1023_, ⟨h1024_, h1025_⟩⟩, ⟨h1026_, ⟨h1027_, ⟨h1028_, ⟨h1029_, ⟨h1030_, h1031_⟩⟩⟩⟩⟩⟩ := (h1022_ (la_step__127 h1018_))
    refine ⟨?_, ?_⟩
    · skip
      refine ⟨h2_, ?_⟩
      refine ⟨h3_, ?_⟩
      refine ⟨h56_, ?_⟩
      refine ⟨h4_, ?_⟩
      refine ⟨h5_, ?_⟩
      refine ⟨h6_, ?_⟩
      refine ⟨h7_, ?_⟩
      refine ⟨h8_, ?_⟩
      refine ⟨h9_, ?_⟩
      refine ⟨h10_, ?_⟩
      refine ⟨h11_, ?_⟩
      refine ⟨h12_, ?_⟩
      refine ⟨h13_, ?_⟩
      refine ⟨h14_, ?_⟩
      refine ⟨h15_, ?_⟩
      refine ⟨h16_, ?_⟩
      refine ⟨h17_, ?_⟩
      refine ⟨h18_, ?_⟩
      refine ⟨h19_, ?_⟩
      refine ⟨h20_, ?_⟩
      refine ⟨h21_, ?_⟩
      refine ⟨h22_, ?_⟩
      refine ⟨h23_, ?_⟩
      refine ⟨h24_, ?_⟩
      refine ⟨h25_, ?_⟩
      refine ⟨h26_, ?_⟩
      refine ⟨h27_, ?_⟩
      refine ⟨h28_, ?_⟩
      refine ⟨h29_, ?_⟩
      refine ⟨h30_, ?_⟩
      refine ⟨h31_, ?_⟩
      refine ⟨h32_, ?_⟩
      refine ⟨h33_, ?_⟩
      refine ⟨h34_, ?_⟩
      refine ⟨(la_step__4 h35_ h75_), ?_⟩
      refine ⟨(la_step__26 h1027_), ?_⟩
      refine ⟨(la_step__10 h37_ h120_), ?_⟩
      refine ⟨h38_, ?_⟩
      refine ⟨h39_, ?_⟩
      refine ⟨?_, ?_⟩
      · skip
        have e1032_ : S 1100007 x5 = S 1100007 (S 57 (S 1092 0 - 1)) := congrArg ((S 1100007)) (la_step__2 h75_)
        have e1033_ : S 1100023 x5 = S 1100023 (S 57 (S 1092 0 - 1)) := congrArg ((S 1100023)) (la_step__2 h75_)
        have e1034_ : S 1100024 x5 = S 1100024 (S 57 (S 1092 0 - 1)) := congrArg ((S 1100024)) (la_step__2 h75_)
        have e1035_ : S 1100025 x5 = S 1100025 (S 57 (S 1092 0 - 1)) := congrArg ((S 1100025)) (la_step__2 h75_)
        have e1036_ : S 26 x5 = S 26 (S 57 (S 1092 0 - 1)) := congrArg ((S 26)) (la_step__2 h75_)
        have e1037_ : S 29 x5 = S 29 (S 57 (S 1092 0 - 1)) := congrArg ((S 29)) (la_step__2 h75_)
        have e1038_ : sm_dp (S 1100024) (S 1100023 x5) = sm_dp (S 1100024) (S 1100023 (S 57 (S 1092 0 - 1))) := congrArg ((sm_dp (S 1100024))) e1033_
        exact (la_step__11 h40_ e1038_)
      refine ⟨(sm_TC_t h41_ h118_), ?_⟩
      refine ⟨h42_, ?_⟩
      refine ⟨h43_, ?_⟩
      refine ⟨h44_, ?_⟩
      refine ⟨h45_, ?_⟩
      refine ⟨h75_, ?_⟩
      refine ⟨(la_step__116 h46_ h116_ h1023_), ?_⟩
      refine ⟨(la_step__13 h46_ h67_), ?_⟩
      refine ⟨(sm_SK_q h47_ (la_step__2 h114_) rfl rfl), ?_⟩
      refine ⟨h91_, ?_⟩
      refine ⟨(la_step__27 h92_ h1027_), ?_⟩
      refine ⟨(la_step__16 h96_), ?_⟩
      refine ⟨(la_step__17 h46_ h116_), ?_⟩
      refine ⟨la_step__18, ?_⟩
      refine ⟨(la_step__19 h46_ h108_ h116_), ?_⟩
      refine ⟨(la_step__20 h46_ h67_), ?_⟩
      refine ⟨(la_step__117 h46_ h116_ h1023_), ?_⟩
      refine ⟨(la_step__118 h46_ h116_ h1025_), ?_⟩
      refine ⟨h1027_, ?_⟩
      refine ⟨h1028_, ?_⟩
      refine ⟨(la_step__119 h46_ h116_ h1029_), ?_⟩
      refine ⟨h1030_, ?_⟩
      exact h1031_
    intro g226
    rintro ⟨h1039_, ⟨h1040_, ⟨h1041_, ⟨h1042_, ⟨h1043_, ⟨h1044_, ⟨h1045_, ⟨h1046_, ⟨h1047_, ⟨h1048_, ⟨h1049_, ⟨h1050_, ⟨h1051_, ⟨h1052_, ⟨h1053_, ⟨h1054_, ⟨h1055_, ⟨h1056_, ⟨h1057_, ⟨h1058_, ⟨h1059_, ⟨h1060_, ⟨h1061_, ⟨h1062_, h1063_⟩⟩⟩⟩⟩⟩⟩⟩⟩⟩⟩⟩⟩⟩⟩⟩⟩⟩⟩⟩⟩⟩⟩⟩
    refine ⟨h1039_, ?_⟩
    refine ⟨h1040_, ?_⟩
    refine ⟨h1041_, ?_⟩
    refine ⟨h1042_, ?_⟩
    refine ⟨h1043_, ?_⟩
    refine ⟨h1044_, ?_⟩
    refine ⟨h1045_, ?_⟩
    refine ⟨h1046_, ?_⟩
    refine ⟨h1047_, ?_⟩
    refine ⟨h13_, ?_⟩
    refine ⟨h1049_, ?_⟩
    refine ⟨h1050_, ?_⟩
    refine ⟨h1051_, ?_⟩
    refine ⟨h1052_, ?_⟩
    refine ⟨h1053_, ?_⟩
    refine ⟨h1054_, ?_⟩
    refine ⟨h1055_, ?_⟩
    refine ⟨h1056_, ?_⟩
    refine ⟨h1057_, ?_⟩
    refine ⟨h1058_, ?_⟩
    refine ⟨h1059_, ?_⟩
    refine ⟨h1060_, ?_⟩
    refine ⟨h1061_, ?_⟩
    refine ⟨h1062_, ?_⟩
    refine ⟨h1063_, ?_⟩
    refine ⟨la_step__14, ?_⟩
    refine ⟨la_step__24, ?_⟩
    refine ⟨h53_, ?_⟩
    refine ⟨h54_, ?_⟩
    exact (sm_PT_w h55_ (Int.le_refl _) h1060_)
  refine ⟨?_, ?_⟩
  · skip
    intro h1064_
    intro h1065_
    have h1066_ := (h1065_ h22_)
    have h1067_ := (h1066_ (la_step__4 h35_ h75_))
    have h1068_ := (h1067_ (la_step__5 h36_ h75_))
    obtain ⟨⟨h1069_, h1070_⟩, ⟨⟨h1071_, ⟨h1072_, h1073_⟩⟩, ⟨h1074_, ⟨h1075_, ⟨h1076_, ⟨h1077_, ⟨h1078_, h1079_⟩⟩⟩⟩⟩⟩⟩ := (h1068_ h1064_)
    intro h1080_
    have h1081_ := (h1080_ (sm_SK_q h47_ (la_step__2 h114_) rfl rfl))
    have h1082_ := (h1081_ h23_)
    have h1083_ := (h1082_ (la_step__52 h46_ h116_ h1071_))
    have h1084_ := (h1083_ la_step__53)
    have h1085_ := (h1084_ (la_step__27 h92_ h1075_))
    have h1086_ := (h1085_ la_step__18)
    have h1087_ := (h1086_ (la_step__17 h46_ h116_))
    have h1088_ := (h1087_ (la_step__16 h96_))
    have h1089_ := (h1088_ h1073_)
    refine ⟨?_, ?_⟩
    · skip
      intro g233
      intro h1090_
      refine ⟨?_, ?_⟩
      · skip
        refine ⟨?_, ?_⟩
        · skip
          intro h1091_
          intro h1092_
          refine ⟨h4_, ?_⟩
          refine ⟨h5_, ?_⟩
          refine ⟨h6_, ?_⟩
          refine ⟨h7_, ?_⟩
          refine ⟨h8_, ?_⟩
          refine ⟨h9_, ?_⟩
          refine ⟨h10_, ?_⟩
          refine ⟨h11_, ?_⟩
          refine ⟨h12_, ?_⟩
          refine ⟨h13_, ?_⟩
          refine ⟨h14_, ?_⟩
          refine ⟨h15_, ?_⟩
          refine ⟨h16_, ?_⟩
          refine ⟨h17_, ?_⟩
          refine ⟨h18_, ?_⟩
          refine ⟨h19_, ?_⟩
          refine ⟨h20_, ?_⟩
          refine ⟨h21_, ?_⟩
          refine ⟨h22_, ?_⟩
          refine ⟨h23_, ?_⟩
          refine ⟨h24_, ?_⟩
          refine ⟨h25_, ?_⟩
          refine ⟨h26_, ?_⟩
          refine ⟨h27_, ?_⟩
          refine ⟨h28_, ?_⟩
          refine ⟨h29_, ?_⟩
          refine ⟨h30_, ?_⟩
          refine ⟨h31_, ?_⟩
          refine ⟨h32_, ?_⟩
          refine ⟨h33_, ?_⟩
          refine ⟨h34_, ?_⟩
          refine ⟨(la_step__6 h91_ h92_), ?_⟩
          refine ⟨(la_step__26 h1075_), ?_⟩
          refine ⟨(la_step__10 h37_ h120_), ?_⟩
          refine ⟨h38_, ?_⟩
          refine ⟨h39_, ?_⟩
          refine ⟨?_, ?_⟩
          · skip
            have e1093_ : S 1100007 x5 = S 1100007 (S 57 (S 1092 0 - 1)) := congrArg ((S 1100007)) (la_step__2 h75_)
            have e1094_ : S 1100023 x5 = S 1100023 (S 57 (S 1092 0 - 1)) := congrArg ((S 1100023)) (la_step__2 h75_)
            have e1095_ : S 1100024 x5 = S 1100024 (S 57 (S 1092 0 - 1)) := congrArg ((S 1100024)) (la_step__2 h75_)
            have e1096_ : S 1100025 x5 = S 1100025 (S 57 (S 1092 0 - 1)) := congrArg ((S 1100025)) (la_step__2 h75_)
            have e1097_ : S 26 x5 = S 26 (S 57 (S 1092 0 - 1)) := congrArg ((S 26)) (la_step__2 h75_)
            have e1098_ : S 29 x5 = S 29 (S 57 (S 1092 0 - 1)) := congrArg ((S 29)) (la_step__2 h75_)
            have e1099_ : sm_dp (S 1100024) (S 1100023 x5) = sm_dp (S 1100024) (S 1100023 (S 57 (S 1092 0 - 1))) := congrArg ((sm_dp (S 1100024))) e1094_
            exact (la_step__11 h40_ e1099_)
          refine ⟨(sm_TC_t h41_ h118_), ?_⟩
          refine ⟨h42_, ?_⟩
          refine ⟨h43_, ?_⟩
          refine ⟨h44_, ?_⟩
          refine ⟨h45_, ?_⟩
          refine ⟨h75_, ?_⟩
          refine ⟨(la_step__129 h46_ h116_ h1071_), ?_⟩
          refine ⟨(la_step__13 h46_ h67_), ?_⟩
          refine ⟨(sm_SK_q h47_ (la_step__2 h114_) rfl rfl), ?_⟩
          refine ⟨h91_, ?_⟩
          refine ⟨(la_step__27 h92_ h1075_), ?_⟩
          refine ⟨(la_step__16 h96_), ?_⟩
          refine ⟨la_step__130, ?_⟩
          refine ⟨(la_step__131 h46_ h116_ h1071_), ?_⟩
          refine ⟨(la_step__132 h46_ h67_), ?_⟩
          refine ⟨h1090_, ?_⟩
          refine ⟨(la_step__133 h46_ h116_ h1073_), ?_⟩
          refine ⟨h1075_, ?_⟩
          refine ⟨h1076_, ?_⟩
          refine ⟨(la_step__134 h46_ h116_ h1077_), ?_⟩
          refine ⟨h1078_, ?_⟩
          exact h1079_
        intro h1100_
        exact h56_
      intro g239
      rintro ⟨h1101_, h1102_⟩
      have h1103_ := (h1101_ h2_)
      obtain ⟨h1104_, ⟨h1105_, ⟨h1106_, ⟨h1107_, ⟨h1108_, ⟨h1109_, ⟨h1110_, ⟨h1111_, ⟨h1112_, ⟨h1113_, ⟨h1114_, ⟨h1115_, ⟨h1116_, ⟨h1117_, h1118_⟩⟩⟩⟩⟩⟩⟩⟩⟩⟩⟩⟩⟩⟩ := (h1103_ h3_)
      refine ⟨h4_, ?_⟩
      refine ⟨h5_, ?_⟩
      refine ⟨h6_, ?_⟩
      refine ⟨h7_, ?_⟩
      refine ⟨h8_, ?_⟩
      refine ⟨h9_, ?_⟩
      refine ⟨h10_, ?_⟩
      refine ⟨h11_, ?_⟩
      refine ⟨h12_, ?_⟩
      refine ⟨h13_, ?_⟩
      refine ⟨h14_, ?_⟩
      refine ⟨h15_, ?_⟩
      refine ⟨?_, ?_⟩
      · skip
        intro h1119_
        refine ⟨h16_, ?_⟩
        exact h17_
      refine ⟨h18_, ?_⟩
      refine ⟨h19_, ?_⟩
      refine ⟨h20_, ?_⟩
      refine ⟨h21_, ?_⟩
      refine ⟨h30_, ?_⟩
      refine ⟨(la_step__38 h2_), ?_⟩
      refine ⟨(la_step__39 h33_), ?_⟩
      refine ⟨h34_, ?_⟩
      refine ⟨la_step__14, ?_⟩
      refine ⟨h1102_, ?_⟩
      refine ⟨h1101_, ?_⟩
      refine ⟨(la_step__40 h2_ h3_ h33_), ?_⟩
      refine ⟨la_step__14, ?_⟩
      refine ⟨la_step__24, ?_⟩
      refine ⟨h53_, ?_⟩
      refine ⟨h54_, ?_⟩
      exact h55_
    intro h1120_
    intro h1121_
    refine ⟨?_, ?_⟩
    · skip
      intro h1122_
      refine ⟨(la_step__54 h33_ h34_ h46_ h67_ h116_ h1071_), ?_⟩
      refine ⟨⟨h19_, ⟨h20_, ⟨h21_, (la_step__136 h20_ (sm_VO_e h1089_).2.2.1)⟩⟩⟩, ?_⟩
      intro g249
      rintro ⟨h1123_, h1124_⟩
      exact (sm_VO_i (la_step__137 h1123_) (la_step__138 h1124_) (la_step__139 h1124_) (la_step__140 h1124_))
    intro h1125_
    refine ⟨(la_step__54 h33_ h34_ h46_ h67_ h116_ h1071_), ?_⟩
    refine ⟨?_, ?_⟩
    · skip
      refine ⟨(la_step__141 h10_ (sm_VO_e h1089_).2.1 (sm_VO_e h1089_).2.2.2), ?_⟩
      refine ⟨(sm_VO_e h1089_).1, ?_⟩
      exact (sm_VO_e h1089_).2.1
    intro r261
    intro h1126_
    rintro ⟨h1127_, h1128_⟩
    intro g262
    rintro ⟨h1129_, h1130_⟩
    exact (sm_VO_i (la_step__142 h1129_) (la_step__143 h1129_) (la_step__144 h19_ h1127_ h1128_ h1130_) (la_step__145 h1127_ h1129_ h1130_))
  refine ⟨?_, ?_⟩
  · skip
    intro h1131_
    intro h1132_
    have h1133_ := (h1132_ h22_)
    have h1134_ := (h1133_ (la_step__4 h35_ h75_))
    have h1135_ := (h1134_ (la_step__5 h36_ h75_))
    obtain ⟨⟨h1136_, h1137_⟩, ⟨⟨h1138_, ⟨h1139_, h1140_⟩⟩, ⟨h1141_, ⟨h1142_, ⟨h1143_, ⟨h1144_, ⟨h1145_, h1146_⟩⟩⟩⟩⟩⟩⟩ := (h1135_ h1131_)
    refine ⟨?_, ?_⟩
    · skip
      refine ⟨h2_, ?_⟩
      refine ⟨h3_, ?_⟩
      refine ⟨h56_, ?_⟩
      refine ⟨h4_, ?_⟩
      refine ⟨h5_, ?_⟩
      refine ⟨h6_, ?_⟩
      refine ⟨h7_, ?_⟩
      refine ⟨h8_, ?_⟩
      refine ⟨h9_, ?_⟩
      refine ⟨h10_, ?_⟩
      refine ⟨h11_, ?_⟩
      refine ⟨h12_, ?_⟩
      refine ⟨h13_, ?_⟩
      refine ⟨h14_, ?_⟩
      refine ⟨h15_, ?_⟩
      refine ⟨h16_, ?_⟩
      refine ⟨h17_, ?_⟩
      refine ⟨h18_, ?_⟩
      refine ⟨h19_, ?_⟩
      refine ⟨h20_, ?_⟩
      refine ⟨h21_, ?_⟩
      refine ⟨h22_, ?_⟩
      refine ⟨h23_, ?_⟩
      refine ⟨h24_, ?_⟩
      refine ⟨h25_, ?_⟩
      refine ⟨h26_, ?_⟩
      refine ⟨h27_, ?_⟩
      refine ⟨h28_, ?_⟩
      refine ⟨h29_, ?_⟩
      refine ⟨h30_, ?_⟩
      refine ⟨h31_, ?_⟩
      refine ⟨h32_, ?_⟩
      refine ⟨h33_, ?_⟩
      refine ⟨h34_, ?_⟩
      refine ⟨(la_step__4 h35_ h75_), ?_⟩
      refine ⟨(la_step__26 h1142_), ?_⟩
      refine ⟨(la_step__10 h37_ h120_), ?_⟩
      refine ⟨h38_, ?_⟩
      refine ⟨h39_, ?_⟩
      refine ⟨?_, ?_⟩
      · skip
        have e1147_ : S 1100007 x5 = S 1100007 (S 57 (S 1092 0 - 1)) := congrArg ((S 1100007)) (la_step__2 h75_)
        have e1148_ : S 1100023 x5 = S 1100023 (S 57 (S 1092 0 - 1)) := congrArg ((S 1100023)) (la_step__2 h75_)
        have e1149_ : S 1100024 x5 = S 1100024 (S 57 (S 1092 0 - 1)) := congrArg ((S 1100024)) (la_step__2 h75_)
        have e1150_ : S 1100025 x5 = S 1100025 (S 57 (S 1092 0 - 1)) := congrArg ((S 1100025)) (la_step__2 h75_)
        have e1151_ : S 26 x5 = S 26 (S 57 (S 1092 0 - 1)) := congrArg ((S 26)) (la_step__2 h75_)
        have e1152_ : S 29 x5 = S 29 (S 57 (S 1092 0 - 1)) := congrArg ((S 29)) (la_step__2 h75_)
        have e1153_ : sm_dp (S 1100024) (S 1100023 x5) = sm_dp (S 1100024) (S 1100023 (S 57 (S 1092 0 - 1))) := congrArg ((sm_dp (S 1100024))) e1148_
        exact (la_step__11 h40_ e1153_)
      refine ⟨(sm_TC_t h41_ h118_), ?_⟩
      refine ⟨h42_, ?_⟩
      refine ⟨h43_, ?_⟩
      refine ⟨h44_, ?_⟩
      refine ⟨h45_, ?_⟩
      refine ⟨h75_, ?_⟩
      refine ⟨(la_step__116 h46_ h116_ h1138_), ?_⟩
      refine ⟨(la_step__13 h46_ h67_), ?_⟩
      refine ⟨(sm_SK_q h47_ (la_step__2 h114_) rfl rfl), ?_⟩
      refine ⟨h91_, ?_⟩
      refine ⟨(la_step__27 h92_ h1142_), ?_⟩
      refine ⟨(la_step__16 h96_), ?_⟩
      refine ⟨(la_step__17 h46_ h116_), ?_⟩
      refine ⟨la_step__18, ?_⟩
      refine ⟨(la_step__19 h46_ h108_ h116_), ?_⟩
      refine ⟨(la_step__20 h46_ h67_), ?_⟩
      refine ⟨(la_step__117 h46_ h116_ h1138_), ?_⟩
      refine ⟨(la_step__118 h46_ h116_ h1140_), ?_⟩
      refine ⟨h1142_, ?_⟩
      refine ⟨h1143_, ?_⟩
      refine ⟨(la_step__119 h46_ h116_ h1144_), ?_⟩
      refine ⟨h1145_, ?_⟩
      refine ⟨h1146_, ?_⟩
      refine ⟨h1136_, ?_⟩
      exact h1137_
    intro g270
    rintro ⟨h1154_, ⟨h1155_, ⟨h1156_, ⟨h1157_, ⟨h1158_, ⟨h1159_, ⟨h1160_, ⟨h1161_, ⟨h1162_, ⟨h1163_, ⟨h1164_, ⟨h1165_, ⟨h1166_, ⟨h1167_, ⟨h1168_, ⟨h1169_, ⟨h1170_, ⟨h1171_, ⟨h1172_, ⟨h1173_, ⟨h1174_, ⟨h1175_, ⟨h1176_, ⟨h1177_, h1178_⟩⟩⟩⟩⟩⟩⟩⟩⟩⟩⟩⟩⟩⟩⟩⟩⟩⟩⟩⟩⟩⟩⟩⟩
    refine ⟨h1154_, ?_⟩
    refine ⟨h5_, ?_⟩
    refine ⟨h1156_, ?_⟩
    refine ⟨h1157_, ?_⟩
    refine ⟨h1158_, ?_⟩
    refine ⟨h1159_, ?_⟩
    refine ⟨h1160_, ?_⟩
    refine ⟨h11_, ?_⟩
    refine ⟨h12_, ?_⟩
    refine ⟨h13_, ?_⟩
    refine ⟨h1164_, ?_⟩
    refine ⟨h1165_, ?_⟩
    refine ⟨h1166_, ?_⟩
    refine ⟨h1167_, ?_⟩
    refine ⟨h1168_, ?_⟩
    refine ⟨h1169_, ?_⟩
    refine ⟨h1170_, ?_⟩
    refine ⟨h1171_, ?_⟩
    refine ⟨h1172_, ?_⟩
    refine ⟨h1173_, ?_⟩
    refine ⟨h1174_, ?_⟩
    refine ⟨h1175_, ?_⟩
    refine ⟨h1176_, ?_⟩
    refine ⟨h1177_, ?_⟩
    refine ⟨h1178_, ?_⟩
    refine ⟨la_step__14, ?_⟩
    refine ⟨la_step__24, ?_⟩
    refine ⟨h53_, ?_⟩
    refine ⟨h54_, ?_⟩
    exact (sm_PT_w h55_ (Int.le_refl _) h1175_)
  refine ⟨?_, ?_⟩
  · skip
    intro h1179_
    intro h1180_
    have h1181_ := (h1180_ h22_)
    have h1182_ := (h1181_ (la_step__4 h35_ h75_))
    have h1183_ := (h1182_ (la_step__5 h36_ h75_))
    obtain ⟨⟨h1184_, h1185_⟩, ⟨⟨h1186_, ⟨h1187_, h1188_⟩⟩, ⟨h1189_, ⟨h1190_, ⟨h1191_, ⟨h1192_, ⟨h1193_, h1194_⟩⟩⟩⟩⟩⟩⟩ := (h1183_ h1179_)
    refine ⟨?_, ?_⟩
    · skip
      refine ⟨h1184_, ?_⟩
      refine ⟨h1185_, ?_⟩
      refine ⟨h2_, ?_⟩
      refine ⟨h3_, ?_⟩
      refine ⟨h56_, ?_⟩
      refine ⟨h4_, ?_⟩
      refine ⟨h5_, ?_⟩
      refine ⟨h6_, ?_⟩
      refine ⟨h7_, ?_⟩
      refine ⟨h8_, ?_⟩
      refine ⟨h9_, ?_⟩
      refine ⟨h10_, ?_⟩
      refine ⟨h11_, ?_⟩
      refine ⟨h12_, ?_⟩
      refine ⟨h13_, ?_⟩
      refine ⟨h14_, ?_⟩
      refine ⟨h15_, ?_⟩
      refine ⟨h16_, ?_⟩
      refine ⟨h17_, ?_⟩
      refine ⟨h18_, ?_⟩
      refine ⟨h19_, ?_⟩
      refine ⟨h20_, ?_⟩
      refine ⟨h21_, ?_⟩
      refine ⟨h22_, ?_⟩
      refine ⟨h23_, ?_⟩
      refine ⟨h24_, ?_⟩
      refine ⟨h25_, ?_⟩
      refine ⟨h26_, ?_⟩
      refine ⟨h27_, ?_⟩
      refine ⟨h28_, ?_⟩
      refine ⟨h29_, ?_⟩
      refine ⟨h30_, ?_⟩
      refine ⟨h31_, ?_⟩
      refine ⟨h32_, ?_⟩
      refine ⟨h33_, ?_⟩
      refine ⟨h34_, ?_⟩
      refine ⟨(la_step__4 h35_ h75_), ?_⟩
      refine ⟨(la_step__26 h1190_), ?_⟩
      refine ⟨(la_step__10 h37_ h120_), ?_⟩
      refine ⟨h38_, ?_⟩
      refine ⟨h39_, ?_⟩
      refine ⟨?_, ?_⟩
      · skip
        have e1195_ : S 1100007 x5 = S 1100007 (S 57 (S 1092 0 - 1)) := congrArg ((S 1100007)) (la_step__2 h75_)
        have e1196_ : S 1100023 x5 = S 1100023 (S 57 (S 1092 0 - 1)) := congrArg ((S 1100023)) (la_step__2 h75_)
        have e1197_ : S 1100024 x5 = S 1100024 (S 57 (S 1092 0 - 1)) := congrArg ((S 1100024)) (la_step__2 h75_)
        have e1198_ : S 1100025 x5 = S 1100025 (S 57 (S 1092 0 - 1)) := congrArg ((S 1100025)) (la_step__2 h75_)
        have e1199_ : S 26 x5 = S 26 (S 57 (S 1092 0 - 1)) := congrArg ((S 26)) (la_step__2 h75_)
        have e1200_ : S 29 x5 = S 29 (S 57 (S 1092 0 - 1)) := congrArg ((S 29)) (la_step__2 h75_)
        have e1201_ : sm_dp (S 1100024) (S 1100023 x5) = sm_dp (S 1100024) (S 1100023 (S 57 (S 1092 0 - 1))) := congrArg ((sm_dp (S 1100024))) e1196_
        exact (la_step__11 h40_ e1201_)
      refine ⟨(sm_TC_t h41_ h118_), ?_⟩
      refine ⟨h42_, ?_⟩
      refine ⟨h43_, ?_⟩
      refine ⟨h44_, ?_⟩
      refine ⟨h45_, ?_⟩
      refine ⟨h75_, ?_⟩
      refine ⟨(la_step__12 h46_ h66_), ?_⟩
      refine ⟨(la_step__13 h46_ h67_), ?_⟩
      refine ⟨(sm_SK_q h47_ (la_step__2 h114_) rfl rfl), ?_⟩
      refine ⟨h91_, ?_⟩
      refine ⟨(la_step__27 h92_ h1190_), ?_⟩
      refine ⟨(la_step__16 h96_), ?_⟩
      refine ⟨(la_step__17 h46_ h116_), ?_⟩
      refine ⟨la_step__18, ?_⟩
      refine ⟨(la_step__19 h46_ h108_ h116_), ?_⟩
      refine ⟨(la_step__20 h46_ h67_), ?_⟩
      refine ⟨(la_step__148 h1184_), ?_⟩
      refine ⟨(la_step__149 h46_ h116_ h1186_), ?_⟩
      refine ⟨(la_step__150 h46_ h116_ h1188_), ?_⟩
      refine ⟨h1190_, ?_⟩
      refine ⟨h1191_, ?_⟩
      refine ⟨(la_step__151 h46_ h116_ h1192_), ?_⟩
      refine ⟨h1193_, ?_⟩
      refine ⟨h1194_, ?_⟩
      refine ⟨(la_step__150 h46_ h116_ h1187_), ?_⟩
      refine ⟨h49_, ?_⟩
      refine ⟨h50_, ?_⟩
      refine ⟨h51_, ?_⟩
      refine ⟨h52_, ?_⟩
      refine ⟨h53_, ?_⟩
      refine ⟨h54_, ?_⟩
      exact h55_
    intro g277
    rintro ⟨h1202_, ⟨h1203_, ⟨h1204_, ⟨h1205_, ⟨h1206_, ⟨h1207_, ⟨h1208_, ⟨h1209_, ⟨h1210_, ⟨h1211_, ⟨h1212_, ⟨h1213_, ⟨h1214_, ⟨h1215_, ⟨h1216_, ⟨h1217_, ⟨h1218_, ⟨h1219_, ⟨h1220_, ⟨h1221_, ⟨h1222_, ⟨h1223_, ⟨h1224_, ⟨h1225_, ⟨h1226_, ⟨h1227_, ⟨h1228_, ⟨h1229_, ⟨h1230_, h1231_⟩⟩⟩⟩⟩⟩⟩⟩⟩⟩⟩⟩⟩⟩⟩⟩⟩⟩⟩⟩⟩⟩⟩⟩⟩⟩⟩⟩⟩
    refine ⟨h1202_, ?_⟩
    refine ⟨h1203_, ?_⟩
    refine ⟨h1204_, ?_⟩
    refine ⟨h1205_, ?_⟩
    refine ⟨h1206_, ?_⟩
    refine ⟨h1207_, ?_⟩
    refine ⟨h1208_, ?_⟩
    refine ⟨h1209_, ?_⟩
    refine ⟨h1210_, ?_⟩
    refine ⟨h1211_, ?_⟩
    refine ⟨h1212_, ?_⟩
    refine ⟨h1213_, ?_⟩
    refine ⟨h1214_, ?_⟩
    refine ⟨h1215_, ?_⟩
    refine ⟨h1216_, ?_⟩
    refine ⟨h1217_, ?_⟩
    refine ⟨h1218_, ?_⟩
    refine ⟨h1219_, ?_⟩
    refine ⟨h1220_, ?_⟩
    refine ⟨h1221_, ?_⟩
    refine ⟨h1222_, ?_⟩
    refine ⟨h1223_, ?_⟩
    refine ⟨h1224_, ?_⟩
    refine ⟨h1225_, ?_⟩
    refine ⟨h1226_, ?_⟩
    refine ⟨h1227_, ?_⟩
    refine ⟨h1228_, ?_⟩
    refine ⟨h1229_, ?_⟩
    refine ⟨h1230_, ?_⟩
    exact h1231_
  intro h1232_
  intro h1233_
  have h1234_ := (h1233_ h22_)
  have h1235_ := (h1234_ (la_step__6 h91_ h92_))
  have h1236_ := (h1235_ (la_step__5 h36_ h75_))
  obtain ⟨⟨h1237_, ⟨h1238_, ⟨h1239_, h1240_⟩⟩⟩, ⟨⟨h1241_, ⟨h1242_, h1243_⟩⟩, ⟨h1244_, ⟨h1245_, ⟨h1246_, ⟨h1247_, ⟨h1248_, h1249_⟩⟩⟩⟩⟩⟩⟩ := (h1236_ h1232_)
  refine ⟨?_, ?_⟩
  · skip
    refine ⟨h1237_, ?_⟩
    refine ⟨h1238_, ?_⟩
    refine ⟨h1239_, ?_⟩
    refine ⟨h1240_, ?_⟩
    refine ⟨h2_, ?_⟩
    refine ⟨h3_, ?_⟩
    refine ⟨h56_, ?_⟩
    refine ⟨h4_, ?_⟩
    refine ⟨h5_, ?_⟩
    refine ⟨h6_, ?_⟩
    refine ⟨h7_, ?_⟩
    refine ⟨h8_, ?_⟩
    refine ⟨h9_, ?_⟩
    refine ⟨h10_, ?_⟩
    refine ⟨h11_, ?_⟩
    refine ⟨h12_, ?_⟩
    refine ⟨h13_, ?_⟩
    refine ⟨h14_, ?_⟩
    refine ⟨h15_, ?_⟩
    refine ⟨h16_, ?_⟩
    refine ⟨h17_, ?_⟩
    refine ⟨h18_, ?_⟩
    refine ⟨h19_, ?_⟩
    refine ⟨h20_, ?_⟩
    refine ⟨h21_, ?_⟩
    refine ⟨h22_, ?_⟩
    refine ⟨h23_, ?_⟩
    refine ⟨h24_, ?_⟩
    refine ⟨h25_, ?_⟩
    refine ⟨h26_, ?_⟩
    refine ⟨h27_, ?_⟩
    refine ⟨h28_, ?_⟩
    refine ⟨h29_, ?_⟩
    refine ⟨h30_, ?_⟩
    refine ⟨h31_, ?_⟩
    refine ⟨h32_, ?_⟩
    refine ⟨h33_, ?_⟩
    refine ⟨h34_, ?_⟩
    refine ⟨(la_step__6 h87_ h88_), ?_⟩
    refine ⟨(la_step__26 h1245_), ?_⟩
    refine ⟨(la_step__10 h37_ h120_), ?_⟩
    refine ⟨h38_, ?_⟩
    refine ⟨h39_, ?_⟩
    refine ⟨?_, ?_⟩
    · skip
      have e1250_ : S 1100007 x5 = S 1100007 (S 57 (S 1092 0 - 1)) := congrArg ((S 1100007)) (la_step__2 h75_)
      have e1251_ : S 1100023 x5 = S 1100023 (S 57 (S 1092 0 - 1)) := congrArg ((S 1100023)) (la_step__2 h75_)
      have e1252_ : S 1100024 x5 = S 1100024 (S 57 (S 1092 0 - 1)) := congrArg ((S 1100024)) (la_step__2 h75_)
      have e1253_ : S 1100025 x5 = S 1100025 (S 57 (S 1092 0 - 1)) := congrArg ((S 1100025)) (la_step__2 h75_)
      have e1254_ : S 26 x5 = S 26 (S 57 (S 1092 0 - 1)) := congrArg ((S 26)) (la_step__2 h75_)
      have e1255_ : S 29 x5 = S 29 (S 57 (S 1092 0 - 1)) := congrArg ((S 29)) (la_step__2 h75_)
      have e1256_ : sm_dp (S 1100024) (S 1100023 x5) = sm_dp (S 1100024) (S 1100023 (S 57 (S 1092 0 - 1))) := congrArg ((sm_dp (S 1100024))) e1251_
      exact (la_step__11 h40_ e1256_)
    refine ⟨(sm_TC_t h41_ h118_), ?_⟩
    refine ⟨h42_, ?_⟩
    refine ⟨h43_, ?_⟩
    refine ⟨h44_, ?_⟩
    refine ⟨h45_, ?_⟩
    refine ⟨h75_, ?_⟩
    refine ⟨(la_step__12 h46_ h66_), ?_⟩
    refine ⟨(la_step__13 h46_ h67_), ?_⟩
    refine ⟨(sm_SK_q h47_ (la_step__2 h114_) rfl rfl), ?_⟩
    refine ⟨h91_, ?_⟩
    refine ⟨(la_step__27 h92_ h1245_), ?_⟩
    refine ⟨(la_step__16 h96_), ?_⟩
    refine ⟨(la_step__17 h46_ h116_), ?_⟩
    refine ⟨la_step__18, ?_⟩
    refine ⟨(la_step__19 h46_ h108_ h116_), ?_⟩
    refine ⟨(la_step__20 h46_ h67_), ?_⟩
    refine ⟨(la_step__153 h1237_), ?_⟩
    refine ⟨(la_step__154 h46_ h116_ h1241_), ?_⟩
    refine ⟨(la_step__155 h46_ h116_ h1243_), ?_⟩
    refine ⟨h1245_, ?_⟩
    refine ⟨h1246_, ?_⟩
    refine ⟨(la_step__156 h46_ h116_ h1247_), ?_⟩
    refine ⟨h1248_, ?_⟩
    refine ⟨h1249_, ?_⟩
    refine ⟨(la_step__155 h46_ h116_ h1242_), ?_⟩
    refine ⟨h49_, ?_⟩
    refine ⟨h50_, ?_⟩
    refine ⟨h51_, ?_⟩
    refine ⟨h52_, ?_⟩
    refine ⟨h53_, ?_⟩
    refine ⟨h54_, ?_⟩
    exact h55_
  intro g284
  rintro ⟨h1257_, ⟨h1258_, ⟨h1259_, ⟨h1260_, ⟨h1261_, ⟨h1262_, ⟨h1263_, ⟨h1264_, ⟨h1265_, ⟨h1266_, ⟨h1267_, ⟨h1268_, ⟨h1269_, ⟨h1270_, ⟨h1271_, ⟨h1272_, ⟨h1273_, ⟨h1274_, ⟨h1275_, ⟨h1276_, ⟨h1277_, ⟨h1278_, ⟨h1279_, ⟨h1280_, ⟨h1281_, ⟨h1282_, ⟨h1283_, ⟨h1284_, ⟨h1285_, h1286_⟩⟩⟩⟩⟩⟩⟩⟩⟩⟩⟩⟩⟩⟩⟩⟩⟩⟩⟩⟩⟩⟩⟩⟩⟩⟩⟩⟩⟩
  refine ⟨h1257_, ?_⟩
  refine ⟨h1258_, ?_⟩
  refine ⟨h1259_, ?_⟩
  refine ⟨h1260_, ?_⟩
  refine ⟨h1261_, ?_⟩
  refine ⟨h1262_, ?_⟩
  refine ⟨h1263_, ?_⟩
  refine ⟨h1264_, ?_⟩
  refine ⟨h1265_, ?_⟩
  refine ⟨h1266_, ?_⟩
  refine ⟨h1267_, ?_⟩
  refine ⟨h1268_, ?_⟩
  refine ⟨h1269_, ?_⟩
  refine ⟨h1270_, ?_⟩
  refine ⟨h1271_, ?_⟩
  refine ⟨h1272_, ?_⟩
  refine ⟨h1273_, ?_⟩
  refine ⟨h1274_, ?_⟩
  refine ⟨h1275_, ?_⟩
  refine ⟨h1276_, ?_⟩
  refine ⟨h1277_, ?_⟩
  refine ⟨h1278_, ?_⟩
  refine ⟨h1279_, ?_⟩
  refine ⟨h1280_, ?_⟩
  refine ⟨h1281_, ?_⟩
  refine ⟨h1282_, ?_⟩
  refine ⟨h1283_, ?_⟩
  refine ⟨h1284_, ?_⟩
  refine ⟨h1285_, ?_⟩
  exact h1286_
set_option maxRecDepth 8000 in
set_option maxHeartbeats 2000000 in
theorem t_step_ : ∀ (S : sv_S), sm_ok S → ((S 1075 0) = 0 ∧ (S 1073 0) = 1 ∧ sm_PL (S 1100020) (S 51) (S 52) (S 46) (S 47) (S 1076 0) (S 1086 0) ∧ sm_FR (S 1100020) (S 52) (S 1100021) (S 1100022) (3000 - (S 1084 0)) (S 1085 0) ∧ sm_PV (S 1100020) (S 48) (S 49) (S 50) (S 44) (S 1076 0) (S 1007 0) ∧ sm_AL (S 1100020) (S 48) (S 49) (S 50) (S 44) (S 1076 0) (S 1100032 0) ∧ sm_SV (S 1100020) (S 48) (S 1100029) (S 32) (S 33) (S 1076 0) (S 1032 0) ∧ 0 ≤ (S 1076 0) ∧ (S 1076 0) ≤ 300 ∧ 0 ≤ (S 1084 0) ∧ (S 1084 0) ≤ 3000 ∧ 0 ≤ (S 1086 0) ∧ sm_SC (S 1100029) (S 44) (S 45) (S 43) (S 21) (S 1076 0) (S 1032 0) ∧ sm_PO (S 42) (S 1076 0) ∧ (S 1100032 0) = -1 ∧ sm_FO (S 44) (S 45) (S 1076 0) ∧ 23 ≤ (S 1076 0) ∧ 31 ≤ (S 1007 0) ∧ (S 1007 0) ≤ 400 ∧ sm_LN (S 4) 400 (S 1007 0) ∧ sm_CT (S 26) (S 27) (S 28) (S 29) (S 1100007) (S 1100023) (S 1100024) (S 1100025) (S 21) (S 1046 0) (S 1032 0) (S 1008 0) (S 1055 0) ∧ sm_LS (S 26) (S 1100007) (S 1100025) (S 1046 0) ∧ sm_CL (S 1100007) (S 1100023) (S 1100025) (S 1046 0) ∧ 1 ≤ (S 1032 0) ∧ (S 1032 0) ≤ 11 ∧ 0 ≤ (S 1046 0) ∧ (S 1046 0) ≤ 600 ∧ 31 ≤ (S 1008 0) ∧ (S 1008 0) ≤ (S 1007 0) ∧ 0 ≤ (S 1055 0) ∧ (S 1055 0) ≤ 19 ∧ 1 ≤ (S 1092 0) ∧ (S 1092 0) ≤ 24 ∧ 0 ≤ (S 57 ((S 1092 0) - 1)) ∧ (S 57 ((S 1092 0) - 1)) < (S 1046 0) ∧ (S 29 (S 57 ((S 1092 0) - 1))) = (S 53 ((S 1092 0) - 1)) ∧ 0 ≤ (S 53 ((S 1092 0) - 1)) ∧ (S 53 ((S 1092 0) - 1)) < (S 1032 0) ∧ (S 60 ((S 1092 0) - 1)) = sm_dp (S 1100024) (S 1100023 (S 57 ((S 1092 0) - 1))) ∧ sm_TC (S 61) (S 62) (S 27) (S 1100007) (S 1100023) (S 1100024) (40 * ((S 1092 0) - 1)) (S 1100023 (S 57 ((S 1092 0) - 1))) ∧ sm_LK (S 1100029) (S 1076 0) (S 54 ((S 1092 0) - 1)) (S 53 ((S 1092 0) - 1)) ∧ sm_VO (S 44) (S 1076 0) (S 1007 0) ((S 55 ((S 1092 0) - 1))) ((S 56 ((S 1092 0) - 1))) ∧ sm_FW (S 44) (S 1076 0) (S 59 ((S 1092 0) - 1)) ∧ sm_FL (S 53) (S 54) (S 55) (S 56) (S 57) (S 58) (S 59) (S 60) (S 61) (S 62) (S 63) (S 64) (S 27) (S 29) (S 1100007) (S 1100023) (S 1100024) (S 1100025) (S 26) (S 1100029) (S 44) (S 1046 0) (S 1032 0) (S 1076 0) (S 1007 0) (((S 1092 0) - 1)) ∧ (S 58 ((S 1092 0) - 1)) = (S 1100007 (S 57 ((S 1092 0) - 1))) ∧ sm_SK (S 63) (S 64) (S 44) (S 1100007) (S 1100025) (S 1076 0) (S 1007 0) (400 * ((S 1092 0) - 1)) ((S 58 ((S 1092 0) - 1))) ((S 1100025 (S 57 ((S 1092 0) - 1)))) ∧ sm_CV (S 26) (S 27) (S 28) (S 29) (S 21) (S 32) (S 33) (S 1046 0) ∧ (∀ g : Int, 0 ≤ g → g < (S 1032 0) → 0 ≤ (S 30 g) ∧ (S 30 g) < (S 1046 0) ∧ (S 1100007 (S 30 g)) = 0 ∧ (S 1100023 (S 30 g)) = -1 ∧ 0 ≤ (S 33 g) ∧ (S 33 g) ≤ 100 ∧ 0 ≤ (S 20 g) ∧ (S 20 g) ≤ 8) ∧ sm_VN (S 32) (S 33) (S 1032 0) (S 1008 0) ∧ (∀ f : Int, 0 ≤ f → f < (S 1032 0) → 0 ≤ (S 30 f) ∧ (S 30 f) < (S 1046 0) ∧ (S 29 (S 30 f)) = f ∧ (S 1100007 (S 30 f)) = 0 ∧ (S 1100023 (S 30 f)) = -1 ∧ (S 1100025 (S 30 f)) = -1) ∧ (S 1086 0) ≤ 1900000000 ∧ 0 ≤ (S 1107 0) ∧ (S 1107 0) ≤ 100 ∧ sm_PT (S 67) (S 1107 0) (S 1007 0) ∧ sm_LX (S 58) (S 63) (S 64) (S 1092 0) (S 1076 0)) → sv_T sm_XS sm_cs sm_L sm_sh 101 (q_step_ S) 160 0 (lv_args 0 [.ref 0]) [] S := by
  intro S hok hpre
  have h := f_step_ S hok hpre
  have hM := sm_h160
  show sv_T sm_XS sm_cs sm_L sm_sh 101 (q_step_ S) 160 0 [(0, .ref 0)] [] S
  refine sv_aload_n hM dX12_step__0 rfl rfl ?_
  refine sv_getA hM dX12_step__1 sm_fl_182 (sm_a0 _) sm_k97 rfl ?_
  refine sv_aload_n hM dX12_step__4 rfl rfl ?_
  have k1 : sv_R (S 1092 0) := sm_okI hok sm_r1092 0
  have h := h k1
  refine sv_getI hM dX12_step__5 sm_fl_872 (sm_a0 _) sm_k92 rfl (x := (S 1092 0)) rfl ?_
  refine sv_iconst (d := (1 : Int)) hM dX12_step__8 rfl rfl ?_
  refine sv_isub hM dX12_step__9 rfl ?_
  obtain ⟨o2, h⟩ := h
  have k3 : sv_R (S 57 ((S 1092 0) - (1 : Int))) := sm_okI hok sm_r57 ((S 1092 0) - (1 : Int))
  have h := h k3
  refine sv_iald hM dX12_step__10 (sm_a57 _) (by decide) o2.1 o2.2 rfl (x := (S 57 ((S 1092 0) - (1 : Int)))) rfl ?_
  have k4 : (sm_CT (S 26) (S 27) (S 28) (S 29) (S 1100007) (S 1100023) (S 1100024) (S 1100025) (S 21) (S 1046 0) (S 1032 0) (S 1008 0) (S 1055 0) → 0 ≤ (S 57 ((S 1092 0) - (1 : Int))) → (S 57 ((S 1092 0) - (1 : Int))) < (S 1046 0) → (0 ≤ (S 26 (S 57 ((S 1092 0) - (1 : Int)))) ∧ (S 26 (S 57 ((S 1092 0) - (1 : Int)))) ≤ 30 ∧ 0 ≤ (S 29 (S 57 ((S 1092 0) - (1 : Int)))) ∧ (S 29 (S 57 ((S 1092 0) - (1 : Int)))) < (S 1032 0) ∧ 0 ≤ (S 1100007 (S 57 ((S 1092 0) - (1 : Int)))) ∧ (S 1100007 (S 57 ((S 1092 0) - (1 : Int)))) ≤ 396 ∧ (S 1100007 (S 57 ((S 1092 0) - (1 : Int)))) ≤ (S 57 ((S 1092 0) - (1 : Int))) + 2 ∧ -1 ≤ (S 1100023 (S 57 ((S 1092 0) - (1 : Int)))) ∧ (S 1100023 (S 57 ((S 1092 0) - (1 : Int)))) < (S 57 ((S 1092 0) - (1 : Int))) ∧ 0 ≤ (S 1100024 (S 57 ((S 1092 0) - (1 : Int)))) ∧ (S 1100024 (S 57 ((S 1092 0) - (1 : Int)))) ≤ 40 ∧ -1 ≤ (S 1100025 (S 57 ((S 1092 0) - (1 : Int)))) ∧ (S 1100025 (S 57 ((S 1092 0) - (1 : Int)))) < (S 57 ((S 1092 0) - (1 : Int))))) := fun h h0 h1 => sm_ct_0 h _ h0 h1
  have h := h k4
  obtain ⟨x5, e6⟩ : ∃ x : Int, (S 57 ((S 1092 0) - (1 : Int))) = x := ⟨_, rfl⟩
  have h := h x5 e6
  have e6r : sv_R x5 := e6 ▸ k3
  refine sv_nameI e6 ?_
  refine sv_istore_n hM dX12_step__11 (by decide) rfl ?_
  show sv_T sm_XS sm_cs sm_L sm_sh 101 (q_step_ S) 160 12 [(0, .ref 0), (1, sv_I x5)] [] S
  obtain ⟨o7, h⟩ := h
  refine sv_ghost sm_X 1100033 0 (x5) (by decide) ?_
  have ok8 : sm_ok (sv_up S 1100033 0 (x5)) := sm_upI hok sm_r1100033 o7
  have md9 : sv_mod [1076, 41, 42, 43, 44, 45, 46, 47, 1075, 1100029, 1084, 1085, 48, 1086, 51, 52, 49, 50, 1100020, 1100021, 1100022, 58, 63, 64, 57, 1092, 53, 54, 55, 56, 59, 60, 1073, 1109, 1110, 1111, 1112, 5, 1011, 3, 4, 1007, 1113, 1107, 67, 1100032, 1114, 1115, 65, 66, 61, 62, 1100033, 1100034, 1100031] S (sv_up S 1100033 0 (x5)) := sv_mod.up sv_mod.rf (by decide)
  obtain ⟨o10, h⟩ := h
  refine sv_ghost sm_X 1100034 0 ((S 1100025 x5)) (by decide) ?_
  have ok11 : sm_ok (sv_up (sv_up S 1100033 0 (x5)) 1100034 0 ((S 1100025 x5))) := sm_upI ok8 sm_r1100034 o10
  have md12 : sv_mod [1076, 41, 42, 43, 44, 45, 46, 47, 1075, 1100029, 1084, 1085, 48, 1086, 51, 52, 49, 50, 1100020, 1100021, 1100022, 58, 63, 64, 57, 1092, 53, 54, 55, 56, 59, 60, 1073, 1109, 1110, 1111, 1112, 5, 1011, 3, 4, 1007, 1113, 1107, 67, 1100032, 1114, 1115, 65, 66, 61, 62, 1100033, 1100034, 1100031] S (sv_up (sv_up S 1100033 0 (x5)) 1100034 0 ((S 1100025 x5))) := sv_mod.up md9 (by decide)
  have k13 : (sm_CT (S 26) (S 27) (S 28) (S 29) (S 1100007) (S 1100023) (S 1100024) (S 1100025) (S 21) (S 1046 0) (S 1032 0) (S 1008 0) (S 1055 0) → 0 ≤ (x5) → (x5) < (S 1046 0) → (0 ≤ (S 26 (x5)) ∧ (S 26 (x5)) ≤ 30 ∧ 0 ≤ (S 29 (x5)) ∧ (S 29 (x5)) < (S 1032 0) ∧ 0 ≤ (S 1100007 (x5)) ∧ (S 1100007 (x5)) ≤ 396 ∧ (S 1100007 (x5)) ≤ (x5) + 2 ∧ -1 ≤ (S 1100023 (x5)) ∧ (S 1100023 (x5)) < (x5) ∧ 0 ≤ (S 1100024 (x5)) ∧ (S 1100024 (x5)) ≤ 40 ∧ -1 ≤ (S 1100025 (x5)) ∧ (S 1100025 (x5)) < (x5))) := fun h h0 h1 => sm_ct_0 h _ h0 h1
  have h := h k13
  have k14 : (sm_CT (S 26) (S 27) (S 28) (S 29) (S 1100007) (S 1100023) (S 1100024) (S 1100025) (S 21) (S 1046 0) (S 1032 0) (S 1008 0) (S 1055 0) → 0 ≤ (x5) → (x5) < (S 1046 0) → (0 ≤ (S 1100025 (x5)) → (S 26 (S 1100025 (x5))) = 29 ∧ (S 1100007 (S 1100025 (x5))) ≤ (S 1100007 (x5))) ∧ (0 ≤ (S 1100007 (x5)) ∧ (S 1100007 (x5)) ≤ 396 ∧ -1 ≤ (S 1100023 (x5)) ∧ (S 1100023 (x5)) < (x5) ∧ -1 ≤ (S 1100025 (x5)) ∧ (S 1100025 (x5)) < (x5) ∧ 0 ≤ (S 26 (x5)) ∧ (S 26 (x5)) ≤ 30)) := fun h a b => by have q := sm_ct_0 h _ a b; have w := sm_ct_3 h _ a b; exact ⟨fun z => ⟨(w z).1, (w z).2.2.1⟩, by omega⟩
  have h := h k14
  have k15 : (sm_CT (S 26) (S 27) (S 28) (S 29) (S 1100007) (S 1100023) (S 1100024) (S 1100025) (S 21) (S 1046 0) (S 1032 0) (S 1008 0) (S 1055 0) → 0 ≤ (x5) → (x5) < (S 1046 0) → (0 ≤ (S 1100023 (x5)) → (S 1100007 (S 1100023 (x5))) ≤ (S 1100007 (x5)))) := fun h a b d => sm_ct_tr h _ a b d
  have h := h k15
  have k16 : (sm_CT (S 26) (S 27) (S 28) (S 29) (S 1100007) (S 1100023) (S 1100024) (S 1100025) (S 21) (S 1046 0) (S 1032 0) (S 1008 0) (S 1055 0) → 0 ≤ (x5) → (x5) < (S 1046 0) → 17 ≤ (S 26 (x5)) → (S 26 (x5)) = 21 ∨ (S 26 (x5)) = 27 ∨ (S 26 (x5)) = 28 ∨ 1 ≤ (S 1100007 (x5))) := fun h a b d => sm_ct_h1 h _ a b d
  have h := h k16
  have k17 : ((S 57 ((S 1092 0) - 1)) = x5 → (S 1100025 (S 57 ((S 1092 0) - 1))) = (S 1100025 x5)) := fun e => congrArg _ e
  have h := h k17
  have k18 : ((S 57 ((S 1092 0) - 1)) = x5 → (S 1100007 (S 57 ((S 1092 0) - 1))) = (S 1100007 x5)) := fun e => congrArg _ e
  have h := h k18
  have k19 : ((S 57 ((S 1092 0) - 1)) = x5 → (S 1100023 (S 57 ((S 1092 0) - 1))) = (S 1100023 x5)) := fun e => congrArg _ e
  have h := h k19
  have k20 : ((S 57 ((S 1092 0) - 1)) = x5 → (S 29 (S 57 ((S 1092 0) - 1))) = (S 29 x5)) := fun e => congrArg _ e
  have h := h k20
  refine sv_ghost sm_X 1100033 0 (x5) (by decide) ?_
  have ok21 : sm_ok (sv_up (sv_up (sv_up S 1100033 0 (x5)) 1100034 0 ((S 1100025 x5))) 1100033 0 (x5)) := sm_upI ok11 sm_r1100033 o7
  have md22 : sv_mod [1076, 41, 42, 43, 44, 45, 46, 47, 1075, 1100029, 1084, 1085, 48, 1086, 51, 52, 49, 50, 1100020, 1100021, 1100022, 58, 63, 64, 57, 1092, 53, 54, 55, 56, 59, 60, 1073, 1109, 1110, 1111, 1112, 5, 1011, 3, 4, 1007, 1113, 1107, 67, 1100032, 1114, 1115, 65, 66, 61, 62, 1100033, 1100034, 1100031] S (sv_up (sv_up (sv_up S 1100033 0 (x5)) 1100034 0 ((S 1100025 x5))) 1100033 0 (x5)) := sv_mod.up md12 (by decide)
  refine sv_ghost sm_X 1100034 0 ((S 1100025 x5)) (by decide) ?_
  have ok23 : sm_ok (sv_up (sv_up (sv_up (sv_up S 1100033 0 (x5)) 1100034 0 ((S 1100025 x5))) 1100033 0 (x5)) 1100034 0 ((S 1100025 x5))) := sm_upI ok21 sm_r1100034 o10
  have md24 : sv_mod [1076, 41, 42, 43, 44, 45, 46, 47, 1075, 1100029, 1084, 1085, 48, 1086, 51, 52, 49, 50, 1100020, 1100021, 1100022, 58, 63, 64, 57, 1092, 53, 54, 55, 56, 59, 60, 1073, 1109, 1110, 1111, 1112, 5, 1011, 3, 4, 1007, 1113, 1107, 67, 1100032, 1114, 1115, 65, 66, 61, 62, 1100033, 1100034, 1100031] S (sv_up (sv_up (sv_up (sv_up S 1100033 0 (x5)) 1100034 0 ((S 1100025 x5))) 1100033 0 (x5)) 1100034 0 ((S 1100025 x5))) := sv_mod.up md22 (by decide)
  refine sv_aload_n hM dX12_step__12 rfl rfl ?_
  refine sv_getA hM dX12_step__13 sm_fl_92 (sm_a0 _) sm_k49 rfl ?_
  refine sv_iload_n hM dX12_step__16 rfl rfl ?_
  obtain ⟨o25, h⟩ := h
  have k26 : sv_R (S 27 x5) := sm_okI ok23 sm_r27 x5
  have h := h k26
  refine sv_iald hM dX12_step__17 (sm_a27 _) (by decide) o25.1 o25.2 rfl (x := (S 27 x5)) rfl ?_
  refine sv_istore_n hM dX12_step__18 (by decide) rfl ?_
  show sv_T sm_XS sm_cs sm_L sm_sh 101 (q_step_ S) 160 19 [(0, .ref 0), (1, sv_I x5), (2, sv_I (S 27 x5))] [] (sv_up (sv_up (sv_up (sv_up S 1100033 0 (x5)) 1100034 0 ((S 1100025 x5))) 1100033 0 (x5)) 1100034 0 ((S 1100025 x5)))
  refine sv_aload_n hM dX12_step__19 rfl rfl ?_
  refine sv_getA hM dX12_step__20 sm_fl_95 (sm_a0 _) sm_k50 rfl ?_
  refine sv_iload_n hM dX12_step__23 rfl rfl ?_
  have k27 : sv_R (S 28 x5) := sm_okI ok23 sm_r28 x5
  have h := h k27
  refine sv_iald hM dX12_step__24 (sm_a28 _) (by decide) o25.1 o25.2 rfl (x := (S 28 x5)) rfl ?_
  refine sv_istore_n hM dX12_step__25 (by decide) rfl ?_
  show sv_T sm_XS sm_cs sm_L sm_sh 101 (q_step_ S) 160 26 [(0, .ref 0), (1, sv_I x5), (2, sv_I (S 27 x5)), (3, sv_I (S 28 x5))] [] (sv_up (sv_up (sv_up (sv_up S 1100033 0 (x5)) 1100034 0 ((S 1100025 x5))) 1100033 0 (x5)) 1100034 0 ((S 1100025 x5)))
  refine sv_aload_n hM dX12_step__26 rfl rfl ?_
  refine sv_getA hM dX12_step__27 sm_fl_89 (sm_a0 _) sm_k48 rfl ?_
  refine sv_iload_n hM dX12_step__30 rfl rfl ?_
  have k28 : sv_R (S 26 x5) := sm_okI ok23 sm_r26 x5
  have h := h k28
  refine sv_iald hM dX12_step__31 (sm_a26 _) (by decide) o25.1 o25.2 rfl (x := (S 26 x5)) rfl ?_
  have hS := h
  have J0 : ((S 26 x5) < (0 : Int) ∨ (16 : Int) < (S 26 x5)) → sv_T sm_XS sm_cs sm_L sm_sh 101 (q_step_ S) 160 435 [(0, .ref 0), (1, sv_I x5), (2, sv_I (S 27 x5)), (3, sv_I (S 28 x5))] [] (sv_up (sv_up (sv_up (sv_up S 1100033 0 (x5)) 1100034 0 ((S 1100025 x5))) 1100033 0 (x5)) 1100034 0 ((S 1100025 x5))) := by
    intro hc
    have h := hS.1 hc
    refine sv_aload_n hM dX12_step__435 rfl rfl ?_
    refine sv_aload_n hM dX12_step__436 rfl rfl ?_
    refine sv_getA hM dX12_step__437 sm_fl_89 (sm_a0 _) sm_k48 rfl ?_
    refine sv_iload_n hM dX12_step__440 rfl rfl ?_
    refine sv_iald hM dX12_step__441 (sm_a26 _) (by decide) o25.1 o25.2 rfl (x := (S 26 x5)) rfl ?_
    refine sv_iload_n hM dX12_step__442 rfl rfl ?_
    obtain ⟨o29, h⟩ := h
    refine sv_callV hM dX12_step__443 sm_iv_951 (by decide) (sm_a0 _) rfl rfl (Nat.le_of_ble_eq_true rfl) sm_h161 (Nat.le_of_ble_eq_true rfl) (Nat.le_of_ble_eq_true rfl) (F' := 3) (Nat.le_of_ble_eq_true rfl) rfl (t_stepOther (S 26 x5) (S 27 x5) (sv_up (sv_up (sv_up (sv_up S 1100033 0 (x5)) 1100034 0 ((S 1100025 x5))) 1100033 0 (x5)) 1100034 0 ((S 1100025 x5))) ok23 k28 k26 o29) (fun v S1 hq => ?_)
    obtain ⟨rfl, ok31, md32, hpo33⟩ := hq
    obtain ⟨g30, rfl⟩ : ∃ g, S1 = sv_sts (sv_up (sv_up (sv_up (sv_up S 1100033 0 (x5)) 1100034 0 ((S 1100025 x5))) 1100033 0 (x5)) 1100034 0 ((S 1100025 x5))) [1092, 60, 58, 57, 63, 64, 1073, 1109, 1110, 65, 66, 61, 62] g := ⟨_, md32.eq⟩
    show sv_T sm_XS sm_cs sm_L sm_sh 101 (q_step_ S) 160 446 [(0, .ref 0), (1, sv_I x5), (2, sv_I (S 27 x5)), (3, sv_I (S 28 x5))] [] (sv_sts (sv_up (sv_up (sv_up (sv_up S 1100033 0 (x5)) 1100034 0 ((S 1100025 x5))) 1100033 0 (x5)) 1100034 0 ((S 1100025 x5))) [1092, 60, 58, 57, 63, 64, 1073, 1109, 1110, 65, 66, 61, 62] g30)
    have md34 : sv_mod [1076, 41, 42, 43, 44, 45, 46, 47, 1075, 1100029, 1084, 1085, 48, 1086, 51, 52, 49, 50, 1100020, 1100021, 1100022, 58, 63, 64, 57, 1092, 53, 54, 55, 56, 59, 60, 1073, 1109, 1110, 1111, 1112, 5, 1011, 3, 4, 1007, 1113, 1107, 67, 1100032, 1114, 1115, 65, 66, 61, 62, 1100033, 1100034, 1100031] S (sv_sts (sv_up (sv_up (sv_up (sv_up S 1100033 0 (x5)) 1100034 0 ((S 1100025 x5))) 1100033 0 (x5)) 1100034 0 ((S 1100025 x5))) [1092, 60, 58, 57, 63, 64, 1073, 1109, 1110, 65, 66, 61, 62] g30) := sv_mod.sts md24 (by decide)
    have h := h g30 hpo33
    exact sv_vret hM dX12_step__446 rfl ⟨rfl, ok31, md34, h⟩
  have J1 : ((S 26 x5) = (0 : Int)) → sv_T sm_XS sm_cs sm_L sm_sh 101 (q_step_ S) 160 116 [(0, .ref 0), (1, sv_I x5), (2, sv_I (S 27 x5)), (3, sv_I (S 28 x5))] [] (sv_up (sv_up (sv_up (sv_up S 1100033 0 (x5)) 1100034 0 ((S 1100025 x5))) 1100033 0 (x5)) 1100034 0 ((S 1100025 x5))) := by
    intro hc
    have h := hS.2.1 hc
    have k35 : (sm_CT (S 26) (S 27) (S 28) (S 29) (S 1100007) (S 1100023) (S 1100024) (S 1100025) (S 21) (S 1046 0) (S 1032 0) (S 1008 0) (S 1055 0) → 0 ≤ (x5) → (x5) < (S 1046 0) → ((S 26 (x5)) = 0 → (0 ≤ (S 27 (x5)) ∧ (S 27 (x5)) ≤ 6 ∧ ((S 27 (x5)) = 6 → 0 ≤ (S 28 (x5)) ∧ (S 28 (x5)) < (S 1008 0))) ∧ (0 ≤ ((S 1100007 (x5))) ∧ (0 ≤ (S 1100023 (x5)) → (S 1100007 (S 1100023 (x5))) ≤ ((S 1100007 (x5)))) ∧ (0 ≤ (S 1100025 (x5)) → (S 1100007 (S 1100025 (x5))) ≤ ((S 1100007 (x5))))) ∧ (0 ≤ ((x5) + 1) ∧ ((x5) + 1) < (S 1046 0) ∧ (S 29 ((x5) + 1)) = ((S 29 (x5))) ∧ (S 1100007 ((x5) + 1)) = ((S 1100007 (x5)) + 1) ∧ (S 1100023 ((x5) + 1)) = ((S 1100023 (x5))) ∧ (S 1100025 ((x5) + 1)) = ((S 1100025 (x5)))))) := fun h h0 h1 => sm_ct_4 h _ h0 h1
    have h := h k35
    refine sv_aload_n hM dX12_step__116 rfl rfl ?_
    refine sv_iload_n hM dX12_step__117 rfl rfl ?_
    refine sv_iload_n hM dX12_step__118 rfl rfl ?_
    refine sv_callV hM dX12_step__119 sm_iv_822 (by decide) (sm_a0 _) rfl rfl (Nat.le_of_ble_eq_true rfl) sm_h122 (Nat.le_of_ble_eq_true rfl) (Nat.le_of_ble_eq_true rfl) (F' := 0) (Nat.le_of_ble_eq_true rfl) rfl (t_give_ (S 27 x5) (S 28 x5) (sv_up (sv_up (sv_up (sv_up S 1100033 0 (x5)) 1100034 0 ((S 1100025 x5))) 1100033 0 (x5)) 1100034 0 ((S 1100025 x5))) ok23 k26 k27) (fun v S1 hq => ?_)
    obtain ⟨rfl, ok37, md38, hpo39⟩ := hq
    obtain ⟨g36, rfl⟩ : ∃ g, S1 = sv_sts (sv_up (sv_up (sv_up (sv_up S 1100033 0 (x5)) 1100034 0 ((S 1100025 x5))) 1100033 0 (x5)) 1100034 0 ((S 1100025 x5))) [1111, 1112] g := ⟨_, md38.eq⟩
    show sv_T sm_XS sm_cs sm_L sm_sh 101 (q_step_ S) 160 122 [(0, .ref 0), (1, sv_I x5), (2, sv_I (S 27 x5)), (3, sv_I (S 28 x5))] [] (sv_sts (sv_up (sv_up (sv_up (sv_up S 1100033 0 (x5)) 1100034 0 ((S 1100025 x5))) 1100033 0 (x5)) 1100034 0 ((S 1100025 x5))) [1111, 1112] g36)
    have md40 : sv_mod [1076, 41, 42, 43, 44, 45, 46, 47, 1075, 1100029, 1084, 1085, 48, 1086, 51, 52, 49, 50, 1100020, 1100021, 1100022, 58, 63, 64, 57, 1092, 53, 54, 55, 56, 59, 60, 1073, 1109, 1110, 1111, 1112, 5, 1011, 3, 4, 1007, 1113, 1107, 67, 1100032, 1114, 1115, 65, 66, 61, 62, 1100033, 1100034, 1100031] S (sv_sts (sv_up (sv_up (sv_up (sv_up S 1100033 0 (x5)) 1100034 0 ((S 1100025 x5))) 1100033 0 (x5)) 1100034 0 ((S 1100025 x5))) [1111, 1112] g36) := sv_mod.sts md24 (by decide)
    have h := h g36 hpo39
    refine sv_aload_n hM dX12_step__122 rfl rfl ?_
    refine sv_iconst (d := (0 : Int)) hM dX12_step__123 rfl rfl ?_
    obtain ⟨o41, h⟩ := h
    refine sv_callV hM dX12_step__124 sm_iv_904 (by decide) (sm_a0 _) rfl rfl (Nat.le_of_ble_eq_true rfl) sm_h155 (Nat.le_of_ble_eq_true rfl) (Nat.le_of_ble_eq_true rfl) (F' := 2) (Nat.le_of_ble_eq_true rfl) rfl (t_gives (0 : Int) (sv_sts (sv_up (sv_up (sv_up (sv_up S 1100033 0 (x5)) 1100034 0 ((S 1100025 x5))) 1100033 0 (x5)) 1100034 0 ((S 1100025 x5))) [1111, 1112] g36) ok37 (⟨by decide, by decide⟩ : sv_R (0 : Int)) o41) (fun v S1 hq => ?_)
    obtain ⟨rfl, ok43, md44, hpo45⟩ := hq
    obtain ⟨g42, rfl⟩ : ∃ g, S1 = sv_sts (sv_sts (sv_up (sv_up (sv_up (sv_up S 1100033 0 (x5)) 1100034 0 ((S 1100025 x5))) 1100033 0 (x5)) 1100034 0 ((S 1100025 x5))) [1111, 1112] g36) [58, 63, 64, 57] g := ⟨_, md44.eq⟩
    show sv_T sm_XS sm_cs sm_L sm_sh 101 (q_step_ S) 160 127 [(0, .ref 0), (1, sv_I x5), (2, sv_I (S 27 x5)), (3, sv_I (S 28 x5))] [] (sv_sts (sv_sts (sv_up (sv_up (sv_up (sv_up S 1100033 0 (x5)) 1100034 0 ((S 1100025 x5))) 1100033 0 (x5)) 1100034 0 ((S 1100025 x5))) [1111, 1112] g36) [58, 63, 64, 57] g42)
    have md46 : sv_mod [1076, 41, 42, 43, 44, 45, 46, 47, 1075, 1100029, 1084, 1085, 48, 1086, 51, 52, 49, 50, 1100020, 1100021, 1100022, 58, 63, 64, 57, 1092, 53, 54, 55, 56, 59, 60, 1073, 1109, 1110, 1111, 1112, 5, 1011, 3, 4, 1007, 1113, 1107, 67, 1100032, 1114, 1115, 65, 66, 61, 62, 1100033, 1100034, 1100031] S (sv_sts (sv_sts (sv_up (sv_up (sv_up (sv_up S 1100033 0 (x5)) 1100034 0 ((S 1100025 x5))) 1100033 0 (x5)) 1100034 0 ((S 1100025 x5))) [1111, 1112] g36) [58, 63, 64, 57] g42) := sv_mod.sts md40 (by decide)
    have h := h g42 hpo45
    refine sv_goto hM dX12_step__127 (pc' := 446) rfl ?_
    exact sv_vret hM dX12_step__446 rfl ⟨rfl, ok43, md46, h⟩
  have J2 : ((S 26 x5) = (1 : Int)) → sv_T sm_XS sm_cs sm_L sm_sh 101 (q_step_ S) 160 130 [(0, .ref 0), (1, sv_I x5), (2, sv_I (S 27 x5)), (3, sv_I (S 28 x5))] [] (sv_up (sv_up (sv_up (sv_up S 1100033 0 (x5)) 1100034 0 ((S 1100025 x5))) 1100033 0 (x5)) 1100034 0 ((S 1100025 x5))) := by
    intro hc
    have h := hS.2.2.1 hc
    have k47 : (sm_CT (S 26) (S 27) (S 28) (S 29) (S 1100007) (S 1100023) (S 1100024) (S 1100025) (S 21) (S 1046 0) (S 1032 0) (S 1008 0) (S 1055 0) → 0 ≤ (x5) → (x5) < (S 1046 0) → (((S 26 (x5)) = 1 ∨ (S 26 (x5)) = 3 ∨ (S 26 (x5)) = 5) → (0 ≤ (S 27 (x5)) ∧ 0 ≤ (S 28 (x5)) ∧ (S 28 (x5)) < (S 1008 0)) ∧ (0 ≤ ((S 1100007 (x5))) ∧ (0 ≤ (S 1100023 (x5)) → (S 1100007 (S 1100023 (x5))) ≤ ((S 1100007 (x5)))) ∧ (0 ≤ (S 1100025 (x5)) → (S 1100007 (S 1100025 (x5))) ≤ ((S 1100007 (x5))))) ∧ (0 ≤ ((x5) + 1) ∧ ((x5) + 1) < (S 1046 0) ∧ (S 29 ((x5) + 1)) = ((S 29 (x5))) ∧ (S 1100007 ((x5) + 1)) = ((S 1100007 (x5)) + 1) ∧ (S 1100023 ((x5) + 1)) = ((S 1100023 (x5))) ∧ (S 1100025 ((x5) + 1)) = ((S 1100025 (x5)))))) := fun h h0 h1 => sm_ct_5 h _ h0 h1
    have h := h k47
    have k48 : (sm_CV (S 26) (S 27) (S 28) (S 29) (S 21) (S 32) (S 33) (S 1046 0) → 0 ≤ (x5) → (x5) < (S 1046 0) → ((S 26 (x5)) = 1 ∨ (S 26 (x5)) = 2) → (S 29 (x5)) = (S 53 ((S 1092 0) - 1)) → (S 27 x5) = (S 27 (x5)) → sm_UA (S 21) (S 53 ((S 1092 0) - 1)) (S 27 x5)) := fun h a b d e f => by rw [f, ← e]; exact sm_CV_u h _ a b d
    have h := h k48
    refine sv_aload_n hM dX12_step__130 rfl rfl ?_
    refine sv_aload_n hM dX12_step__131 rfl rfl ?_
    refine sv_iload_n hM dX12_step__132 rfl rfl ?_
    obtain ⟨o49, h⟩ := h
    refine sv_callV hM dX12_step__133 sm_iv_907 (by decide) (sm_a0 _) rfl rfl (Nat.le_of_ble_eq_true rfl) sm_h159 (Nat.le_of_ble_eq_true rfl) (Nat.le_of_ble_eq_true rfl) (F' := 0) (Nat.le_of_ble_eq_true rfl) rfl (t_scopeAt (S 27 x5) (sv_up (sv_up (sv_up (sv_up S 1100033 0 (x5)) 1100034 0 ((S 1100025 x5))) 1100033 0 (x5)) 1100034 0 ((S 1100025 x5))) ok23 k26 o49) (fun v S1 hq => ?_)
    obtain ⟨r54, rfl, hr54, ok51, md52, hpo53⟩ := hq
    obtain rfl : (sv_up (sv_up (sv_up (sv_up S 1100033 0 (x5)) 1100034 0 ((S 1100025 x5))) 1100033 0 (x5)) 1100034 0 ((S 1100025 x5))) = S1 := (funext fun j => md52 j (by intro q; cases q)).symm
    show sv_T sm_XS sm_cs sm_L sm_sh 101 (q_step_ S) 160 136 [(0, .ref 0), (1, sv_I x5), (2, sv_I (S 27 x5)), (3, sv_I (S 28 x5))] [sv_I r54, .ref 0] (sv_up (sv_up (sv_up (sv_up S 1100033 0 (x5)) 1100034 0 ((S 1100025 x5))) 1100033 0 (x5)) 1100034 0 ((S 1100025 x5)))
    have h := h r54 hr54 hpo53
    obtain ⟨o55, h⟩ := h
    refine sv_ghost sm_X 1100031 0 (r54) (by decide) ?_
    have ok56 : sm_ok (sv_up (sv_up (sv_up (sv_up (sv_up S 1100033 0 (x5)) 1100034 0 ((S 1100025 x5))) 1100033 0 (x5)) 1100034 0 ((S 1100025 x5))) 1100031 0 (r54)) := sm_upI ok51 sm_r1100031 o55
    have md57 : sv_mod [1076, 41, 42, 43, 44, 45, 46, 47, 1075, 1100029, 1084, 1085, 48, 1086, 51, 52, 49, 50, 1100020, 1100021, 1100022, 58, 63, 64, 57, 1092, 53, 54, 55, 56, 59, 60, 1073, 1109, 1110, 1111, 1112, 5, 1011, 3, 4, 1007, 1113, 1107, 67, 1100032, 1114, 1115, 65, 66, 61, 62, 1100033, 1100034, 1100031] S (sv_up (sv_up (sv_up (sv_up (sv_up S 1100033 0 (x5)) 1100034 0 ((S 1100025 x5))) 1100033 0 (x5)) 1100034 0 ((S 1100025 x5))) 1100031 0 (r54)) := sv_mod.up md24 (by decide)
    have k58 : ((S 29 (x5)) = (S 53 ((S 1092 0) - 1)) → (S 27 x5) = (S 27 (x5)) → (S 1100029 r54) = sm_ua (S 21) ((S 53 ((S 1092 0) - 1))) ((S 27 x5)) → (S 1100029 r54) = sm_ua (S 21) ((S 29 (x5))) ((S 27 (x5)))) := fun a b e => by rw [a, ← b]; exact e
    have h := h k58
    refine sv_ghost sm_X 1100031 0 (r54) (by decide) ?_
    have ok59 : sm_ok (sv_up (sv_up (sv_up (sv_up (sv_up (sv_up S 1100033 0 (x5)) 1100034 0 ((S 1100025 x5))) 1100033 0 (x5)) 1100034 0 ((S 1100025 x5))) 1100031 0 (r54)) 1100031 0 (r54)) := sm_upI ok56 sm_r1100031 o55
    have md60 : sv_mod [1076, 41, 42, 43, 44, 45, 46, 47, 1075, 1100029, 1084, 1085, 48, 1086, 51, 52, 49, 50, 1100020, 1100021, 1100022, 58, 63, 64, 57, 1092, 53, 54, 55, 56, 59, 60, 1073, 1109, 1110, 1111, 1112, 5, 1011, 3, 4, 1007, 1113, 1107, 67, 1100032, 1114, 1115, 65, 66, 61, 62, 1100033, 1100034, 1100031] S (sv_up (sv_up (sv_up (sv_up (sv_up (sv_up S 1100033 0 (x5)) 1100034 0 ((S 1100025 x5))) 1100033 0 (x5)) 1100034 0 ((S 1100025 x5))) 1100031 0 (r54)) 1100031 0 (r54)) := sv_mod.up md57 (by decide)
    refine sv_iload_n hM dX12_step__136 rfl rfl ?_
    obtain ⟨o61, h⟩ := h
    refine sv_callV hM dX12_step__137 sm_iv_846 (by decide) (sm_a0 _) rfl rfl (Nat.le_of_ble_eq_true rfl) sm_h140 (Nat.le_of_ble_eq_true rfl) (Nat.le_of_ble_eq_true rfl) (F' := 0) (Nat.le_of_ble_eq_true rfl) rfl (t_findProperty r54 (S 28 x5) (sv_up (sv_up (sv_up (sv_up (sv_up (sv_up S 1100033 0 (x5)) 1100034 0 ((S 1100025 x5))) 1100033 0 (x5)) 1100034 0 ((S 1100025 x5))) 1100031 0 (r54)) 1100031 0 (r54)) ok59 hr54 k27 o61) (fun v S1 hq => ?_)
    obtain ⟨r66, rfl, hr66, ok63, md64, hpo65⟩ := hq
    obtain rfl : (sv_up (sv_up (sv_up (sv_up (sv_up (sv_up S 1100033 0 (x5)) 1100034 0 ((S 1100025 x5))) 1100033 0 (x5)) 1100034 0 ((S 1100025 x5))) 1100031 0 (r54)) 1100031 0 (r54)) = S1 := (funext fun j => md64 j (by intro q; cases q)).symm
    show sv_T sm_XS sm_cs sm_L sm_sh 101 (q_step_ S) 160 140 [(0, .ref 0), (1, sv_I x5), (2, sv_I (S 27 x5)), (3, sv_I (S 28 x5))] [sv_I r66] (sv_up (sv_up (sv_up (sv_up (sv_up (sv_up S 1100033 0 (x5)) 1100034 0 ((S 1100025 x5))) 1100033 0 (x5)) 1100034 0 ((S 1100025 x5))) 1100031 0 (r54)) 1100031 0 (r54))
    have h := h r66 hr66 hpo65
    have k67 : (sm_CV (S 26) (S 27) (S 28) (S 29) (S 21) (S 32) (S 33) (S 1046 0) → sm_SV (S 1100020) (S 48) (S 1100029) (S 32) (S 33) (S 1076 0) (S 1032 0) → 0 ≤ (x5) → (x5) < (S 1046 0) → ((S 26 (x5)) = 1 ∨ (S 26 (x5)) = 2) → 0 ≤ (r54) → (r54) < (S 1076 0) → (S 1100029 (r54)) = sm_ua (S 21) ((S 29 (x5))) ((S 27 (x5))) → (S 28 x5) = (S 28 (x5)) → (r66 = -1 → sm_NB (S 1100020) (S 51) (S 48) ((r54)) ((S 28 x5)) (-1)) → ¬ r66 = -1) := fun h w a b d o0 o1 og e q z => sm_CV_f h w a b d o0 o1 og (e ▸ q z)
    have h := h k67
    have k68 : (sm_PV (S 1100020) (S 48) (S 49) (S 50) (S 44) (S 1076 0) (S 1007 0) → 0 ≤ r66 → r66 < 3000 → 0 ≤ (S 1100020 r66) → (0 ≤ (S 48 r66) ∧ (S 48 r66) < (S 1007 0)) ∧ sm_VO (S 44) (S 1076 0) (S 1007 0) ((S 49 r66)) ((S 50 r66))) := fun h a b d => sm_PV_at h _ a b d
    have h := h k68
    refine sv_istore hM dX12_step__140 (by decide) rfl ?_
    show sv_T sm_XS sm_cs sm_L sm_sh 101 (q_step_ S) 160 142 [(0, .ref 0), (1, sv_I x5), (2, sv_I (S 27 x5)), (3, sv_I (S 28 x5)), (4, sv_I r66)] [] (sv_up (sv_up (sv_up (sv_up (sv_up (sv_up S 1100033 0 (x5)) 1100034 0 ((S 1100025 x5))) 1100033 0 (x5)) 1100034 0 ((S 1100025 x5))) 1100031 0 (r54)) 1100031 0 (r54))
    refine sv_aload_n hM dX12_step__142 rfl rfl ?_
    refine sv_aload_n hM dX12_step__143 rfl rfl ?_
    refine sv_getA hM dX12_step__144 sm_fl_158 (sm_a0 _) sm_k88 rfl ?_
    refine sv_iload hM dX12_step__147 rfl rfl ?_
    obtain ⟨o69, h⟩ := h
    have k70 : sv_R (S 49 r66) := sm_okI ok63 sm_r49 r66
    have h := h k70
    refine sv_iald hM dX12_step__149 (sm_a49 _) (by decide) o69.1 o69.2 rfl (x := (S 49 r66)) rfl ?_
    refine sv_aload_n hM dX12_step__150 rfl rfl ?_
    refine sv_getA hM dX12_step__151 sm_fl_161 (sm_a0 _) sm_k89 rfl ?_
    refine sv_iload hM dX12_step__154 rfl rfl ?_
    have k71 : sv_R (S 50 r66) := sm_okI ok63 sm_r50 r66
    have h := h k71
    refine sv_iald hM dX12_step__156 (sm_a50 _) (by decide) o69.1 o69.2 rfl (x := (S 50 r66)) rfl ?_
    refine sv_callV hM dX12_step__157 sm_iv_822 (by decide) (sm_a0 _) rfl rfl (Nat.le_of_ble_eq_true rfl) sm_h122 (Nat.le_of_ble_eq_true rfl) (Nat.le_of_ble_eq_true rfl) (F' := 0) (Nat.le_of_ble_eq_true rfl) rfl (t_give_ (S 49 r66) (S 50 r66) (sv_up (sv_up (sv_up (sv_up (sv_up (sv_up S 1100033 0 (x5)) 1100034 0 ((S 1100025 x5))) 1100033 0 (x5)) 1100034 0 ((S 1100025 x5))) 1100031 0 (r54)) 1100031 0 (r54)) ok63 k70 k71) (fun v S1 hq => ?_)
    obtain ⟨rfl, ok73, md74, hpo75⟩ := hq
    obtain ⟨g72, rfl⟩ : ∃ g, S1 = sv_sts (sv_up (sv_up (sv_up (sv_up (sv_up (sv_up S 1100033 0 (x5)) 1100034 0 ((S 1100025 x5))) 1100033 0 (x5)) 1100034 0 ((S 1100025 x5))) 1100031 0 (r54)) 1100031 0 (r54)) [1111, 1112] g := ⟨_, md74.eq⟩
    show sv_T sm_XS sm_cs sm_L sm_sh 101 (q_step_ S) 160 160 [(0, .ref 0), (1, sv_I x5), (2, sv_I (S 27 x5)), (3, sv_I (S 28 x5)), (4, sv_I r66)] [] (sv_sts (sv_up (sv_up (sv_up (sv_up (sv_up (sv_up S 1100033 0 (x5)) 1100034 0 ((S 1100025 x5))) 1100033 0 (x5)) 1100034 0 ((S 1100025 x5))) 1100031 0 (r54)) 1100031 0 (r54)) [1111, 1112] g72)
    have md76 : sv_mod [1076, 41, 42, 43, 44, 45, 46, 47, 1075, 1100029, 1084, 1085, 48, 1086, 51, 52, 49, 50, 1100020, 1100021, 1100022, 58, 63, 64, 57, 1092, 53, 54, 55, 56, 59, 60, 1073, 1109, 1110, 1111, 1112, 5, 1011, 3, 4, 1007, 1113, 1107, 67, 1100032, 1114, 1115, 65, 66, 61, 62, 1100033, 1100034, 1100031] S (sv_sts (sv_up (sv_up (sv_up (sv_up (sv_up (sv_up S 1100033 0 (x5)) 1100034 0 ((S 1100025 x5))) 1100033 0 (x5)) 1100034 0 ((S 1100025 x5))) 1100031 0 (r54)) 1100031 0 (r54)) [1111, 1112] g72) := sv_mod.sts md60 (by decide)
    have h := h g72 hpo75
    refine sv_aload_n hM dX12_step__160 rfl rfl ?_
    refine sv_iconst (d := (0 : Int)) hM dX12_step__161 rfl rfl ?_
    obtain ⟨o77, h⟩ := h
    refine sv_callV hM dX12_step__162 sm_iv_904 (by decide) (sm_a0 _) rfl rfl (Nat.le_of_ble_eq_true rfl) sm_h155 (Nat.le_of_ble_eq_true rfl) (Nat.le_of_ble_eq_true rfl) (F' := 2) (Nat.le_of_ble_eq_true rfl) rfl (t_gives (0 : Int) (sv_sts (sv_up (sv_up (sv_up (sv_up (sv_up (sv_up S 1100033 0 (x5)) 1100034 0 ((S 1100025 x5))) 1100033 0 (x5)) 1100034 0 ((S 1100025 x5))) 1100031 0 (r54)) 1100031 0 (r54)) [1111, 1112] g72) ok73 (⟨by decide, by decide⟩ : sv_R (0 : Int)) o77) (fun v S1 hq => ?_)
    obtain ⟨rfl, ok79, md80, hpo81⟩ := hq
    obtain ⟨g78, rfl⟩ : ∃ g, S1 = sv_sts (sv_sts (sv_up (sv_up (sv_up (sv_up (sv_up (sv_up S 1100033 0 (x5)) 1100034 0 ((S 1100025 x5))) 1100033 0 (x5)) 1100034 0 ((S 1100025 x5))) 1100031 0 (r54)) 1100031 0 (r54)) [1111, 1112] g72) [58, 63, 64, 57] g := ⟨_, md80.eq⟩
    show sv_T sm_XS sm_cs sm_L sm_sh 101 (q_step_ S) 160 165 [(0, .ref 0), (1, sv_I x5), (2, sv_I (S 27 x5)), (3, sv_I (S 28 x5)), (4, sv_I r66)] [] (sv_sts (sv_sts (sv_up (sv_up (sv_up (sv_up (sv_up (sv_up S 1100033 0 (x5)) 1100034 0 ((S 1100025 x5))) 1100033 0 (x5)) 1100034 0 ((S 1100025 x5))) 1100031 0 (r54)) 1100031 0 (r54)) [1111, 1112] g72) [58, 63, 64, 57] g78)
    have md82 : sv_mod [1076, 41, 42, 43, 44, 45, 46, 47, 1075, 1100029, 1084, 1085, 48, 1086, 51, 52, 49, 50, 1100020, 1100021, 1100022, 58, 63, 64, 57, 1092, 53, 54, 55, 56, 59, 60, 1073, 1109, 1110, 1111, 1112, 5, 1011, 3, 4, 1007, 1113, 1107, 67, 1100032, 1114, 1115, 65, 66, 61, 62, 1100033, 1100034, 1100031] S (sv_sts (sv_sts (sv_up (sv_up (sv_up (sv_up (sv_up (sv_up S 1100033 0 (x5)) 1100034 0 ((S 1100025 x5))) 1100033 0 (x5)) 1100034 0 ((S 1100025 x5))) 1100031 0 (r54)) 1100031 0 (r54)) [1111, 1112] g72) [58, 63, 64, 57] g78) := sv_mod.sts md76 (by decide)
    have h := h g78 hpo81
    refine sv_goto hM dX12_step__165 (pc' := 446) rfl ?_
    exact sv_vret hM dX12_step__446 rfl ⟨rfl, ok79, md82, h⟩
  have J3 : ((S 26 x5) = (2 : Int)) → sv_T sm_XS sm_cs sm_L sm_sh 101 (q_step_ S) 160 168 [(0, .ref 0), (1, sv_I x5), (2, sv_I (S 27 x5)), (3, sv_I (S 28 x5))] [] (sv_up (sv_up (sv_up (sv_up S 1100033 0 (x5)) 1100034 0 ((S 1100025 x5))) 1100033 0 (x5)) 1100034 0 ((S 1100025 x5))) := by
    intro hc
    have h := hS.2.2.2.1 hc
    have k83 : (sm_CT (S 26) (S 27) (S 28) (S 29) (S 1100007) (S 1100023) (S 1100024) (S 1100025) (S 21) (S 1046 0) (S 1032 0) (S 1008 0) (S 1055 0) → 0 ≤ (x5) → (x5) < (S 1046 0) → (((S 26 (x5)) = 2 ∨ (S 26 (x5)) = 4) → (0 ≤ (S 27 (x5)) ∧ 0 ≤ (S 28 (x5)) ∧ (S 28 (x5)) < (S 1008 0)) ∧ (0 ≤ ((S 1100007 (x5)) - 1) ∧ (0 ≤ (S 1100023 (x5)) → (S 1100007 (S 1100023 (x5))) ≤ ((S 1100007 (x5)) - 1)) ∧ (0 ≤ (S 1100025 (x5)) → (S 1100007 (S 1100025 (x5))) ≤ ((S 1100007 (x5)) - 1))) ∧ (0 ≤ ((x5) + 1) ∧ ((x5) + 1) < (S 1046 0) ∧ (S 29 ((x5) + 1)) = ((S 29 (x5))) ∧ (S 1100007 ((x5) + 1)) = ((S 1100007 (x5))) ∧ (S 1100023 ((x5) + 1)) = ((S 1100023 (x5))) ∧ (S 1100025 ((x5) + 1)) = ((S 1100025 (x5)))))) := fun h h0 h1 => sm_ct_6 h _ h0 h1
    have h := h k83
    have k84 : (sm_CV (S 26) (S 27) (S 28) (S 29) (S 21) (S 32) (S 33) (S 1046 0) → 0 ≤ (x5) → (x5) < (S 1046 0) → ((S 26 (x5)) = 1 ∨ (S 26 (x5)) = 2) → (S 29 (x5)) = (S 53 ((S 1092 0) - 1)) → (S 27 x5) = (S 27 (x5)) → sm_UA (S 21) (S 53 ((S 1092 0) - 1)) (S 27 x5)) := fun h a b d e f => by rw [f, ← e]; exact sm_CV_u h _ a b d
    have h := h k84
    refine sv_aload_n hM dX12_step__168 rfl rfl ?_
    refine sv_aload_n hM dX12_step__169 rfl rfl ?_
    refine sv_iload_n hM dX12_step__170 rfl rfl ?_
    obtain ⟨o85, h⟩ := h
    refine sv_callV hM dX12_step__171 sm_iv_907 (by decide) (sm_a0 _) rfl rfl (Nat.le_of_ble_eq_true rfl) sm_h159 (Nat.le_of_ble_eq_true rfl) (Nat.le_of_ble_eq_true rfl) (F' := 0) (Nat.le_of_ble_eq_true rfl) rfl (t_scopeAt (S 27 x5) (sv_up (sv_up (sv_up (sv_up S 1100033 0 (x5)) 1100034 0 ((S 1100025 x5))) 1100033 0 (x5)) 1100034 0 ((S 1100025 x5))) ok23 k26 o85) (fun v S1 hq => ?_)
    obtain ⟨r90, rfl, hr90, ok87, md88, hpo89⟩ := hq
    obtain rfl : (sv_up (sv_up (sv_up (sv_up S 1100033 0 (x5)) 1100034 0 ((S 1100025 x5))) 1100033 0 (x5)) 1100034 0 ((S 1100025 x5))) = S1 := (funext fun j => md88 j (by intro q; cases q)).symm
    show sv_T sm_XS sm_cs sm_L sm_sh 101 (q_step_ S) 160 174 [(0, .ref 0), (1, sv_I x5), (2, sv_I (S 27 x5)), (3, sv_I (S 28 x5))] [sv_I r90, .ref 0] (sv_up (sv_up (sv_up (sv_up S 1100033 0 (x5)) 1100034 0 ((S 1100025 x5))) 1100033 0 (x5)) 1100034 0 ((S 1100025 x5)))
    have h := h r90 hr90 hpo89
    have k91 : (sm_UA (S 21) (S 53 ((S 1092 0) - 1)) (S 27 x5) → 0 ≤ (S 27 x5) → 1 ≤ sm_ua (S 21) ((S 53 ((S 1092 0) - 1))) ((S 27 x5))) := fun h a => sm_UA_at h _ a (Int.le_refl _)
    have h := h k91
    have k92 : (sm_SC (S 1100029) (S 44) (S 45) (S 43) (S 21) (S 1076 0) (S 1032 0) → 0 ≤ r90 → r90 < (S 1076 0) → 1 ≤ (S 1100029 r90) → (S 44 r90) = 3) := fun h a b e => ((h _ a b).2 e).1
    have h := h k92
    refine sv_iload_n hM dX12_step__174 rfl rfl ?_
    have k93 : (sm_SK (S 63) (S 64) (S 44) (S 1100007) (S 1100025) (S 1076 0) (S 1007 0) (400 * ((S 1092 0) - 1)) ((S 58 ((S 1092 0) - 1))) (((S 1100025 x5))) → sm_LS (S 26) (S 1100007) (S 1100025) (S 1046 0) → 0 ≤ (S 58 ((S 1092 0) - 1)) - 1 → (S 58 ((S 1092 0) - 1)) - 1 < (S 58 ((S 1092 0) - 1)) → ((S 1100025 x5)) < (S 1046 0) → ((S 1100025 x5)) = (S 1100025 (x5)) → (S 58 ((S 1092 0) - 1)) = (S 1100007 (x5)) → (0 ≤ ((S 1100025 x5)) → (S 26 ((S 1100025 x5))) = 29) → (0 ≤ (S 1100025 (x5)) → (S 1100007 (S 1100025 (x5))) ≤ (S 1100007 (x5)) - 1) → sm_VO (S 44) (S 1076 0) (S 1007 0) ((S 63 ((400 * ((S 1092 0) - 1) + (S 58 ((S 1092 0) - 1))) - 1 - (0 : Int)))) ((S 64 ((400 * ((S 1092 0) - 1) + (S 58 ((S 1092 0) - 1))) - 1 - (0 : Int))))) := fun h a b e g q f i j => sm_VO_eq (sm_SK_at h a _ b e g (fun z => ⟨i z, by rw [q]; have := j (by omega); omega⟩)) (congrArg _ (by omega)) (congrArg _ (by omega))
    have h := h k93
    refine sv_aload_n hM dX12_step__175 rfl rfl ?_
    refine sv_iconst (d := (0 : Int)) hM dX12_step__176 rfl rfl ?_
    obtain ⟨o94, h⟩ := h
    refine sv_callV hM dX12_step__177 sm_iv_910 (by decide) (sm_a0 _) rfl rfl (Nat.le_of_ble_eq_true rfl) sm_h150 (Nat.le_of_ble_eq_true rfl) (Nat.le_of_ble_eq_true rfl) (F' := 1) (Nat.le_of_ble_eq_true rfl) rfl (t_sortAt (0 : Int) (sv_up (sv_up (sv_up (sv_up S 1100033 0 (x5)) 1100034 0 ((S 1100025 x5))) 1100033 0 (x5)) 1100034 0 ((S 1100025 x5))) ok87 (⟨by decide, by decide⟩ : sv_R (0 : Int)) o94) (fun v S1 hq => ?_)
    obtain ⟨rfl, hS1⟩ := hq
    obtain rfl : (sv_up (sv_up (sv_up (sv_up S 1100033 0 (x5)) 1100034 0 ((S 1100025 x5))) 1100033 0 (x5)) 1100034 0 ((S 1100025 x5))) = S1 := hS1.symm
    show sv_T sm_XS sm_cs sm_L sm_sh 101 (q_step_ S) 160 180 [(0, .ref 0), (1, sv_I x5), (2, sv_I (S 27 x5)), (3, sv_I (S 28 x5))] [sv_I ((S 63 ((400 * ((S 1092 0) - 1) + (S 58 ((S 1092 0) - 1))) - 1 - (0 : Int)))), sv_I (S 28 x5), sv_I r90, .ref 0] (sv_up (sv_up (sv_up (sv_up S 1100033 0 (x5)) 1100034 0 ((S 1100025 x5))) 1100033 0 (x5)) 1100034 0 ((S 1100025 x5)))
    refine sv_aload_n hM dX12_step__180 rfl rfl ?_
    refine sv_iconst (d := (0 : Int)) hM dX12_step__181 rfl rfl ?_
    refine sv_callV hM dX12_step__182 sm_iv_913 (by decide) (sm_a0 _) rfl rfl (Nat.le_of_ble_eq_true rfl) sm_h151 (Nat.le_of_ble_eq_true rfl) (Nat.le_of_ble_eq_true rfl) (F' := 1) (Nat.le_of_ble_eq_true rfl) rfl (t_valueAt (0 : Int) (sv_up (sv_up (sv_up (sv_up S 1100033 0 (x5)) 1100034 0 ((S 1100025 x5))) 1100033 0 (x5)) 1100034 0 ((S 1100025 x5))) ok87 (⟨by decide, by decide⟩ : sv_R (0 : Int)) o94) (fun v S1 hq => ?_)
    obtain ⟨rfl, hS1⟩ := hq
    obtain rfl : (sv_up (sv_up (sv_up (sv_up S 1100033 0 (x5)) 1100034 0 ((S 1100025 x5))) 1100033 0 (x5)) 1100034 0 ((S 1100025 x5))) = S1 := hS1.symm
    show sv_T sm_XS sm_cs sm_L sm_sh 101 (q_step_ S) 160 185 [(0, .ref 0), (1, sv_I x5), (2, sv_I (S 27 x5)), (3, sv_I (S 28 x5))] [sv_I ((S 64 ((400 * ((S 1092 0) - 1) + (S 58 ((S 1092 0) - 1))) - 1 - (0 : Int)))), sv_I ((S 63 ((400 * ((S 1092 0) - 1) + (S 58 ((S 1092 0) - 1))) - 1 - (0 : Int)))), sv_I (S 28 x5), sv_I r90, .ref 0] (sv_up (sv_up (sv_up (sv_up S 1100033 0 (x5)) 1100034 0 ((S 1100025 x5))) 1100033 0 (x5)) 1100034 0 ((S 1100025 x5)))
    obtain ⟨o95, h⟩ := h
    refine sv_callV hM dX12_step__185 sm_iv_870 (by decide) (sm_a0 _) rfl rfl (Nat.le_of_ble_eq_true rfl) sm_h141 (Nat.le_of_ble_eq_true rfl) (Nat.le_of_ble_eq_true rfl) (F' := 1) (Nat.le_of_ble_eq_true rfl) rfl (t_set_ r90 (S 28 x5) ((S 63 ((400 * ((S 1092 0) - 1) + (S 58 ((S 1092 0) - 1))) - 1 - (0 : Int)))) ((S 64 ((400 * ((S 1092 0) - 1) + (S 58 ((S 1092 0) - 1))) - 1 - (0 : Int)))) (sv_up (sv_up (sv_up (sv_up S 1100033 0 (x5)) 1100034 0 ((S 1100025 x5))) 1100033 0 (x5)) 1100034 0 ((S 1100025 x5))) ok87 hr90 k27 (sm_okI ok87 sm_r63 _) (sm_okI ok87 sm_r64 _) o95) (fun v S1 hq => ?_)
    obtain ⟨rfl, ok97, md98, hpo99⟩ := hq
    obtain ⟨g96, rfl⟩ : ∃ g, S1 = sv_sts (sv_up (sv_up (sv_up (sv_up S 1100033 0 (x5)) 1100034 0 ((S 1100025 x5))) 1100033 0 (x5)) 1100034 0 ((S 1100025 x5))) [1084, 1085, 48, 1086, 51, 52, 46, 47, 49, 50, 1075, 1100020, 1100021, 1100022] g := ⟨_, md98.eq⟩
    show sv_T sm_XS sm_cs sm_L sm_sh 101 (q_step_ S) 160 188 [(0, .ref 0), (1, sv_I x5), (2, sv_I (S 27 x5)), (3, sv_I (S 28 x5))] [] (sv_sts (sv_up (sv_up (sv_up (sv_up S 1100033 0 (x5)) 1100034 0 ((S 1100025 x5))) 1100033 0 (x5)) 1100034 0 ((S 1100025 x5))) [1084, 1085, 48, 1086, 51, 52, 46, 47, 49, 50, 1075, 1100020, 1100021, 1100022] g96)
    have md100 : sv_mod [1076, 41, 42, 43, 44, 45, 46, 47, 1075, 1100029, 1084, 1085, 48, 1086, 51, 52, 49, 50, 1100020, 1100021, 1100022, 58, 63, 64, 57, 1092, 53, 54, 55, 56, 59, 60, 1073, 1109, 1110, 1111, 1112, 5, 1011, 3, 4, 1007, 1113, 1107, 67, 1100032, 1114, 1115, 65, 66, 61, 62, 1100033, 1100034, 1100031] S (sv_sts (sv_up (sv_up (sv_up (sv_up S 1100033 0 (x5)) 1100034 0 ((S 1100025 x5))) 1100033 0 (x5)) 1100034 0 ((S 1100025 x5))) [1084, 1085, 48, 1086, 51, 52, 46, 47, 49, 50, 1075, 1100020, 1100021, 1100022] g96) := sv_mod.sts md24 (by decide)
    have h := h g96 hpo99
    refine sv_aload_n hM dX12_step__188 rfl rfl ?_
    obtain ⟨o101, h⟩ := h
    refine sv_callV hM dX12_step__189 sm_iv_888 (by decide) (sm_a0 _) rfl rfl (Nat.le_of_ble_eq_true rfl) sm_h154 (Nat.le_of_ble_eq_true rfl) (Nat.le_of_ble_eq_true rfl) (F' := 0) (Nat.le_of_ble_eq_true rfl) rfl (t_goOn  (sv_sts (sv_up (sv_up (sv_up (sv_up S 1100033 0 (x5)) 1100034 0 ((S 1100025 x5))) 1100033 0 (x5)) 1100034 0 ((S 1100025 x5))) [1084, 1085, 48, 1086, 51, 52, 46, 47, 49, 50, 1075, 1100020, 1100021, 1100022] g96) ok97 o101) (fun v S1 hq => ?_)
    obtain ⟨rfl, ok103, md104, hpo105⟩ := hq
    obtain ⟨g102, rfl⟩ : ∃ g, S1 = sv_sts (sv_sts (sv_up (sv_up (sv_up (sv_up S 1100033 0 (x5)) 1100034 0 ((S 1100025 x5))) 1100033 0 (x5)) 1100034 0 ((S 1100025 x5))) [1084, 1085, 48, 1086, 51, 52, 46, 47, 49, 50, 1075, 1100020, 1100021, 1100022] g96) [57] g := ⟨_, md104.eq⟩
    show sv_T sm_XS sm_cs sm_L sm_sh 101 (q_step_ S) 160 192 [(0, .ref 0), (1, sv_I x5), (2, sv_I (S 27 x5)), (3, sv_I (S 28 x5))] [] (sv_sts (sv_sts (sv_up (sv_up (sv_up (sv_up S 1100033 0 (x5)) 1100034 0 ((S 1100025 x5))) 1100033 0 (x5)) 1100034 0 ((S 1100025 x5))) [1084, 1085, 48, 1086, 51, 52, 46, 47, 49, 50, 1075, 1100020, 1100021, 1100022] g96) [57] g102)
    have md106 : sv_mod [1076, 41, 42, 43, 44, 45, 46, 47, 1075, 1100029, 1084, 1085, 48, 1086, 51, 52, 49, 50, 1100020, 1100021, 1100022, 58, 63, 64, 57, 1092, 53, 54, 55, 56, 59, 60, 1073, 1109, 1110, 1111, 1112, 5, 1011, 3, 4, 1007, 1113, 1107, 67, 1100032, 1114, 1115, 65, 66, 61, 62, 1100033, 1100034, 1100031] S (sv_sts (sv_sts (sv_up (sv_up (sv_up (sv_up S 1100033 0 (x5)) 1100034 0 ((S 1100025 x5))) 1100033 0 (x5)) 1100034 0 ((S 1100025 x5))) [1084, 1085, 48, 1086, 51, 52, 46, 47, 49, 50, 1075, 1100020, 1100021, 1100022] g96) [57] g102) := sv_mod.sts md100 (by decide)
    have h := h g102 hpo105
    refine sv_goto hM dX12_step__192 (pc' := 446) rfl ?_
    exact sv_vret hM dX12_step__446 rfl ⟨rfl, ok103, md106, h⟩
  have J4 : ((S 26 x5) = (3 : Int) ∨ (S 26 x5) = (5 : Int)) → sv_T sm_XS sm_cs sm_L sm_sh 101 (q_step_ S) 160 195 [(0, .ref 0), (1, sv_I x5), (2, sv_I (S 27 x5)), (3, sv_I (S 28 x5))] [] (sv_up (sv_up (sv_up (sv_up S 1100033 0 (x5)) 1100034 0 ((S 1100025 x5))) 1100033 0 (x5)) 1100034 0 ((S 1100025 x5))) := by
    intro hc
    have h := hS.2.2.2.2.1 hc
    have k107 : (sm_CT (S 26) (S 27) (S 28) (S 29) (S 1100007) (S 1100023) (S 1100024) (S 1100025) (S 21) (S 1046 0) (S 1032 0) (S 1008 0) (S 1055 0) → 0 ≤ (x5) → (x5) < (S 1046 0) → (((S 26 (x5)) = 1 ∨ (S 26 (x5)) = 3 ∨ (S 26 (x5)) = 5) → (0 ≤ (S 27 (x5)) ∧ 0 ≤ (S 28 (x5)) ∧ (S 28 (x5)) < (S 1008 0)) ∧ (0 ≤ ((S 1100007 (x5))) ∧ (0 ≤ (S 1100023 (x5)) → (S 1100007 (S 1100023 (x5))) ≤ ((S 1100007 (x5)))) ∧ (0 ≤ (S 1100025 (x5)) → (S 1100007 (S 1100025 (x5))) ≤ ((S 1100007 (x5))))) ∧ (0 ≤ ((x5) + 1) ∧ ((x5) + 1) < (S 1046 0) ∧ (S 29 ((x5) + 1)) = ((S 29 (x5))) ∧ (S 1100007 ((x5) + 1)) = ((S 1100007 (x5)) + 1) ∧ (S 1100023 ((x5) + 1)) = ((S 1100023 (x5))) ∧ (S 1100025 ((x5) + 1)) = ((S 1100025 (x5)))))) := fun h h0 h1 => sm_ct_5 h _ h0 h1
    have h := h k107
    refine sv_aload_n hM dX12_step__195 rfl rfl ?_
    refine sv_aload_n hM dX12_step__196 rfl rfl ?_
    refine sv_getA hM dX12_step__197 sm_fl_89 (sm_a0 _) sm_k48 rfl ?_
    refine sv_iload_n hM dX12_step__200 rfl rfl ?_
    refine sv_iald hM dX12_step__201 (sm_a26 _) (by decide) o25.1 o25.2 rfl (x := (S 26 x5)) rfl ?_
    refine sv_iconst (d := (3 : Int)) hM dX12_step__202 rfl rfl ?_
    refine sv_icmp_ne hM dX12_step__203 k28 (⟨by decide, by decide⟩ : sv_R (3 : Int)) (t := 210) rfl rfl (fun hc => ?_) (fun hc => ?_)
    · have h := h.1 (hc)
      refine sv_iconst (d := (0 : Int)) hM dX12_step__210 rfl rfl ?_
      refine sv_iload_n hM dX12_step__211 rfl rfl ?_
      obtain ⟨o108, h⟩ := h
      refine sv_callV hM dX12_step__212 sm_iv_916 (by decide) (sm_a0 _) rfl rfl (Nat.le_of_ble_eq_true rfl) sm_h168 (Nat.le_of_ble_eq_true rfl) (Nat.le_of_ble_eq_true rfl) (F' := 4) (Nat.le_of_ble_eq_true rfl) rfl (t_global (0 : Int) (S 28 x5) (sv_up (sv_up (sv_up (sv_up S 1100033 0 (x5)) 1100034 0 ((S 1100025 x5))) 1100033 0 (x5)) 1100034 0 ((S 1100025 x5))) ok23 (⟨by decide, by decide⟩ : 0 ≤ (0 : Int) ∧ (0 : Int) ≤ 1) k27 o108) (fun v S1 hq => ?_)
      obtain ⟨rfl, ok110, md111, hpo112⟩ := hq
      obtain ⟨g109, rfl⟩ : ∃ g, S1 = sv_sts (sv_up (sv_up (sv_up (sv_up S 1100033 0 (x5)) 1100034 0 ((S 1100025 x5))) 1100033 0 (x5)) 1100034 0 ((S 1100025 x5))) [1076, 41, 42, 43, 44, 45, 46, 47, 1075, 1100029, 1092, 60, 58, 57, 63, 64, 1073, 1109, 1110, 58, 63, 64, 57, 1111, 1112] g := ⟨_, md111.eq⟩
      show sv_T sm_XS sm_cs sm_L sm_sh 101 (q_step_ S) 160 215 [(0, .ref 0), (1, sv_I x5), (2, sv_I (S 27 x5)), (3, sv_I (S 28 x5))] [] (sv_sts (sv_up (sv_up (sv_up (sv_up S 1100033 0 (x5)) 1100034 0 ((S 1100025 x5))) 1100033 0 (x5)) 1100034 0 ((S 1100025 x5))) [1076, 41, 42, 43, 44, 45, 46, 47, 1075, 1100029, 1092, 60, 58, 57, 63, 64, 1073, 1109, 1110, 58, 63, 64, 57, 1111, 1112] g109)
      have md113 : sv_mod [1076, 41, 42, 43, 44, 45, 46, 47, 1075, 1100029, 1084, 1085, 48, 1086, 51, 52, 49, 50, 1100020, 1100021, 1100022, 58, 63, 64, 57, 1092, 53, 54, 55, 56, 59, 60, 1073, 1109, 1110, 1111, 1112, 5, 1011, 3, 4, 1007, 1113, 1107, 67, 1100032, 1114, 1115, 65, 66, 61, 62, 1100033, 1100034, 1100031] S (sv_sts (sv_up (sv_up (sv_up (sv_up S 1100033 0 (x5)) 1100034 0 ((S 1100025 x5))) 1100033 0 (x5)) 1100034 0 ((S 1100025 x5))) [1076, 41, 42, 43, 44, 45, 46, 47, 1075, 1100029, 1092, 60, 58, 57, 63, 64, 1073, 1109, 1110, 58, 63, 64, 57, 1111, 1112] g109) := sv_mod.sts md24 (by decide)
      have h := h g109 hpo112
      refine sv_goto hM dX12_step__215 (pc' := 446) rfl ?_
      exact sv_vret hM dX12_step__446 rfl ⟨rfl, ok110, md113, h⟩
    · have h := h.2 (hc)
      refine sv_iconst (d := (1 : Int)) hM dX12_step__206 rfl rfl ?_
      refine sv_goto hM dX12_step__207 (pc' := 211) rfl ?_
      refine sv_iload_n hM dX12_step__211 rfl rfl ?_
      obtain ⟨o114, h⟩ := h
      refine sv_callV hM dX12_step__212 sm_iv_916 (by decide) (sm_a0 _) rfl rfl (Nat.le_of_ble_eq_true rfl) sm_h168 (Nat.le_of_ble_eq_true rfl) (Nat.le_of_ble_eq_true rfl) (F' := 4) (Nat.le_of_ble_eq_true rfl) rfl (t_global (1 : Int) (S 28 x5) (sv_up (sv_up (sv_up (sv_up S 1100033 0 (x5)) 1100034 0 ((S 1100025 x5))) 1100033 0 (x5)) 1100034 0 ((S 1100025 x5))) ok23 (⟨by decide, by decide⟩ : 0 ≤ (1 : Int) ∧ (1 : Int) ≤ 1) k27 o114) (fun v S1 hq => ?_)
      obtain ⟨rfl, ok116, md117, hpo118⟩ := hq
      obtain ⟨g115, rfl⟩ : ∃ g, S1 = sv_sts (sv_up (sv_up (sv_up (sv_up S 1100033 0 (x5)) 1100034 0 ((S 1100025 x5))) 1100033 0 (x5)) 1100034 0 ((S 1100025 x5))) [1076, 41, 42, 43, 44, 45, 46, 47, 1075, 1100029, 1092, 60, 58, 57, 63, 64, 1073, 1109, 1110, 58, 63, 64, 57, 1111, 1112] g := ⟨_, md117.eq⟩
      show sv_T sm_XS sm_cs sm_L sm_sh 101 (q_step_ S) 160 215 [(0, .ref 0), (1, sv_I x5), (2, sv_I (S 27 x5)), (3, sv_I (S 28 x5))] [] (sv_sts (sv_up (sv_up (sv_up (sv_up S 1100033 0 (x5)) 1100034 0 ((S 1100025 x5))) 1100033 0 (x5)) 1100034 0 ((S 1100025 x5))) [1076, 41, 42, 43, 44, 45, 46, 47, 1075, 1100029, 1092, 60, 58, 57, 63, 64, 1073, 1109, 1110, 58, 63, 64, 57, 1111, 1112] g115)
      have md119 : sv_mod [1076, 41, 42, 43, 44, 45, 46, 47, 1075, 1100029, 1084, 1085, 48, 1086, 51, 52, 49, 50, 1100020, 1100021, 1100022, 58, 63, 64, 57, 1092, 53, 54, 55, 56, 59, 60, 1073, 1109, 1110, 1111, 1112, 5, 1011, 3, 4, 1007, 1113, 1107, 67, 1100032, 1114, 1115, 65, 66, 61, 62, 1100033, 1100034, 1100031] S (sv_sts (sv_up (sv_up (sv_up (sv_up S 1100033 0 (x5)) 1100034 0 ((S 1100025 x5))) 1100033 0 (x5)) 1100034 0 ((S 1100025 x5))) [1076, 41, 42, 43, 44, 45, 46, 47, 1075, 1100029, 1092, 60, 58, 57, 63, 64, 1073, 1109, 1110, 58, 63, 64, 57, 1111, 1112] g115) := sv_mod.sts md24 (by decide)
      have h := h g115 hpo118
      refine sv_goto hM dX12_step__215 (pc' := 446) rfl ?_
      exact sv_vret hM dX12_step__446 rfl ⟨rfl, ok116, md119, h⟩
  have J5 : ((S 26 x5) = (4 : Int)) → sv_T sm_XS sm_cs sm_L sm_sh 101 (q_step_ S) 160 218 [(0, .ref 0), (1, sv_I x5), (2, sv_I (S 27 x5)), (3, sv_I (S 28 x5))] [] (sv_up (sv_up (sv_up (sv_up S 1100033 0 (x5)) 1100034 0 ((S 1100025 x5))) 1100033 0 (x5)) 1100034 0 ((S 1100025 x5))) := by
    intro hc
    have h := hS.2.2.2.2.2.1 hc
    have k120 : (sm_CT (S 26) (S 27) (S 28) (S 29) (S 1100007) (S 1100023) (S 1100024) (S 1100025) (S 21) (S 1046 0) (S 1032 0) (S 1008 0) (S 1055 0) → 0 ≤ (x5) → (x5) < (S 1046 0) → (((S 26 (x5)) = 2 ∨ (S 26 (x5)) = 4) → (0 ≤ (S 27 (x5)) ∧ 0 ≤ (S 28 (x5)) ∧ (S 28 (x5)) < (S 1008 0)) ∧ (0 ≤ ((S 1100007 (x5)) - 1) ∧ (0 ≤ (S 1100023 (x5)) → (S 1100007 (S 1100023 (x5))) ≤ ((S 1100007 (x5)) - 1)) ∧ (0 ≤ (S 1100025 (x5)) → (S 1100007 (S 1100025 (x5))) ≤ ((S 1100007 (x5)) - 1))) ∧ (0 ≤ ((x5) + 1) ∧ ((x5) + 1) < (S 1046 0) ∧ (S 29 ((x5) + 1)) = ((S 29 (x5))) ∧ (S 1100007 ((x5) + 1)) = ((S 1100007 (x5))) ∧ (S 1100023 ((x5) + 1)) = ((S 1100023 (x5))) ∧ (S 1100025 ((x5) + 1)) = ((S 1100025 (x5)))))) := fun h h0 h1 => sm_ct_6 h _ h0 h1
    have h := h k120
    have k121 : (sm_SK (S 63) (S 64) (S 44) (S 1100007) (S 1100025) (S 1076 0) (S 1007 0) (400 * ((S 1092 0) - 1)) ((S 58 ((S 1092 0) - 1))) (((S 1100025 x5))) → sm_LS (S 26) (S 1100007) (S 1100025) (S 1046 0) → 0 ≤ (S 58 ((S 1092 0) - 1)) - 1 → (S 58 ((S 1092 0) - 1)) - 1 < (S 58 ((S 1092 0) - 1)) → ((S 1100025 x5)) < (S 1046 0) → ((S 1100025 x5)) = (S 1100025 (x5)) → (S 58 ((S 1092 0) - 1)) = (S 1100007 (x5)) → (0 ≤ ((S 1100025 x5)) → (S 26 ((S 1100025 x5))) = 29) → (0 ≤ (S 1100025 (x5)) → (S 1100007 (S 1100025 (x5))) ≤ (S 1100007 (x5)) - 1) → sm_VO (S 44) (S 1076 0) (S 1007 0) ((S 63 ((400 * ((S 1092 0) - 1) + (S 58 ((S 1092 0) - 1))) - 1 - (0 : Int)))) ((S 64 ((400 * ((S 1092 0) - 1) + (S 58 ((S 1092 0) - 1))) - 1 - (0 : Int))))) := fun h a b e g q f i j => sm_VO_eq (sm_SK_at h a _ b e g (fun z => ⟨i z, by rw [q]; have := j (by omega); omega⟩)) (congrArg _ (by omega)) (congrArg _ (by omega))
    have h := h k121
    have k122 : (sm_FO (S 44) (S 45) (S 1076 0) → 1 ≤ (S 1076 0) → (S 44 0) = 0) := fun h a => h.2 a
    have h := h k122
    refine sv_aload_n hM dX12_step__218 rfl rfl ?_
    refine sv_iconst (d := (0 : Int)) hM dX12_step__219 rfl rfl ?_
    refine sv_iload_n hM dX12_step__220 rfl rfl ?_
    refine sv_aload_n hM dX12_step__221 rfl rfl ?_
    refine sv_iconst (d := (0 : Int)) hM dX12_step__222 rfl rfl ?_
    obtain ⟨o123, h⟩ := h
    refine sv_callV hM dX12_step__223 sm_iv_910 (by decide) (sm_a0 _) rfl rfl (Nat.le_of_ble_eq_true rfl) sm_h150 (Nat.le_of_ble_eq_true rfl) (Nat.le_of_ble_eq_true rfl) (F' := 1) (Nat.le_of_ble_eq_true rfl) rfl (t_sortAt (0 : Int) (sv_up (sv_up (sv_up (sv_up S 1100033 0 (x5)) 1100034 0 ((S 1100025 x5))) 1100033 0 (x5)) 1100034 0 ((S 1100025 x5))) ok23 (⟨by decide, by decide⟩ : sv_R (0 : Int)) o123) (fun v S1 hq => ?_)
    obtain ⟨rfl, hS1⟩ := hq
    obtain rfl : (sv_up (sv_up (sv_up (sv_up S 1100033 0 (x5)) 1100034 0 ((S 1100025 x5))) 1100033 0 (x5)) 1100034 0 ((S 1100025 x5))) = S1 := hS1.symm
    show sv_T sm_XS sm_cs sm_L sm_sh 101 (q_step_ S) 160 226 [(0, .ref 0), (1, sv_I x5), (2, sv_I (S 27 x5)), (3, sv_I (S 28 x5))] [sv_I ((S 63 ((400 * ((S 1092 0) - 1) + (S 58 ((S 1092 0) - 1))) - 1 - (0 : Int)))), sv_I (S 28 x5), sv_I (0 : Int), .ref 0] (sv_up (sv_up (sv_up (sv_up S 1100033 0 (x5)) 1100034 0 ((S 1100025 x5))) 1100033 0 (x5)) 1100034 0 ((S 1100025 x5)))
    refine sv_aload_n hM dX12_step__226 rfl rfl ?_
    refine sv_iconst (d := (0 : Int)) hM dX12_step__227 rfl rfl ?_
    refine sv_callV hM dX12_step__228 sm_iv_913 (by decide) (sm_a0 _) rfl rfl (Nat.le_of_ble_eq_true rfl) sm_h151 (Nat.le_of_ble_eq_true rfl) (Nat.le_of_ble_eq_true rfl) (F' := 1) (Nat.le_of_ble_eq_true rfl) rfl (t_valueAt (0 : Int) (sv_up (sv_up (sv_up (sv_up S 1100033 0 (x5)) 1100034 0 ((S 1100025 x5))) 1100033 0 (x5)) 1100034 0 ((S 1100025 x5))) ok23 (⟨by decide, by decide⟩ : sv_R (0 : Int)) o123) (fun v S1 hq => ?_)
    obtain ⟨rfl, hS1⟩ := hq
    obtain rfl : (sv_up (sv_up (sv_up (sv_up S 1100033 0 (x5)) 1100034 0 ((S 1100025 x5))) 1100033 0 (x5)) 1100034 0 ((S 1100025 x5))) = S1 := hS1.symm
    show sv_T sm_XS sm_cs sm_L sm_sh 101 (q_step_ S) 160 231 [(0, .ref 0), (1, sv_I x5), (2, sv_I (S 27 x5)), (3, sv_I (S 28 x5))] [sv_I ((S 64 ((400 * ((S 1092 0) - 1) + (S 58 ((S 1092 0) - 1))) - 1 - (0 : Int)))), sv_I ((S 63 ((400 * ((S 1092 0) - 1) + (S 58 ((S 1092 0) - 1))) - 1 - (0 : Int)))), sv_I (S 28 x5), sv_I (0 : Int), .ref 0] (sv_up (sv_up (sv_up (sv_up S 1100033 0 (x5)) 1100034 0 ((S 1100025 x5))) 1100033 0 (x5)) 1100034 0 ((S 1100025 x5)))
    obtain ⟨o124, h⟩ := h
    refine sv_callV hM dX12_step__231 sm_iv_870 (by decide) (sm_a0 _) rfl rfl (Nat.le_of_ble_eq_true rfl) sm_h141 (Nat.le_of_ble_eq_true rfl) (Nat.le_of_ble_eq_true rfl) (F' := 1) (Nat.le_of_ble_eq_true rfl) rfl (t_set_ (0 : Int) (S 28 x5) ((S 63 ((400 * ((S 1092 0) - 1) + (S 58 ((S 1092 0) - 1))) - 1 - (0 : Int)))) ((S 64 ((400 * ((S 1092 0) - 1) + (S 58 ((S 1092 0) - 1))) - 1 - (0 : Int)))) (sv_up (sv_up (sv_up (sv_up S 1100033 0 (x5)) 1100034 0 ((S 1100025 x5))) 1100033 0 (x5)) 1100034 0 ((S 1100025 x5))) ok23 (⟨by decide, by decide⟩ : sv_R (0 : Int)) k27 (sm_okI ok23 sm_r63 _) (sm_okI ok23 sm_r64 _) o124) (fun v S1 hq => ?_)
    obtain ⟨rfl, ok126, md127, hpo128⟩ := hq
    obtain ⟨g125, rfl⟩ : ∃ g, S1 = sv_sts (sv_up (sv_up (sv_up (sv_up S 1100033 0 (x5)) 1100034 0 ((S 1100025 x5))) 1100033 0 (x5)) 1100034 0 ((S 1100025 x5))) [1084, 1085, 48, 1086, 51, 52, 46, 47, 49, 50, 1075, 1100020, 1100021, 1100022] g := ⟨_, md127.eq⟩
    show sv_T sm_XS sm_cs sm_L sm_sh 101 (q_step_ S) 160 234 [(0, .ref 0), (1, sv_I x5), (2, sv_I (S 27 x5)), (3, sv_I (S 28 x5))] [] (sv_sts (sv_up (sv_up (sv_up (sv_up S 1100033 0 (x5)) 1100034 0 ((S 1100025 x5))) 1100033 0 (x5)) 1100034 0 ((S 1100025 x5))) [1084, 1085, 48, 1086, 51, 52, 46, 47, 49, 50, 1075, 1100020, 1100021, 1100022] g125)
    have md129 : sv_mod [1076, 41, 42, 43, 44, 45, 46, 47, 1075, 1100029, 1084, 1085, 48, 1086, 51, 52, 49, 50, 1100020, 1100021, 1100022, 58, 63, 64, 57, 1092, 53, 54, 55, 56, 59, 60, 1073, 1109, 1110, 1111, 1112, 5, 1011, 3, 4, 1007, 1113, 1107, 67, 1100032, 1114, 1115, 65, 66, 61, 62, 1100033, 1100034, 1100031] S (sv_sts (sv_up (sv_up (sv_up (sv_up S 1100033 0 (x5)) 1100034 0 ((S 1100025 x5))) 1100033 0 (x5)) 1100034 0 ((S 1100025 x5))) [1084, 1085, 48, 1086, 51, 52, 46, 47, 49, 50, 1075, 1100020, 1100021, 1100022] g125) := sv_mod.sts md24 (by decide)
    have h := h g125 hpo128
    refine sv_aload_n hM dX12_step__234 rfl rfl ?_
    have k130 : (0 ≤ (g125 1075 0) ∧ (g125 1075 0) ≤ 1) := sm_okZ ok126 sm_r1075 0
    have h := h k130
    refine sv_getI hM dX12_step__235 sm_fl_794 (sm_a0 _) sm_k75 rfl (x := (g125 1075 0)) rfl ?_
    refine sv_cond_ne hM dX12_step__238 (sv_R01 k130) (t := 446) rfl rfl (fun hc => ?_) (fun hc => ?_)
    · have h := h.1 (hc)
      exact sv_vret hM dX12_step__446 rfl ⟨rfl, ok126, md129, h⟩
    · have h := h.2 (hc)
      refine sv_aload_n hM dX12_step__241 rfl rfl ?_
      obtain ⟨o131, h⟩ := h
      refine sv_callV hM dX12_step__242 sm_iv_888 (by decide) (sm_a0 _) rfl rfl (Nat.le_of_ble_eq_true rfl) sm_h154 (Nat.le_of_ble_eq_true rfl) (Nat.le_of_ble_eq_true rfl) (F' := 0) (Nat.le_of_ble_eq_true rfl) rfl (t_goOn  (sv_sts (sv_up (sv_up (sv_up (sv_up S 1100033 0 (x5)) 1100034 0 ((S 1100025 x5))) 1100033 0 (x5)) 1100034 0 ((S 1100025 x5))) [1084, 1085, 48, 1086, 51, 52, 46, 47, 49, 50, 1075, 1100020, 1100021, 1100022] g125) ok126 o131) (fun v S1 hq => ?_)
      obtain ⟨rfl, ok133, md134, hpo135⟩ := hq
      obtain ⟨g132, rfl⟩ : ∃ g, S1 = sv_sts (sv_sts (sv_up (sv_up (sv_up (sv_up S 1100033 0 (x5)) 1100034 0 ((S 1100025 x5))) 1100033 0 (x5)) 1100034 0 ((S 1100025 x5))) [1084, 1085, 48, 1086, 51, 52, 46, 47, 49, 50, 1075, 1100020, 1100021, 1100022] g125) [57] g := ⟨_, md134.eq⟩
      show sv_T sm_XS sm_cs sm_L sm_sh 101 (q_step_ S) 160 245 [(0, .ref 0), (1, sv_I x5), (2, sv_I (S 27 x5)), (3, sv_I (S 28 x5))] [] (sv_sts (sv_sts (sv_up (sv_up (sv_up (sv_up S 1100033 0 (x5)) 1100034 0 ((S 1100025 x5))) 1100033 0 (x5)) 1100034 0 ((S 1100025 x5))) [1084, 1085, 48, 1086, 51, 52, 46, 47, 49, 50, 1075, 1100020, 1100021, 1100022] g125) [57] g132)
      have md136 : sv_mod [1076, 41, 42, 43, 44, 45, 46, 47, 1075, 1100029, 1084, 1085, 48, 1086, 51, 52, 49, 50, 1100020, 1100021, 1100022, 58, 63, 64, 57, 1092, 53, 54, 55, 56, 59, 60, 1073, 1109, 1110, 1111, 1112, 5, 1011, 3, 4, 1007, 1113, 1107, 67, 1100032, 1114, 1115, 65, 66, 61, 62, 1100033, 1100034, 1100031] S (sv_sts (sv_sts (sv_up (sv_up (sv_up (sv_up S 1100033 0 (x5)) 1100034 0 ((S 1100025 x5))) 1100033 0 (x5)) 1100034 0 ((S 1100025 x5))) [1084, 1085, 48, 1086, 51, 52, 46, 47, 49, 50, 1075, 1100020, 1100021, 1100022] g125) [57] g132) := sv_mod.sts md129 (by decide)
      have h := h g132 hpo135
      refine sv_goto hM dX12_step__245 (pc' := 446) rfl ?_
      exact sv_vret hM dX12_step__446 rfl ⟨rfl, ok133, md136, h⟩
  have J6 : ((S 26 x5) = (6 : Int)) → sv_T sm_XS sm_cs sm_L sm_sh 101 (q_step_ S) 160 248 [(0, .ref 0), (1, sv_I x5), (2, sv_I (S 27 x5)), (3, sv_I (S 28 x5))] [] (sv_up (sv_up (sv_up (sv_up S 1100033 0 (x5)) 1100034 0 ((S 1100025 x5))) 1100033 0 (x5)) 1100034 0 ((S 1100025 x5))) := by
    intro hc
    have h := hS.2.2.2.2.2.2.1 hc
    have k137 : (sm_CT (S 26) (S 27) (S 28) (S 29) (S 1100007) (S 1100023) (S 1100024) (S 1100025) (S 21) (S 1046 0) (S 1032 0) (S 1008 0) (S 1055 0) → 0 ≤ (x5) → (x5) < (S 1046 0) → ((S 26 (x5)) = 6 → (0 ≤ ((S 1100007 (x5))) ∧ (0 ≤ (S 1100023 (x5)) → (S 1100007 (S 1100023 (x5))) ≤ ((S 1100007 (x5)))) ∧ (0 ≤ (S 1100025 (x5)) → (S 1100007 (S 1100025 (x5))) ≤ ((S 1100007 (x5))))) ∧ (0 ≤ ((x5) + 1) ∧ ((x5) + 1) < (S 1046 0) ∧ (S 29 ((x5) + 1)) = ((S 29 (x5))) ∧ (S 1100007 ((x5) + 1)) = ((S 1100007 (x5)) + 1) ∧ (S 1100023 ((x5) + 1)) = ((S 1100023 (x5))) ∧ (S 1100025 ((x5) + 1)) = ((S 1100025 (x5)))))) := fun h h0 h1 => sm_ct_7 h _ h0 h1
    have h := h k137
    refine sv_aload_n hM dX12_step__248 rfl rfl ?_
    refine sv_aload_n hM dX12_step__249 rfl rfl ?_
    refine sv_getA hM dX12_step__250 sm_fl_176 (sm_a0 _) sm_k95 rfl ?_
    refine sv_aload_n hM dX12_step__253 rfl rfl ?_
    refine sv_getI hM dX12_step__254 sm_fl_872 (sm_a0 _) sm_k92 rfl (x := (S 1092 0)) rfl ?_
    refine sv_iconst (d := (1 : Int)) hM dX12_step__257 rfl rfl ?_
    refine sv_isub hM dX12_step__258 rfl ?_
    have k138 : sv_R (S 55 ((S 1092 0) - (1 : Int))) := sm_okI ok23 sm_r55 ((S 1092 0) - (1 : Int))
    have h := h k138
    refine sv_iald hM dX12_step__259 (sm_a55 _) (by decide) o2.1 o2.2 rfl (x := (S 55 ((S 1092 0) - (1 : Int)))) rfl ?_
    refine sv_aload_n hM dX12_step__260 rfl rfl ?_
    refine sv_getA hM dX12_step__261 sm_fl_179 (sm_a0 _) sm_k96 rfl ?_
    refine sv_aload_n hM dX12_step__264 rfl rfl ?_
    refine sv_getI hM dX12_step__265 sm_fl_872 (sm_a0 _) sm_k92 rfl (x := (S 1092 0)) rfl ?_
    refine sv_iconst (d := (1 : Int)) hM dX12_step__268 rfl rfl ?_
    refine sv_isub hM dX12_step__269 rfl ?_
    have k139 : sv_R (S 56 ((S 1092 0) - (1 : Int))) := sm_okI ok23 sm_r56 ((S 1092 0) - (1 : Int))
    have h := h k139
    refine sv_iald hM dX12_step__270 (sm_a56 _) (by decide) o2.1 o2.2 rfl (x := (S 56 ((S 1092 0) - (1 : Int)))) rfl ?_
    refine sv_callV hM dX12_step__271 sm_iv_822 (by decide) (sm_a0 _) rfl rfl (Nat.le_of_ble_eq_true rfl) sm_h122 (Nat.le_of_ble_eq_true rfl) (Nat.le_of_ble_eq_true rfl) (F' := 0) (Nat.le_of_ble_eq_true rfl) rfl (t_give_ (S 55 ((S 1092 0) - (1 : Int))) (S 56 ((S 1092 0) - (1 : Int))) (sv_up (sv_up (sv_up (sv_up S 1100033 0 (x5)) 1100034 0 ((S 1100025 x5))) 1100033 0 (x5)) 1100034 0 ((S 1100025 x5))) ok23 k138 k139) (fun v S1 hq => ?_)
    obtain ⟨rfl, ok141, md142, hpo143⟩ := hq
    obtain ⟨g140, rfl⟩ : ∃ g, S1 = sv_sts (sv_up (sv_up (sv_up (sv_up S 1100033 0 (x5)) 1100034 0 ((S 1100025 x5))) 1100033 0 (x5)) 1100034 0 ((S 1100025 x5))) [1111, 1112] g := ⟨_, md142.eq⟩
    show sv_T sm_XS sm_cs sm_L sm_sh 101 (q_step_ S) 160 274 [(0, .ref 0), (1, sv_I x5), (2, sv_I (S 27 x5)), (3, sv_I (S 28 x5))] [] (sv_sts (sv_up (sv_up (sv_up (sv_up S 1100033 0 (x5)) 1100034 0 ((S 1100025 x5))) 1100033 0 (x5)) 1100034 0 ((S 1100025 x5))) [1111, 1112] g140)
    have md144 : sv_mod [1076, 41, 42, 43, 44, 45, 46, 47, 1075, 1100029, 1084, 1085, 48, 1086, 51, 52, 49, 50, 1100020, 1100021, 1100022, 58, 63, 64, 57, 1092, 53, 54, 55, 56, 59, 60, 1073, 1109, 1110, 1111, 1112, 5, 1011, 3, 4, 1007, 1113, 1107, 67, 1100032, 1114, 1115, 65, 66, 61, 62, 1100033, 1100034, 1100031] S (sv_sts (sv_up (sv_up (sv_up (sv_up S 1100033 0 (x5)) 1100034 0 ((S 1100025 x5))) 1100033 0 (x5)) 1100034 0 ((S 1100025 x5))) [1111, 1112] g140) := sv_mod.sts md24 (by decide)
    have h := h g140 hpo143
    refine sv_aload_n hM dX12_step__274 rfl rfl ?_
    refine sv_iconst (d := (0 : Int)) hM dX12_step__275 rfl rfl ?_
    obtain ⟨o145, h⟩ := h
    refine sv_callV hM dX12_step__276 sm_iv_904 (by decide) (sm_a0 _) rfl rfl (Nat.le_of_ble_eq_true rfl) sm_h155 (Nat.le_of_ble_eq_true rfl) (Nat.le_of_ble_eq_true rfl) (F' := 2) (Nat.le_of_ble_eq_true rfl) rfl (t_gives (0 : Int) (sv_sts (sv_up (sv_up (sv_up (sv_up S 1100033 0 (x5)) 1100034 0 ((S 1100025 x5))) 1100033 0 (x5)) 1100034 0 ((S 1100025 x5))) [1111, 1112] g140) ok141 (⟨by decide, by decide⟩ : sv_R (0 : Int)) o145) (fun v S1 hq => ?_)
    obtain ⟨rfl, ok147, md148, hpo149⟩ := hq
    obtain ⟨g146, rfl⟩ : ∃ g, S1 = sv_sts (sv_sts (sv_up (sv_up (sv_up (sv_up S 1100033 0 (x5)) 1100034 0 ((S 1100025 x5))) 1100033 0 (x5)) 1100034 0 ((S 1100025 x5))) [1111, 1112] g140) [58, 63, 64, 57] g := ⟨_, md148.eq⟩
    show sv_T sm_XS sm_cs sm_L sm_sh 101 (q_step_ S) 160 279 [(0, .ref 0), (1, sv_I x5), (2, sv_I (S 27 x5)), (3, sv_I (S 28 x5))] [] (sv_sts (sv_sts (sv_up (sv_up (sv_up (sv_up S 1100033 0 (x5)) 1100034 0 ((S 1100025 x5))) 1100033 0 (x5)) 1100034 0 ((S 1100025 x5))) [1111, 1112] g140) [58, 63, 64, 57] g146)
    have md150 : sv_mod [1076, 41, 42, 43, 44, 45, 46, 47, 1075, 1100029, 1084, 1085, 48, 1086, 51, 52, 49, 50, 1100020, 1100021, 1100022, 58, 63, 64, 57, 1092, 53, 54, 55, 56, 59, 60, 1073, 1109, 1110, 1111, 1112, 5, 1011, 3, 4, 1007, 1113, 1107, 67, 1100032, 1114, 1115, 65, 66, 61, 62, 1100033, 1100034, 1100031] S (sv_sts (sv_sts (sv_up (sv_up (sv_up (sv_up S 1100033 0 (x5)) 1100034 0 ((S 1100025 x5))) 1100033 0 (x5)) 1100034 0 ((S 1100025 x5))) [1111, 1112] g140) [58, 63, 64, 57] g146) := sv_mod.sts md144 (by decide)
    have h := h g146 hpo149
    refine sv_goto hM dX12_step__279 (pc' := 446) rfl ?_
    exact sv_vret hM dX12_step__446 rfl ⟨rfl, ok147, md150, h⟩
  have J7 : ((S 26 x5) = (7 : Int)) → sv_T sm_XS sm_cs sm_L sm_sh 101 (q_step_ S) 160 282 [(0, .ref 0), (1, sv_I x5), (2, sv_I (S 27 x5)), (3, sv_I (S 28 x5))] [] (sv_up (sv_up (sv_up (sv_up S 1100033 0 (x5)) 1100034 0 ((S 1100025 x5))) 1100033 0 (x5)) 1100034 0 ((S 1100025 x5))) := by
    intro hc
    have h := hS.2.2.2.2.2.2.2.1 hc
    have k151 : (sm_CT (S 26) (S 27) (S 28) (S 29) (S 1100007) (S 1100023) (S 1100024) (S 1100025) (S 21) (S 1046 0) (S 1032 0) (S 1008 0) (S 1055 0) → 0 ≤ (x5) → (x5) < (S 1046 0) → (((S 26 (x5)) = 7 ∨ (S 26 (x5)) = 8) → (0 ≤ (S 27 (x5)) ∧ (S 27 (x5)) < (S 1055 0)) ∧ (0 ≤ ((S 1100007 (x5))) ∧ (0 ≤ (S 1100023 (x5)) → (S 1100007 (S 1100023 (x5))) ≤ ((S 1100007 (x5)))) ∧ (0 ≤ (S 1100025 (x5)) → (S 1100007 (S 1100025 (x5))) ≤ ((S 1100007 (x5))))) ∧ (0 ≤ ((x5) + 1) ∧ ((x5) + 1) < (S 1046 0) ∧ (S 29 ((x5) + 1)) = ((S 29 (x5))) ∧ (S 1100007 ((x5) + 1)) = ((S 1100007 (x5)) + 1) ∧ (S 1100023 ((x5) + 1)) = ((S 1100023 (x5))) ∧ (S 1100025 ((x5) + 1)) = ((S 1100025 (x5)))))) := fun h h0 h1 => sm_ct_8 h _ h0 h1
    have h := h k151
    refine sv_aload_n hM dX12_step__282 rfl rfl ?_
    refine sv_bipush (d := (7 : Int)) hM dX12_step__283 rfl rfl ?_
    refine sv_aload_n hM dX12_step__285 rfl rfl ?_
    refine sv_iconst (d := (1 : Int)) hM dX12_step__286 rfl rfl ?_
    refine sv_aload_n hM dX12_step__287 rfl rfl ?_
    refine sv_iload_n hM dX12_step__288 rfl rfl ?_
    obtain ⟨o152, h⟩ := h
    refine sv_callV hM dX12_step__289 sm_iv_920 (by decide) (sm_a0 _) rfl rfl (Nat.le_of_ble_eq_true rfl) sm_h166 (Nat.le_of_ble_eq_true rfl) (Nat.le_of_ble_eq_true rfl) (F' := 0) (Nat.le_of_ble_eq_true rfl) rfl (t_siteLabel (S 27 x5) (sv_up (sv_up (sv_up (sv_up S 1100033 0 (x5)) 1100034 0 ((S 1100025 x5))) 1100033 0 (x5)) 1100034 0 ((S 1100025 x5))) ok23 k26 o152) (fun v S1 hq => ?_)
    obtain ⟨r157, rfl, hr157, ok154, md155, hpo156⟩ := hq
    obtain rfl : (sv_up (sv_up (sv_up (sv_up S 1100033 0 (x5)) 1100034 0 ((S 1100025 x5))) 1100033 0 (x5)) 1100034 0 ((S 1100025 x5))) = S1 := (funext fun j => md155 j (by intro q; cases q)).symm
    show sv_T sm_XS sm_cs sm_L sm_sh 101 (q_step_ S) 160 292 [(0, .ref 0), (1, sv_I x5), (2, sv_I (S 27 x5)), (3, sv_I (S 28 x5))] [sv_I r157, sv_I (1 : Int), .ref 0, sv_I (7 : Int), .ref 0] (sv_up (sv_up (sv_up (sv_up S 1100033 0 (x5)) 1100034 0 ((S 1100025 x5))) 1100033 0 (x5)) 1100034 0 ((S 1100025 x5)))
    have h := h r157 hr157 hpo156
    refine sv_iconst (d := (0 : Int)) hM dX12_step__292 rfl rfl ?_
    obtain ⟨o158, h⟩ := h
    refine sv_callV hM dX12_step__293 sm_iv_858 (by decide) (sm_a0 _) rfl rfl (Nat.le_of_ble_eq_true rfl) sm_h139 (Nat.le_of_ble_eq_true rfl) (Nat.le_of_ble_eq_true rfl) (F' := 0) (Nat.le_of_ble_eq_true rfl) rfl (t_newObject (1 : Int) r157 (0 : Int) (sv_up (sv_up (sv_up (sv_up S 1100033 0 (x5)) 1100034 0 ((S 1100025 x5))) 1100033 0 (x5)) 1100034 0 ((S 1100025 x5))) ok154 (⟨by decide, by decide⟩ : sv_R (1 : Int)) hr157 (⟨by decide, by decide⟩ : sv_R (0 : Int)) o158) (fun v S1 hq => ?_)
    obtain ⟨r163, rfl, hr163, ok160, md161, hpo162⟩ := hq
    obtain ⟨g159, rfl⟩ : ∃ g, S1 = sv_sts (sv_up (sv_up (sv_up (sv_up S 1100033 0 (x5)) 1100034 0 ((S 1100025 x5))) 1100033 0 (x5)) 1100034 0 ((S 1100025 x5))) [1076, 41, 42, 43, 44, 45, 46, 47, 1075, 1100029] g := ⟨_, md161.eq⟩
    show sv_T sm_XS sm_cs sm_L sm_sh 101 (q_step_ S) 160 296 [(0, .ref 0), (1, sv_I x5), (2, sv_I (S 27 x5)), (3, sv_I (S 28 x5))] [sv_I r163, sv_I (7 : Int), .ref 0] (sv_sts (sv_up (sv_up (sv_up (sv_up S 1100033 0 (x5)) 1100034 0 ((S 1100025 x5))) 1100033 0 (x5)) 1100034 0 ((S 1100025 x5))) [1076, 41, 42, 43, 44, 45, 46, 47, 1075, 1100029] g159)
    have md164 : sv_mod [1076, 41, 42, 43, 44, 45, 46, 47, 1075, 1100029, 1084, 1085, 48, 1086, 51, 52, 49, 50, 1100020, 1100021, 1100022, 58, 63, 64, 57, 1092, 53, 54, 55, 56, 59, 60, 1073, 1109, 1110, 1111, 1112, 5, 1011, 3, 4, 1007, 1113, 1107, 67, 1100032, 1114, 1115, 65, 66, 61, 62, 1100033, 1100034, 1100031] S (sv_sts (sv_up (sv_up (sv_up (sv_up S 1100033 0 (x5)) 1100034 0 ((S 1100025 x5))) 1100033 0 (x5)) 1100034 0 ((S 1100025 x5))) [1076, 41, 42, 43, 44, 45, 46, 47, 1075, 1100029] g159) := sv_mod.sts md24 (by decide)
    have h := h r163 hr163 g159 hpo162
    have k165 : (0 ≤ r163 → r163 < (g159 1076 0) → ¬ (g159 44 r163) = 3 → sm_VO (g159 44) (g159 1076 0) (S 1007 0) (7) (r163)) := fun a b e => sm_VO_7 a b e
    have h := h k165
    refine sv_callV hM dX12_step__296 sm_iv_822 (by decide) (sm_a0 _) rfl rfl (Nat.le_of_ble_eq_true rfl) sm_h122 (Nat.le_of_ble_eq_true rfl) (Nat.le_of_ble_eq_true rfl) (F' := 0) (Nat.le_of_ble_eq_true rfl) rfl (t_give_ (7 : Int) r163 (sv_sts (sv_up (sv_up (sv_up (sv_up S 1100033 0 (x5)) 1100034 0 ((S 1100025 x5))) 1100033 0 (x5)) 1100034 0 ((S 1100025 x5))) [1076, 41, 42, 43, 44, 45, 46, 47, 1075, 1100029] g159) ok160 (⟨by decide, by decide⟩ : sv_R (7 : Int)) hr163) (fun v S1 hq => ?_)
    obtain ⟨rfl, ok167, md168, hpo169⟩ := hq
    obtain ⟨g166, rfl⟩ : ∃ g, S1 = sv_sts (sv_sts (sv_up (sv_up (sv_up (sv_up S 1100033 0 (x5)) 1100034 0 ((S 1100025 x5))) 1100033 0 (x5)) 1100034 0 ((S 1100025 x5))) [1076, 41, 42, 43, 44, 45, 46, 47, 1075, 1100029] g159) [1111, 1112] g := ⟨_, md168.eq⟩
    show sv_T sm_XS sm_cs sm_L sm_sh 101 (q_step_ S) 160 299 [(0, .ref 0), (1, sv_I x5), (2, sv_I (S 27 x5)), (3, sv_I (S 28 x5))] [] (sv_sts (sv_sts (sv_up (sv_up (sv_up (sv_up S 1100033 0 (x5)) 1100034 0 ((S 1100025 x5))) 1100033 0 (x5)) 1100034 0 ((S 1100025 x5))) [1076, 41, 42, 43, 44, 45, 46, 47, 1075, 1100029] g159) [1111, 1112] g166)
    have md170 : sv_mod [1076, 41, 42, 43, 44, 45, 46, 47, 1075, 1100029, 1084, 1085, 48, 1086, 51, 52, 49, 50, 1100020, 1100021, 1100022, 58, 63, 64, 57, 1092, 53, 54, 55, 56, 59, 60, 1073, 1109, 1110, 1111, 1112, 5, 1011, 3, 4, 1007, 1113, 1107, 67, 1100032, 1114, 1115, 65, 66, 61, 62, 1100033, 1100034, 1100031] S (sv_sts (sv_sts (sv_up (sv_up (sv_up (sv_up S 1100033 0 (x5)) 1100034 0 ((S 1100025 x5))) 1100033 0 (x5)) 1100034 0 ((S 1100025 x5))) [1076, 41, 42, 43, 44, 45, 46, 47, 1075, 1100029] g159) [1111, 1112] g166) := sv_mod.sts md164 (by decide)
    have h := h g166 hpo169
    refine sv_aload_n hM dX12_step__299 rfl rfl ?_
    refine sv_iconst (d := (0 : Int)) hM dX12_step__300 rfl rfl ?_
    obtain ⟨o171, h⟩ := h
    refine sv_callV hM dX12_step__301 sm_iv_904 (by decide) (sm_a0 _) rfl rfl (Nat.le_of_ble_eq_true rfl) sm_h155 (Nat.le_of_ble_eq_true rfl) (Nat.le_of_ble_eq_true rfl) (F' := 2) (Nat.le_of_ble_eq_true rfl) rfl (t_gives (0 : Int) (sv_sts (sv_sts (sv_up (sv_up (sv_up (sv_up S 1100033 0 (x5)) 1100034 0 ((S 1100025 x5))) 1100033 0 (x5)) 1100034 0 ((S 1100025 x5))) [1076, 41, 42, 43, 44, 45, 46, 47, 1075, 1100029] g159) [1111, 1112] g166) ok167 (⟨by decide, by decide⟩ : sv_R (0 : Int)) o171) (fun v S1 hq => ?_)
    obtain ⟨rfl, ok173, md174, hpo175⟩ := hq
    obtain ⟨g172, rfl⟩ : ∃ g, S1 = sv_sts (sv_sts (sv_sts (sv_up (sv_up (sv_up (sv_up S 1100033 0 (x5)) 1100034 0 ((S 1100025 x5))) 1100033 0 (x5)) 1100034 0 ((S 1100025 x5))) [1076, 41, 42, 43, 44, 45, 46, 47, 1075, 1100029] g159) [1111, 1112] g166) [58, 63, 64, 57] g := ⟨_, md174.eq⟩
    show sv_T sm_XS sm_cs sm_L sm_sh 101 (q_step_ S) 160 304 [(0, .ref 0), (1, sv_I x5), (2, sv_I (S 27 x5)), (3, sv_I (S 28 x5))] [] (sv_sts (sv_sts (sv_sts (sv_up (sv_up (sv_up (sv_up S 1100033 0 (x5)) 1100034 0 ((S 1100025 x5))) 1100033 0 (x5)) 1100034 0 ((S 1100025 x5))) [1076, 41, 42, 43, 44, 45, 46, 47, 1075, 1100029] g159) [1111, 1112] g166) [58, 63, 64, 57] g172)
    have md176 : sv_mod [1076, 41, 42, 43, 44, 45, 46, 47, 1075, 1100029, 1084, 1085, 48, 1086, 51, 52, 49, 50, 1100020, 1100021, 1100022, 58, 63, 64, 57, 1092, 53, 54, 55, 56, 59, 60, 1073, 1109, 1110, 1111, 1112, 5, 1011, 3, 4, 1007, 1113, 1107, 67, 1100032, 1114, 1115, 65, 66, 61, 62, 1100033, 1100034, 1100031] S (sv_sts (sv_sts (sv_sts (sv_up (sv_up (sv_up (sv_up S 1100033 0 (x5)) 1100034 0 ((S 1100025 x5))) 1100033 0 (x5)) 1100034 0 ((S 1100025 x5))) [1076, 41, 42, 43, 44, 45, 46, 47, 1075, 1100029] g159) [1111, 1112] g166) [58, 63, 64, 57] g172) := sv_mod.sts md170 (by decide)
    have h := h g172 hpo175
    refine sv_goto hM dX12_step__304 (pc' := 446) rfl ?_
    exact sv_vret hM dX12_step__446 rfl ⟨rfl, ok173, md176, h⟩
  have J8 : ((S 26 x5) = (8 : Int)) → sv_T sm_XS sm_cs sm_L sm_sh 101 (q_step_ S) 160 307 [(0, .ref 0), (1, sv_I x5), (2, sv_I (S 27 x5)), (3, sv_I (S 28 x5))] [] (sv_up (sv_up (sv_up (sv_up S 1100033 0 (x5)) 1100034 0 ((S 1100025 x5))) 1100033 0 (x5)) 1100034 0 ((S 1100025 x5))) := by
    intro hc
    have h := hS.2.2.2.2.2.2.2.2.1 hc
    have k177 : (sm_CT (S 26) (S 27) (S 28) (S 29) (S 1100007) (S 1100023) (S 1100024) (S 1100025) (S 21) (S 1046 0) (S 1032 0) (S 1008 0) (S 1055 0) → 0 ≤ (x5) → (x5) < (S 1046 0) → (((S 26 (x5)) = 7 ∨ (S 26 (x5)) = 8) → (0 ≤ (S 27 (x5)) ∧ (S 27 (x5)) < (S 1055 0)) ∧ (0 ≤ ((S 1100007 (x5))) ∧ (0 ≤ (S 1100023 (x5)) → (S 1100007 (S 1100023 (x5))) ≤ ((S 1100007 (x5)))) ∧ (0 ≤ (S 1100025 (x5)) → (S 1100007 (S 1100025 (x5))) ≤ ((S 1100007 (x5))))) ∧ (0 ≤ ((x5) + 1) ∧ ((x5) + 1) < (S 1046 0) ∧ (S 29 ((x5) + 1)) = ((S 29 (x5))) ∧ (S 1100007 ((x5) + 1)) = ((S 1100007 (x5)) + 1) ∧ (S 1100023 ((x5) + 1)) = ((S 1100023 (x5))) ∧ (S 1100025 ((x5) + 1)) = ((S 1100025 (x5)))))) := fun h h0 h1 => sm_ct_8 h _ h0 h1
    have h := h k177
    refine sv_aload_n hM dX12_step__307 rfl rfl ?_
    refine sv_bipush (d := (7 : Int)) hM dX12_step__308 rfl rfl ?_
    refine sv_aload_n hM dX12_step__310 rfl rfl ?_
    refine sv_aload_n hM dX12_step__311 rfl rfl ?_
    refine sv_iload_n hM dX12_step__312 rfl rfl ?_
    obtain ⟨o178, h⟩ := h
    refine sv_callV hM dX12_step__313 sm_iv_920 (by decide) (sm_a0 _) rfl rfl (Nat.le_of_ble_eq_true rfl) sm_h166 (Nat.le_of_ble_eq_true rfl) (Nat.le_of_ble_eq_true rfl) (F' := 0) (Nat.le_of_ble_eq_true rfl) rfl (t_siteLabel (S 27 x5) (sv_up (sv_up (sv_up (sv_up S 1100033 0 (x5)) 1100034 0 ((S 1100025 x5))) 1100033 0 (x5)) 1100034 0 ((S 1100025 x5))) ok23 k26 o178) (fun v S1 hq => ?_)
    obtain ⟨r183, rfl, hr183, ok180, md181, hpo182⟩ := hq
    obtain rfl : (sv_up (sv_up (sv_up (sv_up S 1100033 0 (x5)) 1100034 0 ((S 1100025 x5))) 1100033 0 (x5)) 1100034 0 ((S 1100025 x5))) = S1 := (funext fun j => md181 j (by intro q; cases q)).symm
    show sv_T sm_XS sm_cs sm_L sm_sh 101 (q_step_ S) 160 316 [(0, .ref 0), (1, sv_I x5), (2, sv_I (S 27 x5)), (3, sv_I (S 28 x5))] [sv_I r183, .ref 0, sv_I (7 : Int), .ref 0] (sv_up (sv_up (sv_up (sv_up S 1100033 0 (x5)) 1100034 0 ((S 1100025 x5))) 1100033 0 (x5)) 1100034 0 ((S 1100025 x5)))
    have h := h r183 hr183 hpo182
    obtain ⟨o184, h⟩ := h
    refine sv_callV hM dX12_step__316 sm_iv_923 (by decide) (sm_a0 _) rfl rfl (Nat.le_of_ble_eq_true rfl) sm_h167 (Nat.le_of_ble_eq_true rfl) (Nat.le_of_ble_eq_true rfl) (F' := 2) (Nat.le_of_ble_eq_true rfl) rfl (t_newArray r183 (sv_up (sv_up (sv_up (sv_up S 1100033 0 (x5)) 1100034 0 ((S 1100025 x5))) 1100033 0 (x5)) 1100034 0 ((S 1100025 x5))) ok180 hr183 o184) (fun v S1 hq => ?_)
    obtain ⟨r189, rfl, hr189, ok186, md187, hpo188⟩ := hq
    obtain ⟨g185, rfl⟩ : ∃ g, S1 = sv_sts (sv_up (sv_up (sv_up (sv_up S 1100033 0 (x5)) 1100034 0 ((S 1100025 x5))) 1100033 0 (x5)) 1100034 0 ((S 1100025 x5))) [1076, 41, 42, 43, 44, 45, 46, 47, 1075, 1100029, 1084, 1085, 48, 1086, 51, 52, 49, 50, 1100020, 1100021, 1100022, 1100032] g := ⟨_, md187.eq⟩
    show sv_T sm_XS sm_cs sm_L sm_sh 101 (q_step_ S) 160 319 [(0, .ref 0), (1, sv_I x5), (2, sv_I (S 27 x5)), (3, sv_I (S 28 x5))] [sv_I r189, sv_I (7 : Int), .ref 0] (sv_sts (sv_up (sv_up (sv_up (sv_up S 1100033 0 (x5)) 1100034 0 ((S 1100025 x5))) 1100033 0 (x5)) 1100034 0 ((S 1100025 x5))) [1076, 41, 42, 43, 44, 45, 46, 47, 1075, 1100029, 1084, 1085, 48, 1086, 51, 52, 49, 50, 1100020, 1100021, 1100022, 1100032] g185)
    have md190 : sv_mod [1076, 41, 42, 43, 44, 45, 46, 47, 1075, 1100029, 1084, 1085, 48, 1086, 51, 52, 49, 50, 1100020, 1100021, 1100022, 58, 63, 64, 57, 1092, 53, 54, 55, 56, 59, 60, 1073, 1109, 1110, 1111, 1112, 5, 1011, 3, 4, 1007, 1113, 1107, 67, 1100032, 1114, 1115, 65, 66, 61, 62, 1100033, 1100034, 1100031] S (sv_sts (sv_up (sv_up (sv_up (sv_up S 1100033 0 (x5)) 1100034 0 ((S 1100025 x5))) 1100033 0 (x5)) 1100034 0 ((S 1100025 x5))) [1076, 41, 42, 43, 44, 45, 46, 47, 1075, 1100029, 1084, 1085, 48, 1086, 51, 52, 49, 50, 1100020, 1100021, 1100022, 1100032] g185) := sv_mod.sts md24 (by decide)
    have h := h r189 hr189 g185 hpo188
    have k191 : (0 ≤ r189 → r189 < (g185 1076 0) → ¬ (g185 44 r189) = 3 → sm_VO (g185 44) (g185 1076 0) (S 1007 0) (7) (r189)) := fun a b e => sm_VO_7 a b e
    have h := h k191
    refine sv_callV hM dX12_step__319 sm_iv_822 (by decide) (sm_a0 _) rfl rfl (Nat.le_of_ble_eq_true rfl) sm_h122 (Nat.le_of_ble_eq_true rfl) (Nat.le_of_ble_eq_true rfl) (F' := 0) (Nat.le_of_ble_eq_true rfl) rfl (t_give_ (7 : Int) r189 (sv_sts (sv_up (sv_up (sv_up (sv_up S 1100033 0 (x5)) 1100034 0 ((S 1100025 x5))) 1100033 0 (x5)) 1100034 0 ((S 1100025 x5))) [1076, 41, 42, 43, 44, 45, 46, 47, 1075, 1100029, 1084, 1085, 48, 1086, 51, 52, 49, 50, 1100020, 1100021, 1100022, 1100032] g185) ok186 (⟨by decide, by decide⟩ : sv_R (7 : Int)) hr189) (fun v S1 hq => ?_)
    obtain ⟨rfl, ok193, md194, hpo195⟩ := hq
    obtain ⟨g192, rfl⟩ : ∃ g, S1 = sv_sts (sv_sts (sv_up (sv_up (sv_up (sv_up S 1100033 0 (x5)) 1100034 0 ((S 1100025 x5))) 1100033 0 (x5)) 1100034 0 ((S 1100025 x5))) [1076, 41, 42, 43, 44, 45, 46, 47, 1075, 1100029, 1084, 1085, 48, 1086, 51, 52, 49, 50, 1100020, 1100021, 1100022, 1100032] g185) [1111, 1112] g := ⟨_, md194.eq⟩
    show sv_T sm_XS sm_cs sm_L sm_sh 101 (q_step_ S) 160 322 [(0, .ref 0), (1, sv_I x5), (2, sv_I (S 27 x5)), (3, sv_I (S 28 x5))] [] (sv_sts (sv_sts (sv_up (sv_up (sv_up (sv_up S 1100033 0 (x5)) 1100034 0 ((S 1100025 x5))) 1100033 0 (x5)) 1100034 0 ((S 1100025 x5))) [1076, 41, 42, 43, 44, 45, 46, 47, 1075, 1100029, 1084, 1085, 48, 1086, 51, 52, 49, 50, 1100020, 1100021, 1100022, 1100032] g185) [1111, 1112] g192)
    have md196 : sv_mod [1076, 41, 42, 43, 44, 45, 46, 47, 1075, 1100029, 1084, 1085, 48, 1086, 51, 52, 49, 50, 1100020, 1100021, 1100022, 58, 63, 64, 57, 1092, 53, 54, 55, 56, 59, 60, 1073, 1109, 1110, 1111, 1112, 5, 1011, 3, 4, 1007, 1113, 1107, 67, 1100032, 1114, 1115, 65, 66, 61, 62, 1100033, 1100034, 1100031] S (sv_sts (sv_sts (sv_up (sv_up (sv_up (sv_up S 1100033 0 (x5)) 1100034 0 ((S 1100025 x5))) 1100033 0 (x5)) 1100034 0 ((S 1100025 x5))) [1076, 41, 42, 43, 44, 45, 46, 47, 1075, 1100029, 1084, 1085, 48, 1086, 51, 52, 49, 50, 1100020, 1100021, 1100022, 1100032] g185) [1111, 1112] g192) := sv_mod.sts md190 (by decide)
    have h := h g192 hpo195
    refine sv_aload_n hM dX12_step__322 rfl rfl ?_
    refine sv_iconst (d := (0 : Int)) hM dX12_step__323 rfl rfl ?_
    obtain ⟨o197, h⟩ := h
    refine sv_callV hM dX12_step__324 sm_iv_904 (by decide) (sm_a0 _) rfl rfl (Nat.le_of_ble_eq_true rfl) sm_h155 (Nat.le_of_ble_eq_true rfl) (Nat.le_of_ble_eq_true rfl) (F' := 2) (Nat.le_of_ble_eq_true rfl) rfl (t_gives (0 : Int) (sv_sts (sv_sts (sv_up (sv_up (sv_up (sv_up S 1100033 0 (x5)) 1100034 0 ((S 1100025 x5))) 1100033 0 (x5)) 1100034 0 ((S 1100025 x5))) [1076, 41, 42, 43, 44, 45, 46, 47, 1075, 1100029, 1084, 1085, 48, 1086, 51, 52, 49, 50, 1100020, 1100021, 1100022, 1100032] g185) [1111, 1112] g192) ok193 (⟨by decide, by decide⟩ : sv_R (0 : Int)) o197) (fun v S1 hq => ?_)
    obtain ⟨rfl, ok199, md200, hpo201⟩ := hq
    obtain ⟨g198, rfl⟩ : ∃ g, S1 = sv_sts (sv_sts (sv_sts (sv_up (sv_up (sv_up (sv_up S 1100033 0 (x5)) 1100034 0 ((S 1100025 x5))) 1100033 0 (x5)) 1100034 0 ((S 1100025 x5))) [1076, 41, 42, 43, 44, 45, 46, 47, 1075, 1100029, 1084, 1085, 48, 1086, 51, 52, 49, 50, 1100020, 1100021, 1100022, 1100032] g185) [1111, 1112] g192) [58, 63, 64, 57] g := ⟨_, md200.eq⟩
    show sv_T sm_XS sm_cs sm_L sm_sh 101 (q_step_ S) 160 327 [(0, .ref 0), (1, sv_I x5), (2, sv_I (S 27 x5)), (3, sv_I (S 28 x5))] [] (sv_sts (sv_sts (sv_sts (sv_up (sv_up (sv_up (sv_up S 1100033 0 (x5)) 1100034 0 ((S 1100025 x5))) 1100033 0 (x5)) 1100034 0 ((S 1100025 x5))) [1076, 41, 42, 43, 44, 45, 46, 47, 1075, 1100029, 1084, 1085, 48, 1086, 51, 52, 49, 50, 1100020, 1100021, 1100022, 1100032] g185) [1111, 1112] g192) [58, 63, 64, 57] g198)
    have md202 : sv_mod [1076, 41, 42, 43, 44, 45, 46, 47, 1075, 1100029, 1084, 1085, 48, 1086, 51, 52, 49, 50, 1100020, 1100021, 1100022, 58, 63, 64, 57, 1092, 53, 54, 55, 56, 59, 60, 1073, 1109, 1110, 1111, 1112, 5, 1011, 3, 4, 1007, 1113, 1107, 67, 1100032, 1114, 1115, 65, 66, 61, 62, 1100033, 1100034, 1100031] S (sv_sts (sv_sts (sv_sts (sv_up (sv_up (sv_up (sv_up S 1100033 0 (x5)) 1100034 0 ((S 1100025 x5))) 1100033 0 (x5)) 1100034 0 ((S 1100025 x5))) [1076, 41, 42, 43, 44, 45, 46, 47, 1075, 1100029, 1084, 1085, 48, 1086, 51, 52, 49, 50, 1100020, 1100021, 1100022, 1100032] g185) [1111, 1112] g192) [58, 63, 64, 57] g198) := sv_mod.sts md196 (by decide)
    have h := h g198 hpo201
    refine sv_goto hM dX12_step__327 (pc' := 446) rfl ?_
    exact sv_vret hM dX12_step__446 rfl ⟨rfl, ok199, md202, h⟩
  have J9 : ((S 26 x5) = (9 : Int)) → sv_T sm_XS sm_cs sm_L sm_sh 101 (q_step_ S) 160 330 [(0, .ref 0), (1, sv_I x5), (2, sv_I (S 27 x5)), (3, sv_I (S 28 x5))] [] (sv_up (sv_up (sv_up (sv_up S 1100033 0 (x5)) 1100034 0 ((S 1100025 x5))) 1100033 0 (x5)) 1100034 0 ((S 1100025 x5))) := by
    intro hc
    have h := hS.2.2.2.2.2.2.2.2.2.1 hc
    have k203 : (sm_CT (S 26) (S 27) (S 28) (S 29) (S 1100007) (S 1100023) (S 1100024) (S 1100025) (S 21) (S 1046 0) (S 1032 0) (S 1008 0) (S 1055 0) → 0 ≤ (x5) → (x5) < (S 1046 0) → ((S 26 (x5)) = 9 → (1 ≤ (S 27 (x5)) ∧ (S 27 (x5)) < (S 1032 0) ∧ (S 21 ((S 27 (x5)))) = (S 29 (x5))) ∧ (0 ≤ ((S 1100007 (x5))) ∧ (0 ≤ (S 1100023 (x5)) → (S 1100007 (S 1100023 (x5))) ≤ ((S 1100007 (x5)))) ∧ (0 ≤ (S 1100025 (x5)) → (S 1100007 (S 1100025 (x5))) ≤ ((S 1100007 (x5))))) ∧ (0 ≤ ((x5) + 1) ∧ ((x5) + 1) < (S 1046 0) ∧ (S 29 ((x5) + 1)) = ((S 29 (x5))) ∧ (S 1100007 ((x5) + 1)) = ((S 1100007 (x5)) + 1) ∧ (S 1100023 ((x5) + 1)) = ((S 1100023 (x5))) ∧ (S 1100025 ((x5) + 1)) = ((S 1100025 (x5)))))) := fun h h0 h1 => sm_ct_9 h _ h0 h1
    have h := h k203
    refine sv_aload_n hM dX12_step__330 rfl rfl ?_
    refine sv_iload_n hM dX12_step__331 rfl rfl ?_
    obtain ⟨o204, h⟩ := h
    refine sv_callV hM dX12_step__332 sm_iv_926 (by decide) (sm_a0 _) rfl rfl (Nat.le_of_ble_eq_true rfl) sm_h170 (Nat.le_of_ble_eq_true rfl) (Nat.le_of_ble_eq_true rfl) (F' := 3) (Nat.le_of_ble_eq_true rfl) rfl (t_makeFunction (S 27 x5) (sv_up (sv_up (sv_up (sv_up S 1100033 0 (x5)) 1100034 0 ((S 1100025 x5))) 1100033 0 (x5)) 1100034 0 ((S 1100025 x5))) ok23 k26 o204) (fun v S1 hq => ?_)
    obtain ⟨rfl, ok206, md207, hpo208⟩ := hq
    obtain ⟨g205, rfl⟩ : ∃ g, S1 = sv_sts (sv_up (sv_up (sv_up (sv_up S 1100033 0 (x5)) 1100034 0 ((S 1100025 x5))) 1100033 0 (x5)) 1100034 0 ((S 1100025 x5))) [1076, 41, 42, 43, 44, 45, 46, 47, 1075, 1100029, 1092, 60, 58, 57, 63, 64, 1073, 1109, 1110, 1111, 1112, 1084, 1085, 48, 1086, 51, 52, 49, 50, 1100020, 1100021, 1100022] g := ⟨_, md207.eq⟩
    show sv_T sm_XS sm_cs sm_L sm_sh 101 (q_step_ S) 160 335 [(0, .ref 0), (1, sv_I x5), (2, sv_I (S 27 x5)), (3, sv_I (S 28 x5))] [] (sv_sts (sv_up (sv_up (sv_up (sv_up S 1100033 0 (x5)) 1100034 0 ((S 1100025 x5))) 1100033 0 (x5)) 1100034 0 ((S 1100025 x5))) [1076, 41, 42, 43, 44, 45, 46, 47, 1075, 1100029, 1092, 60, 58, 57, 63, 64, 1073, 1109, 1110, 1111, 1112, 1084, 1085, 48, 1086, 51, 52, 49, 50, 1100020, 1100021, 1100022] g205)
    have md209 : sv_mod [1076, 41, 42, 43, 44, 45, 46, 47, 1075, 1100029, 1084, 1085, 48, 1086, 51, 52, 49, 50, 1100020, 1100021, 1100022, 58, 63, 64, 57, 1092, 53, 54, 55, 56, 59, 60, 1073, 1109, 1110, 1111, 1112, 5, 1011, 3, 4, 1007, 1113, 1107, 67, 1100032, 1114, 1115, 65, 66, 61, 62, 1100033, 1100034, 1100031] S (sv_sts (sv_up (sv_up (sv_up (sv_up S 1100033 0 (x5)) 1100034 0 ((S 1100025 x5))) 1100033 0 (x5)) 1100034 0 ((S 1100025 x5))) [1076, 41, 42, 43, 44, 45, 46, 47, 1075, 1100029, 1092, 60, 58, 57, 63, 64, 1073, 1109, 1110, 1111, 1112, 1084, 1085, 48, 1086, 51, 52, 49, 50, 1100020, 1100021, 1100022] g205) := sv_mod.sts md24 (by decide)
    have h := h g205 hpo208
    refine sv_goto hM dX12_step__335 (pc' := 446) rfl ?_
    exact sv_vret hM dX12_step__446 rfl ⟨rfl, ok206, md209, h⟩
  have J10 : ((S 26 x5) = (10 : Int)) → sv_T sm_XS sm_cs sm_L sm_sh 101 (q_step_ S) 160 338 [(0, .ref 0), (1, sv_I x5), (2, sv_I (S 27 x5)), (3, sv_I (S 28 x5))] [] (sv_up (sv_up (sv_up (sv_up S 1100033 0 (x5)) 1100034 0 ((S 1100025 x5))) 1100033 0 (x5)) 1100034 0 ((S 1100025 x5))) := by
    intro hc
    have h := hS.2.2.2.2.2.2.2.2.2.2.1 hc
    have k210 : (sm_CT (S 26) (S 27) (S 28) (S 29) (S 1100007) (S 1100023) (S 1100024) (S 1100025) (S 21) (S 1046 0) (S 1032 0) (S 1008 0) (S 1055 0) → 0 ≤ (x5) → (x5) < (S 1046 0) → (((S 26 (x5)) = 10 ∨ (S 26 (x5)) = 12) → (0 ≤ ((S 1100007 (x5)) - 2) ∧ (0 ≤ (S 1100023 (x5)) → (S 1100007 (S 1100023 (x5))) ≤ ((S 1100007 (x5)) - 2)) ∧ (0 ≤ (S 1100025 (x5)) → (S 1100007 (S 1100025 (x5))) ≤ ((S 1100007 (x5)) - 2))) ∧ (0 ≤ ((x5) + 1) ∧ ((x5) + 1) < (S 1046 0) ∧ (S 29 ((x5) + 1)) = ((S 29 (x5))) ∧ (S 1100007 ((x5) + 1)) = ((S 1100007 (x5)) - 1) ∧ (S 1100023 ((x5) + 1)) = ((S 1100023 (x5))) ∧ (S 1100025 ((x5) + 1)) = ((S 1100025 (x5)))))) := fun h h0 h1 => sm_ct_10 h _ h0 h1
    have h := h k210
    refine sv_aload_n hM dX12_step__338 rfl rfl ?_
    obtain ⟨o211, h⟩ := h
    refine sv_callV hM dX12_step__339 sm_iv_929 (by decide) (sm_a0 _) rfl rfl (Nat.le_of_ble_eq_true rfl) sm_h171 (Nat.le_of_ble_eq_true rfl) (Nat.le_of_ble_eq_true rfl) (F' := 4) (Nat.le_of_ble_eq_true rfl) rfl (t_get_  (sv_up (sv_up (sv_up (sv_up S 1100033 0 (x5)) 1100034 0 ((S 1100025 x5))) 1100033 0 (x5)) 1100034 0 ((S 1100025 x5))) ok23 o211) (fun v S1 hq => ?_)
    obtain ⟨rfl, ok213, md214, hpo215⟩ := hq
    obtain ⟨g212, rfl⟩ : ∃ g, S1 = sv_sts (sv_up (sv_up (sv_up (sv_up S 1100033 0 (x5)) 1100034 0 ((S 1100025 x5))) 1100033 0 (x5)) 1100034 0 ((S 1100025 x5))) [1076, 41, 42, 43, 44, 45, 46, 47, 1075, 1100029, 1092, 60, 58, 57, 63, 64, 1073, 1109, 1110, 1111, 1112, 5, 1011, 3, 4, 1007] g := ⟨_, md214.eq⟩
    show sv_T sm_XS sm_cs sm_L sm_sh 101 (q_step_ S) 160 342 [(0, .ref 0), (1, sv_I x5), (2, sv_I (S 27 x5)), (3, sv_I (S 28 x5))] [] (sv_sts (sv_up (sv_up (sv_up (sv_up S 1100033 0 (x5)) 1100034 0 ((S 1100025 x5))) 1100033 0 (x5)) 1100034 0 ((S 1100025 x5))) [1076, 41, 42, 43, 44, 45, 46, 47, 1075, 1100029, 1092, 60, 58, 57, 63, 64, 1073, 1109, 1110, 1111, 1112, 5, 1011, 3, 4, 1007] g212)
    have md216 : sv_mod [1076, 41, 42, 43, 44, 45, 46, 47, 1075, 1100029, 1084, 1085, 48, 1086, 51, 52, 49, 50, 1100020, 1100021, 1100022, 58, 63, 64, 57, 1092, 53, 54, 55, 56, 59, 60, 1073, 1109, 1110, 1111, 1112, 5, 1011, 3, 4, 1007, 1113, 1107, 67, 1100032, 1114, 1115, 65, 66, 61, 62, 1100033, 1100034, 1100031] S (sv_sts (sv_up (sv_up (sv_up (sv_up S 1100033 0 (x5)) 1100034 0 ((S 1100025 x5))) 1100033 0 (x5)) 1100034 0 ((S 1100025 x5))) [1076, 41, 42, 43, 44, 45, 46, 47, 1075, 1100029, 1092, 60, 58, 57, 63, 64, 1073, 1109, 1110, 1111, 1112, 5, 1011, 3, 4, 1007] g212) := sv_mod.sts md24 (by decide)
    have h := h g212 hpo215
    refine sv_goto hM dX12_step__342 (pc' := 446) rfl ?_
    exact sv_vret hM dX12_step__446 rfl ⟨rfl, ok213, md216, h⟩
  have J11 : ((S 26 x5) = (11 : Int)) → sv_T sm_XS sm_cs sm_L sm_sh 101 (q_step_ S) 160 345 [(0, .ref 0), (1, sv_I x5), (2, sv_I (S 27 x5)), (3, sv_I (S 28 x5))] [] (sv_up (sv_up (sv_up (sv_up S 1100033 0 (x5)) 1100034 0 ((S 1100025 x5))) 1100033 0 (x5)) 1100034 0 ((S 1100025 x5))) := by
    intro hc
    have h := hS.2.2.2.2.2.2.2.2.2.2.2.1 hc
    have k217 : (sm_CT (S 26) (S 27) (S 28) (S 29) (S 1100007) (S 1100023) (S 1100024) (S 1100025) (S 21) (S 1046 0) (S 1032 0) (S 1008 0) (S 1055 0) → 0 ≤ (x5) → (x5) < (S 1046 0) → ((S 26 (x5)) = 11 → (0 ≤ ((S 1100007 (x5)) - 3) ∧ (0 ≤ (S 1100023 (x5)) → (S 1100007 (S 1100023 (x5))) ≤ ((S 1100007 (x5)) - 3)) ∧ (0 ≤ (S 1100025 (x5)) → (S 1100007 (S 1100025 (x5))) ≤ ((S 1100007 (x5)) - 3))) ∧ (0 ≤ ((x5) + 1) ∧ ((x5) + 1) < (S 1046 0) ∧ (S 29 ((x5) + 1)) = ((S 29 (x5))) ∧ (S 1100007 ((x5) + 1)) = ((S 1100007 (x5)) - 2) ∧ (S 1100023 ((x5) + 1)) = ((S 1100023 (x5))) ∧ (S 1100025 ((x5) + 1)) = ((S 1100025 (x5)))))) := fun h h0 h1 => sm_ct_11 h _ h0 h1
    have h := h k217
    refine sv_aload_n hM dX12_step__345 rfl rfl ?_
    obtain ⟨o218, h⟩ := h
    refine sv_callV hM dX12_step__346 sm_iv_931 (by decide) (sm_a0 _) rfl rfl (Nat.le_of_ble_eq_true rfl) sm_h172 (Nat.le_of_ble_eq_true rfl) (Nat.le_of_ble_eq_true rfl) (F' := 4) (Nat.le_of_ble_eq_true rfl) rfl (t_putInto  (sv_up (sv_up (sv_up (sv_up S 1100033 0 (x5)) 1100034 0 ((S 1100025 x5))) 1100033 0 (x5)) 1100034 0 ((S 1100025 x5))) ok23 o218) (fun v S1 hq => ?_)
    obtain ⟨rfl, ok220, md221, hpo222⟩ := hq
    obtain ⟨g219, rfl⟩ : ∃ g, S1 = sv_sts (sv_up (sv_up (sv_up (sv_up S 1100033 0 (x5)) 1100034 0 ((S 1100025 x5))) 1100033 0 (x5)) 1100034 0 ((S 1100025 x5))) [1076, 41, 42, 43, 44, 45, 46, 47, 1075, 1100029, 1092, 60, 58, 57, 63, 64, 1073, 1109, 1110, 1111, 1112, 5, 1011, 3, 4, 1007, 1084, 1085, 48, 1086, 51, 52, 49, 50, 1100020, 1100021, 1100022] g := ⟨_, md221.eq⟩
    show sv_T sm_XS sm_cs sm_L sm_sh 101 (q_step_ S) 160 349 [(0, .ref 0), (1, sv_I x5), (2, sv_I (S 27 x5)), (3, sv_I (S 28 x5))] [] (sv_sts (sv_up (sv_up (sv_up (sv_up S 1100033 0 (x5)) 1100034 0 ((S 1100025 x5))) 1100033 0 (x5)) 1100034 0 ((S 1100025 x5))) [1076, 41, 42, 43, 44, 45, 46, 47, 1075, 1100029, 1092, 60, 58, 57, 63, 64, 1073, 1109, 1110, 1111, 1112, 5, 1011, 3, 4, 1007, 1084, 1085, 48, 1086, 51, 52, 49, 50, 1100020, 1100021, 1100022] g219)
    have md223 : sv_mod [1076, 41, 42, 43, 44, 45, 46, 47, 1075, 1100029, 1084, 1085, 48, 1086, 51, 52, 49, 50, 1100020, 1100021, 1100022, 58, 63, 64, 57, 1092, 53, 54, 55, 56, 59, 60, 1073, 1109, 1110, 1111, 1112, 5, 1011, 3, 4, 1007, 1113, 1107, 67, 1100032, 1114, 1115, 65, 66, 61, 62, 1100033, 1100034, 1100031] S (sv_sts (sv_up (sv_up (sv_up (sv_up S 1100033 0 (x5)) 1100034 0 ((S 1100025 x5))) 1100033 0 (x5)) 1100034 0 ((S 1100025 x5))) [1076, 41, 42, 43, 44, 45, 46, 47, 1075, 1100029, 1092, 60, 58, 57, 63, 64, 1073, 1109, 1110, 1111, 1112, 5, 1011, 3, 4, 1007, 1084, 1085, 48, 1086, 51, 52, 49, 50, 1100020, 1100021, 1100022] g219) := sv_mod.sts md24 (by decide)
    have h := h g219 hpo222
    refine sv_goto hM dX12_step__349 (pc' := 446) rfl ?_
    exact sv_vret hM dX12_step__446 rfl ⟨rfl, ok220, md223, h⟩
  have J12 : ((S 26 x5) = (12 : Int)) → sv_T sm_XS sm_cs sm_L sm_sh 101 (q_step_ S) 160 352 [(0, .ref 0), (1, sv_I x5), (2, sv_I (S 27 x5)), (3, sv_I (S 28 x5))] [] (sv_up (sv_up (sv_up (sv_up S 1100033 0 (x5)) 1100034 0 ((S 1100025 x5))) 1100033 0 (x5)) 1100034 0 ((S 1100025 x5))) := by
    intro hc
    have h := hS.2.2.2.2.2.2.2.2.2.2.2.2.1 hc
    have k224 : (sm_CT (S 26) (S 27) (S 28) (S 29) (S 1100007) (S 1100023) (S 1100024) (S 1100025) (S 21) (S 1046 0) (S 1032 0) (S 1008 0) (S 1055 0) → 0 ≤ (x5) → (x5) < (S 1046 0) → (((S 26 (x5)) = 10 ∨ (S 26 (x5)) = 12) → (0 ≤ ((S 1100007 (x5)) - 2) ∧ (0 ≤ (S 1100023 (x5)) → (S 1100007 (S 1100023 (x5))) ≤ ((S 1100007 (x5)) - 2)) ∧ (0 ≤ (S 1100025 (x5)) → (S 1100007 (S 1100025 (x5))) ≤ ((S 1100007 (x5)) - 2))) ∧ (0 ≤ ((x5) + 1) ∧ ((x5) + 1) < (S 1046 0) ∧ (S 29 ((x5) + 1)) = ((S 29 (x5))) ∧ (S 1100007 ((x5) + 1)) = ((S 1100007 (x5)) - 1) ∧ (S 1100023 ((x5) + 1)) = ((S 1100023 (x5))) ∧ (S 1100025 ((x5) + 1)) = ((S 1100025 (x5)))))) := fun h h0 h1 => sm_ct_10 h _ h0 h1
    have h := h k224
    refine sv_aload_n hM dX12_step__352 rfl rfl ?_
    obtain ⟨o225, h⟩ := h
    refine sv_callV hM dX12_step__353 sm_iv_934 (by decide) (sm_a0 _) rfl rfl (Nat.le_of_ble_eq_true rfl) sm_h173 (Nat.le_of_ble_eq_true rfl) (Nat.le_of_ble_eq_true rfl) (F' := 4) (Nat.le_of_ble_eq_true rfl) rfl (t_delete  (sv_up (sv_up (sv_up (sv_up S 1100033 0 (x5)) 1100034 0 ((S 1100025 x5))) 1100033 0 (x5)) 1100034 0 ((S 1100025 x5))) ok23 o225) (fun v S1 hq => ?_)
    obtain ⟨rfl, ok227, md228, hpo229⟩ := hq
    obtain ⟨g226, rfl⟩ : ∃ g, S1 = sv_sts (sv_up (sv_up (sv_up (sv_up S 1100033 0 (x5)) 1100034 0 ((S 1100025 x5))) 1100033 0 (x5)) 1100034 0 ((S 1100025 x5))) [1076, 41, 42, 43, 44, 45, 46, 47, 1075, 1100029, 1092, 60, 58, 57, 63, 64, 1073, 1109, 1110, 1111, 1112, 5, 1011, 3, 4, 1007, 52, 1085, 1084, 1100020, 1100021, 1100022] g := ⟨_, md228.eq⟩
    show sv_T sm_XS sm_cs sm_L sm_sh 101 (q_step_ S) 160 356 [(0, .ref 0), (1, sv_I x5), (2, sv_I (S 27 x5)), (3, sv_I (S 28 x5))] [] (sv_sts (sv_up (sv_up (sv_up (sv_up S 1100033 0 (x5)) 1100034 0 ((S 1100025 x5))) 1100033 0 (x5)) 1100034 0 ((S 1100025 x5))) [1076, 41, 42, 43, 44, 45, 46, 47, 1075, 1100029, 1092, 60, 58, 57, 63, 64, 1073, 1109, 1110, 1111, 1112, 5, 1011, 3, 4, 1007, 52, 1085, 1084, 1100020, 1100021, 1100022] g226)
    have md230 : sv_mod [1076, 41, 42, 43, 44, 45, 46, 47, 1075, 1100029, 1084, 1085, 48, 1086, 51, 52, 49, 50, 1100020, 1100021, 1100022, 58, 63, 64, 57, 1092, 53, 54, 55, 56, 59, 60, 1073, 1109, 1110, 1111, 1112, 5, 1011, 3, 4, 1007, 1113, 1107, 67, 1100032, 1114, 1115, 65, 66, 61, 62, 1100033, 1100034, 1100031] S (sv_sts (sv_up (sv_up (sv_up (sv_up S 1100033 0 (x5)) 1100034 0 ((S 1100025 x5))) 1100033 0 (x5)) 1100034 0 ((S 1100025 x5))) [1076, 41, 42, 43, 44, 45, 46, 47, 1075, 1100029, 1092, 60, 58, 57, 63, 64, 1073, 1109, 1110, 1111, 1112, 5, 1011, 3, 4, 1007, 52, 1085, 1084, 1100020, 1100021, 1100022] g226) := sv_mod.sts md24 (by decide)
    have h := h g226 hpo229
    refine sv_goto hM dX12_step__356 (pc' := 446) rfl ?_
    exact sv_vret hM dX12_step__446 rfl ⟨rfl, ok227, md230, h⟩
  have J13 : ((S 26 x5) = (13 : Int)) → sv_T sm_XS sm_cs sm_L sm_sh 101 (q_step_ S) 160 359 [(0, .ref 0), (1, sv_I x5), (2, sv_I (S 27 x5)), (3, sv_I (S 28 x5))] [] (sv_up (sv_up (sv_up (sv_up S 1100033 0 (x5)) 1100034 0 ((S 1100025 x5))) 1100033 0 (x5)) 1100034 0 ((S 1100025 x5))) := by
    intro hc
    have h := hS.2.2.2.2.2.2.2.2.2.2.2.2.2.1 hc
    have k231 : (sm_CT (S 26) (S 27) (S 28) (S 29) (S 1100007) (S 1100023) (S 1100024) (S 1100025) (S 21) (S 1046 0) (S 1032 0) (S 1008 0) (S 1055 0) → 0 ≤ (x5) → (x5) < (S 1046 0) → ((S 26 (x5)) = 13 → (0 ≤ (S 27 (x5)) ∧ (S 27 (x5)) ≤ 4) ∧ (0 ≤ ((S 1100007 (x5)) - 1) ∧ (0 ≤ (S 1100023 (x5)) → (S 1100007 (S 1100023 (x5))) ≤ ((S 1100007 (x5)) - 1)) ∧ (0 ≤ (S 1100025 (x5)) → (S 1100007 (S 1100025 (x5))) ≤ ((S 1100007 (x5)) - 1))) ∧ (0 ≤ ((x5) + 1) ∧ ((x5) + 1) < (S 1046 0) ∧ (S 29 ((x5) + 1)) = ((S 29 (x5))) ∧ (S 1100007 ((x5) + 1)) = ((S 1100007 (x5))) ∧ (S 1100023 ((x5) + 1)) = ((S 1100023 (x5))) ∧ (S 1100025 ((x5) + 1)) = ((S 1100025 (x5)))))) := fun h h0 h1 => sm_ct_12 h _ h0 h1
    have h := h k231
    have k232 : (sm_SK (S 63) (S 64) (S 44) (S 1100007) (S 1100025) (S 1076 0) (S 1007 0) (400 * ((S 1092 0) - 1)) ((S 58 ((S 1092 0) - 1))) (((S 1100025 x5))) → sm_LS (S 26) (S 1100007) (S 1100025) (S 1046 0) → 0 ≤ (S 58 ((S 1092 0) - 1)) - 1 → (S 58 ((S 1092 0) - 1)) - 1 < (S 58 ((S 1092 0) - 1)) → ((S 1100025 x5)) < (S 1046 0) → ((S 1100025 x5)) = (S 1100025 (x5)) → (S 58 ((S 1092 0) - 1)) = (S 1100007 (x5)) → (0 ≤ ((S 1100025 x5)) → (S 26 ((S 1100025 x5))) = 29) → (0 ≤ (S 1100025 (x5)) → (S 1100007 (S 1100025 (x5))) ≤ (S 1100007 (x5)) - 1) → sm_VO (S 44) (S 1076 0) (S 1007 0) ((S 63 ((400 * ((S 1092 0) - 1) + (S 58 ((S 1092 0) - 1))) - 1 - (0 : Int)))) ((S 64 ((400 * ((S 1092 0) - 1) + (S 58 ((S 1092 0) - 1))) - 1 - (0 : Int))))) := fun h a b e g q f i j => sm_VO_eq (sm_SK_at h a _ b e g (fun z => ⟨i z, by rw [q]; have := j (by omega); omega⟩)) (congrArg _ (by omega)) (congrArg _ (by omega))
    have h := h k232
    have J244 : ∀ g233 : sv_S, sm_ok (sv_sts (sv_up (sv_up (sv_up (sv_up S 1100033 0 (x5)) 1100034 0 ((S 1100025 x5))) 1100033 0 (x5)) 1100034 0 ((S 1100025 x5))) [1111, 1112, 1113] g233) → (sm_VO (S 44) (S 1076 0) (S 1007 0) ((g233 1111 0)) ((g233 1112 0))) → sv_T sm_XS sm_cs sm_L sm_sh 101 (q_step_ S) 160 402 [(0, .ref 0), (1, sv_I x5), (2, sv_I (S 27 x5)), (3, sv_I (S 28 x5))] [] (sv_sts (sv_up (sv_up (sv_up (sv_up S 1100033 0 (x5)) 1100034 0 ((S 1100025 x5))) 1100033 0 (x5)) 1100034 0 ((S 1100025 x5))) [1111, 1112, 1113] g233) := by
      intro  g233 ok234 hin235
      have h := h.1 g233 hin235
      have md236 : sv_mod [1076, 41, 42, 43, 44, 45, 46, 47, 1075, 1100029, 1084, 1085, 48, 1086, 51, 52, 49, 50, 1100020, 1100021, 1100022, 58, 63, 64, 57, 1092, 53, 54, 55, 56, 59, 60, 1073, 1109, 1110, 1111, 1112, 5, 1011, 3, 4, 1007, 1113, 1107, 67, 1100032, 1114, 1115, 65, 66, 61, 62, 1100033, 1100034, 1100031] S (sv_sts (sv_up (sv_up (sv_up (sv_up S 1100033 0 (x5)) 1100034 0 ((S 1100025 x5))) 1100033 0 (x5)) 1100034 0 ((S 1100025 x5))) [1111, 1112, 1113] g233) := sv_mod.sts md24 (by decide)
      have md237 : sv_mod [1111, 1112, 1113] (sv_up (sv_up (sv_up (sv_up S 1100033 0 (x5)) 1100034 0 ((S 1100025 x5))) 1100033 0 (x5)) 1100034 0 ((S 1100025 x5))) (sv_sts (sv_up (sv_up (sv_up (sv_up S 1100033 0 (x5)) 1100034 0 ((S 1100025 x5))) 1100033 0 (x5)) 1100034 0 ((S 1100025 x5))) [1111, 1112, 1113] g233) := sv_mod.sts sv_mod.rf (by decide)
      refine sv_aload_n hM dX12_step__402 rfl rfl ?_
      refine sv_iconst (d := (1 : Int)) hM dX12_step__403 rfl rfl ?_
      obtain ⟨o238, h⟩ := h
      refine sv_callV hM dX12_step__404 sm_iv_904 (by decide) (sm_a0 _) rfl rfl (Nat.le_of_ble_eq_true rfl) sm_h155 (Nat.le_of_ble_eq_true rfl) (Nat.le_of_ble_eq_true rfl) (F' := 2) (Nat.le_of_ble_eq_true rfl) rfl (t_gives (1 : Int) (sv_sts (sv_up (sv_up (sv_up (sv_up S 1100033 0 (x5)) 1100034 0 ((S 1100025 x5))) 1100033 0 (x5)) 1100034 0 ((S 1100025 x5))) [1111, 1112, 1113] g233) ok234 (⟨by decide, by decide⟩ : sv_R (1 : Int)) o238) (fun v S1 hq => ?_)
      obtain ⟨rfl, ok240, md241, hpo242⟩ := hq
      obtain ⟨g239, rfl⟩ : ∃ g, S1 = sv_sts (sv_sts (sv_up (sv_up (sv_up (sv_up S 1100033 0 (x5)) 1100034 0 ((S 1100025 x5))) 1100033 0 (x5)) 1100034 0 ((S 1100025 x5))) [1111, 1112, 1113] g233) [58, 63, 64, 57] g := ⟨_, md241.eq⟩
      show sv_T sm_XS sm_cs sm_L sm_sh 101 (q_step_ S) 160 407 [(0, .ref 0), (1, sv_I x5), (2, sv_I (S 27 x5)), (3, sv_I (S 28 x5))] [] (sv_sts (sv_sts (sv_up (sv_up (sv_up (sv_up S 1100033 0 (x5)) 1100034 0 ((S 1100025 x5))) 1100033 0 (x5)) 1100034 0 ((S 1100025 x5))) [1111, 1112, 1113] g233) [58, 63, 64, 57] g239)
      have md243 : sv_mod [1076, 41, 42, 43, 44, 45, 46, 47, 1075, 1100029, 1084, 1085, 48, 1086, 51, 52, 49, 50, 1100020, 1100021, 1100022, 58, 63, 64, 57, 1092, 53, 54, 55, 56, 59, 60, 1073, 1109, 1110, 1111, 1112, 5, 1011, 3, 4, 1007, 1113, 1107, 67, 1100032, 1114, 1115, 65, 66, 61, 62, 1100033, 1100034, 1100031] S (sv_sts (sv_sts (sv_up (sv_up (sv_up (sv_up S 1100033 0 (x5)) 1100034 0 ((S 1100025 x5))) 1100033 0 (x5)) 1100034 0 ((S 1100025 x5))) [1111, 1112, 1113] g233) [58, 63, 64, 57] g239) := sv_mod.sts md236 (by decide)
      have h := h g239 hpo242
      refine sv_goto hM dX12_step__407 (pc' := 446) rfl ?_
      exact sv_vret hM dX12_step__446 rfl ⟨rfl, ok240, md243, h⟩
    have h := h.2
    have k245 : (sm_CT (S 26) (S 27) (S 28) (S 29) (S 1100007) (S 1100023) (S 1100024) (S 1100025) (S 21) (S 1046 0) (S 1032 0) (S 1008 0) (S 1055 0) → 0 ≤ (x5) → (x5) < (S 1046 0) → ((S 26 (x5)) = 13 → (0 ≤ (S 27 (x5)) ∧ (S 27 (x5)) ≤ 4) ∧ (0 ≤ ((S 1100007 (x5)) - 1) ∧ (0 ≤ (S 1100023 (x5)) → (S 1100007 (S 1100023 (x5))) ≤ ((S 1100007 (x5)) - 1)) ∧ (0 ≤ (S 1100025 (x5)) → (S 1100007 (S 1100025 (x5))) ≤ ((S 1100007 (x5)) - 1))) ∧ (0 ≤ ((x5) + 1) ∧ ((x5) + 1) < (S 1046 0) ∧ (S 29 ((x5) + 1)) = ((S 29 (x5))) ∧ (S 1100007 ((x5) + 1)) = ((S 1100007 (x5))) ∧ (S 1100023 ((x5) + 1)) = ((S 1100023 (x5))) ∧ (S 1100025 ((x5) + 1)) = ((S 1100025 (x5)))))) := fun h h0 h1 => sm_ct_12 h _ h0 h1
    have h := h k245
    have k246 : (sm_SK (S 63) (S 64) (S 44) (S 1100007) (S 1100025) (S 1076 0) (S 1007 0) (400 * ((S 1092 0) - 1)) ((S 58 ((S 1092 0) - 1))) (((S 1100025 x5))) → sm_LS (S 26) (S 1100007) (S 1100025) (S 1046 0) → 0 ≤ (S 58 ((S 1092 0) - 1)) - 1 → (S 58 ((S 1092 0) - 1)) - 1 < (S 58 ((S 1092 0) - 1)) → ((S 1100025 x5)) < (S 1046 0) → ((S 1100025 x5)) = (S 1100025 (x5)) → (S 58 ((S 1092 0) - 1)) = (S 1100007 (x5)) → (0 ≤ ((S 1100025 x5)) → (S 26 ((S 1100025 x5))) = 29) → (0 ≤ (S 1100025 (x5)) → (S 1100007 (S 1100025 (x5))) ≤ (S 1100007 (x5)) - 1) → sm_VO (S 44) (S 1076 0) (S 1007 0) ((S 63 ((400 * ((S 1092 0) - 1) + (S 58 ((S 1092 0) - 1))) - 1 - (0 : Int)))) ((S 64 ((400 * ((S 1092 0) - 1) + (S 58 ((S 1092 0) - 1))) - 1 - (0 : Int))))) := fun h a b e g q f i j => sm_VO_eq (sm_SK_at h a _ b e g (fun z => ⟨i z, by rw [q]; have := j (by omega); omega⟩)) (congrArg _ (by omega)) (congrArg _ (by omega))
    have h := h k246
    refine sv_iload_n hM dX12_step__359 rfl rfl ?_
    refine sv_iconst (d := (4 : Int)) hM dX12_step__360 rfl rfl ?_
    refine sv_icmp_ne hM dX12_step__361 k26 (⟨by decide, by decide⟩ : sv_R (4 : Int)) (t := 387) rfl rfl (fun hc => ?_) (fun hc => ?_)
    · have h := h.1 (hc)
      refine sv_aload_n hM dX12_step__387 rfl rfl ?_
      refine sv_iload_n hM dX12_step__388 rfl rfl ?_
      refine sv_aload_n hM dX12_step__389 rfl rfl ?_
      refine sv_iconst (d := (0 : Int)) hM dX12_step__390 rfl rfl ?_
      obtain ⟨o247, h⟩ := h
      refine sv_callV hM dX12_step__391 sm_iv_910 (by decide) (sm_a0 _) rfl rfl (Nat.le_of_ble_eq_true rfl) sm_h150 (Nat.le_of_ble_eq_true rfl) (Nat.le_of_ble_eq_true rfl) (F' := 1) (Nat.le_of_ble_eq_true rfl) rfl (t_sortAt (0 : Int) (sv_up (sv_up (sv_up (sv_up S 1100033 0 (x5)) 1100034 0 ((S 1100025 x5))) 1100033 0 (x5)) 1100034 0 ((S 1100025 x5))) ok23 (⟨by decide, by decide⟩ : sv_R (0 : Int)) o247) (fun v S1 hq => ?_)
      obtain ⟨rfl, hS1⟩ := hq
      obtain rfl : (sv_up (sv_up (sv_up (sv_up S 1100033 0 (x5)) 1100034 0 ((S 1100025 x5))) 1100033 0 (x5)) 1100034 0 ((S 1100025 x5))) = S1 := hS1.symm
      show sv_T sm_XS sm_cs sm_L sm_sh 101 (q_step_ S) 160 394 [(0, .ref 0), (1, sv_I x5), (2, sv_I (S 27 x5)), (3, sv_I (S 28 x5))] [sv_I ((S 63 ((400 * ((S 1092 0) - 1) + (S 58 ((S 1092 0) - 1))) - 1 - (0 : Int)))), sv_I (S 27 x5), .ref 0] (sv_up (sv_up (sv_up (sv_up S 1100033 0 (x5)) 1100034 0 ((S 1100025 x5))) 1100033 0 (x5)) 1100034 0 ((S 1100025 x5)))
      refine sv_aload_n hM dX12_step__394 rfl rfl ?_
      refine sv_iconst (d := (0 : Int)) hM dX12_step__395 rfl rfl ?_
      refine sv_callV hM dX12_step__396 sm_iv_913 (by decide) (sm_a0 _) rfl rfl (Nat.le_of_ble_eq_true rfl) sm_h151 (Nat.le_of_ble_eq_true rfl) (Nat.le_of_ble_eq_true rfl) (F' := 1) (Nat.le_of_ble_eq_true rfl) rfl (t_valueAt (0 : Int) (sv_up (sv_up (sv_up (sv_up S 1100033 0 (x5)) 1100034 0 ((S 1100025 x5))) 1100033 0 (x5)) 1100034 0 ((S 1100025 x5))) ok23 (⟨by decide, by decide⟩ : sv_R (0 : Int)) o247) (fun v S1 hq => ?_)
      obtain ⟨rfl, hS1⟩ := hq
      obtain rfl : (sv_up (sv_up (sv_up (sv_up S 1100033 0 (x5)) 1100034 0 ((S 1100025 x5))) 1100033 0 (x5)) 1100034 0 ((S 1100025 x5))) = S1 := hS1.symm
      show sv_T sm_XS sm_cs sm_L sm_sh 101 (q_step_ S) 160 399 [(0, .ref 0), (1, sv_I x5), (2, sv_I (S 27 x5)), (3, sv_I (S 28 x5))] [sv_I ((S 64 ((400 * ((S 1092 0) - 1) + (S 58 ((S 1092 0) - 1))) - 1 - (0 : Int)))), sv_I ((S 63 ((400 * ((S 1092 0) - 1) + (S 58 ((S 1092 0) - 1))) - 1 - (0 : Int)))), sv_I (S 27 x5), .ref 0] (sv_up (sv_up (sv_up (sv_up S 1100033 0 (x5)) 1100034 0 ((S 1100025 x5))) 1100033 0 (x5)) 1100034 0 ((S 1100025 x5)))
      obtain ⟨o248, h⟩ := h
      refine sv_callV hM dX12_step__399 sm_iv_940 (by decide) (sm_a0 _) rfl rfl (Nat.le_of_ble_eq_true rfl) sm_h135 (Nat.le_of_ble_eq_true rfl) (Nat.le_of_ble_eq_true rfl) (F' := 3) (Nat.le_of_ble_eq_true rfl) rfl (t_unaryOf (S 27 x5) ((S 63 ((400 * ((S 1092 0) - 1) + (S 58 ((S 1092 0) - 1))) - 1 - (0 : Int)))) ((S 64 ((400 * ((S 1092 0) - 1) + (S 58 ((S 1092 0) - 1))) - 1 - (0 : Int)))) (sv_up (sv_up (sv_up (sv_up S 1100033 0 (x5)) 1100034 0 ((S 1100025 x5))) 1100033 0 (x5)) 1100034 0 ((S 1100025 x5))) ok23 k26 (sm_okI ok23 sm_r63 _) (sm_okI ok23 sm_r64 _) o248) (fun v S1 hq => ?_)
      obtain ⟨rfl, ok250, md251, hpo252⟩ := hq
      obtain ⟨g249, rfl⟩ : ∃ g, S1 = sv_sts (sv_up (sv_up (sv_up (sv_up S 1100033 0 (x5)) 1100034 0 ((S 1100025 x5))) 1100033 0 (x5)) 1100034 0 ((S 1100025 x5))) [1113, 1111, 1112] g := ⟨_, md251.eq⟩
      show sv_T sm_XS sm_cs sm_L sm_sh 101 (q_step_ S) 160 402 [(0, .ref 0), (1, sv_I x5), (2, sv_I (S 27 x5)), (3, sv_I (S 28 x5))] [] (sv_sts (sv_up (sv_up (sv_up (sv_up S 1100033 0 (x5)) 1100034 0 ((S 1100025 x5))) 1100033 0 (x5)) 1100034 0 ((S 1100025 x5))) [1113, 1111, 1112] g249)
      have md253 : sv_mod [1076, 41, 42, 43, 44, 45, 46, 47, 1075, 1100029, 1084, 1085, 48, 1086, 51, 52, 49, 50, 1100020, 1100021, 1100022, 58, 63, 64, 57, 1092, 53, 54, 55, 56, 59, 60, 1073, 1109, 1110, 1111, 1112, 5, 1011, 3, 4, 1007, 1113, 1107, 67, 1100032, 1114, 1115, 65, 66, 61, 62, 1100033, 1100034, 1100031] S (sv_sts (sv_up (sv_up (sv_up (sv_up S 1100033 0 (x5)) 1100034 0 ((S 1100025 x5))) 1100033 0 (x5)) 1100034 0 ((S 1100025 x5))) [1113, 1111, 1112] g249) := sv_mod.sts md24 (by decide)
      have md254 : sv_mod [1111, 1112, 1113] (sv_up (sv_up (sv_up (sv_up S 1100033 0 (x5)) 1100034 0 ((S 1100025 x5))) 1100033 0 (x5)) 1100034 0 ((S 1100025 x5))) (sv_sts (sv_up (sv_up (sv_up (sv_up S 1100033 0 (x5)) 1100034 0 ((S 1100025 x5))) 1100033 0 (x5)) 1100034 0 ((S 1100025 x5))) [1113, 1111, 1112] g249) := sv_mod.sts (sv_mod.rf (l := [1111, 1112, 1113]) (S := (sv_up (sv_up (sv_up (sv_up S 1100033 0 (x5)) 1100034 0 ((S 1100025 x5))) 1100033 0 (x5)) 1100034 0 ((S 1100025 x5))))) (by decide)
      have h := h g249 hpo252
      have eS := sv_mod.eq md254
      have hb := J244 (sv_sts (sv_up (sv_up (sv_up (sv_up S 1100033 0 (x5)) 1100034 0 ((S 1100025 x5))) 1100033 0 (x5)) 1100034 0 ((S 1100025 x5))) [1113, 1111, 1112] g249) (by rw [← eS]; exact ok250) h
      have hb : sv_T sm_XS sm_cs sm_L sm_sh 101 (q_step_ S) 160 402 [(0, .ref 0), (1, sv_I x5), (2, sv_I (S 27 x5)), (3, sv_I (S 28 x5))] [] (sv_sts (sv_up (sv_up (sv_up (sv_up S 1100033 0 (x5)) 1100034 0 ((S 1100025 x5))) 1100033 0 (x5)) 1100034 0 ((S 1100025 x5))) [1113, 1111, 1112] g249) := Eq.mpr (congrArg (fun Z => sv_T sm_XS sm_cs sm_L sm_sh 101 (q_step_ S) 160 402 [(0, .ref 0), (1, sv_I x5), (2, sv_I (S 27 x5)), (3, sv_I (S 28 x5))] [] Z) eS) hb
      exact sv_less (lv := [(0, .ref 0), (1, sv_I x5), (2, sv_I (S 27 x5)), (3, sv_I (S 28 x5))]) (sv_Sub_cons rfl (sv_Sub_cons rfl (sv_Sub_cons rfl (sv_Sub_cons rfl sv_Sub_nil)))) hb
    · have h := h.2 (hc)
      refine sv_aload_n hM dX12_step__364 rfl rfl ?_
      refine sv_bipush (d := (6 : Int)) hM dX12_step__365 rfl rfl ?_
      refine sv_aload_n hM dX12_step__367 rfl rfl ?_
      refine sv_aload_n hM dX12_step__368 rfl rfl ?_
      refine sv_iconst (d := (0 : Int)) hM dX12_step__369 rfl rfl ?_
      obtain ⟨o255, h⟩ := h
      refine sv_callV hM dX12_step__370 sm_iv_910 (by decide) (sm_a0 _) rfl rfl (Nat.le_of_ble_eq_true rfl) sm_h150 (Nat.le_of_ble_eq_true rfl) (Nat.le_of_ble_eq_true rfl) (F' := 1) (Nat.le_of_ble_eq_true rfl) rfl (t_sortAt (0 : Int) (sv_up (sv_up (sv_up (sv_up S 1100033 0 (x5)) 1100034 0 ((S 1100025 x5))) 1100033 0 (x5)) 1100034 0 ((S 1100025 x5))) ok23 (⟨by decide, by decide⟩ : sv_R (0 : Int)) o255) (fun v S1 hq => ?_)
      obtain ⟨rfl, hS1⟩ := hq
      obtain rfl : (sv_up (sv_up (sv_up (sv_up S 1100033 0 (x5)) 1100034 0 ((S 1100025 x5))) 1100033 0 (x5)) 1100034 0 ((S 1100025 x5))) = S1 := hS1.symm
      show sv_T sm_XS sm_cs sm_L sm_sh 101 (q_step_ S) 160 373 [(0, .ref 0), (1, sv_I x5), (2, sv_I (S 27 x5)), (3, sv_I (S 28 x5))] [sv_I ((S 63 ((400 * ((S 1092 0) - 1) + (S 58 ((S 1092 0) - 1))) - 1 - (0 : Int)))), .ref 0, sv_I (6 : Int), .ref 0] (sv_up (sv_up (sv_up (sv_up S 1100033 0 (x5)) 1100034 0 ((S 1100025 x5))) 1100033 0 (x5)) 1100034 0 ((S 1100025 x5)))
      refine sv_aload_n hM dX12_step__373 rfl rfl ?_
      refine sv_iconst (d := (0 : Int)) hM dX12_step__374 rfl rfl ?_
      refine sv_callV hM dX12_step__375 sm_iv_913 (by decide) (sm_a0 _) rfl rfl (Nat.le_of_ble_eq_true rfl) sm_h151 (Nat.le_of_ble_eq_true rfl) (Nat.le_of_ble_eq_true rfl) (F' := 1) (Nat.le_of_ble_eq_true rfl) rfl (t_valueAt (0 : Int) (sv_up (sv_up (sv_up (sv_up S 1100033 0 (x5)) 1100034 0 ((S 1100025 x5))) 1100033 0 (x5)) 1100034 0 ((S 1100025 x5))) ok23 (⟨by decide, by decide⟩ : sv_R (0 : Int)) o255) (fun v S1 hq => ?_)
      obtain ⟨rfl, hS1⟩ := hq
      obtain rfl : (sv_up (sv_up (sv_up (sv_up S 1100033 0 (x5)) 1100034 0 ((S 1100025 x5))) 1100033 0 (x5)) 1100034 0 ((S 1100025 x5))) = S1 := hS1.symm
      show sv_T sm_XS sm_cs sm_L sm_sh 101 (q_step_ S) 160 378 [(0, .ref 0), (1, sv_I x5), (2, sv_I (S 27 x5)), (3, sv_I (S 28 x5))] [sv_I ((S 64 ((400 * ((S 1092 0) - 1) + (S 58 ((S 1092 0) - 1))) - 1 - (0 : Int)))), sv_I ((S 63 ((400 * ((S 1092 0) - 1) + (S 58 ((S 1092 0) - 1))) - 1 - (0 : Int)))), .ref 0, sv_I (6 : Int), .ref 0] (sv_up (sv_up (sv_up (sv_up S 1100033 0 (x5)) 1100034 0 ((S 1100025 x5))) 1100033 0 (x5)) 1100034 0 ((S 1100025 x5)))
      obtain ⟨o256, h⟩ := h
      refine sv_callV hM dX12_step__378 sm_iv_937 (by decide) (sm_a0 _) rfl rfl (Nat.le_of_ble_eq_true rfl) sm_h169 (Nat.le_of_ble_eq_true rfl) (Nat.le_of_ble_eq_true rfl) (F' := 0) (Nat.le_of_ble_eq_true rfl) rfl (t_typeOf ((S 63 ((400 * ((S 1092 0) - 1) + (S 58 ((S 1092 0) - 1))) - 1 - (0 : Int)))) ((S 64 ((400 * ((S 1092 0) - 1) + (S 58 ((S 1092 0) - 1))) - 1 - (0 : Int)))) (sv_up (sv_up (sv_up (sv_up S 1100033 0 (x5)) 1100034 0 ((S 1100025 x5))) 1100033 0 (x5)) 1100034 0 ((S 1100025 x5))) ok23 (sm_okI ok23 sm_r63 _) (sm_okI ok23 sm_r64 _) o256) (fun v S1 hq => ?_)
      obtain ⟨r261, rfl, hr261, ok258, md259, hpo260⟩ := hq
      obtain rfl : (sv_up (sv_up (sv_up (sv_up S 1100033 0 (x5)) 1100034 0 ((S 1100025 x5))) 1100033 0 (x5)) 1100034 0 ((S 1100025 x5))) = S1 := (funext fun j => md259 j (by intro q; cases q)).symm
      show sv_T sm_XS sm_cs sm_L sm_sh 101 (q_step_ S) 160 381 [(0, .ref 0), (1, sv_I x5), (2, sv_I (S 27 x5)), (3, sv_I (S 28 x5))] [sv_I r261, sv_I (6 : Int), .ref 0] (sv_up (sv_up (sv_up (sv_up S 1100033 0 (x5)) 1100034 0 ((S 1100025 x5))) 1100033 0 (x5)) 1100034 0 ((S 1100025 x5)))
      have h := h r261 hr261 hpo260
      refine sv_callV hM dX12_step__381 sm_iv_822 (by decide) (sm_a0 _) rfl rfl (Nat.le_of_ble_eq_true rfl) sm_h122 (Nat.le_of_ble_eq_true rfl) (Nat.le_of_ble_eq_true rfl) (F' := 0) (Nat.le_of_ble_eq_true rfl) rfl (t_give_ (6 : Int) r261 (sv_up (sv_up (sv_up (sv_up S 1100033 0 (x5)) 1100034 0 ((S 1100025 x5))) 1100033 0 (x5)) 1100034 0 ((S 1100025 x5))) ok258 (⟨by decide, by decide⟩ : sv_R (6 : Int)) hr261) (fun v S1 hq => ?_)
      obtain ⟨rfl, ok263, md264, hpo265⟩ := hq
      obtain ⟨g262, rfl⟩ : ∃ g, S1 = sv_sts (sv_up (sv_up (sv_up (sv_up S 1100033 0 (x5)) 1100034 0 ((S 1100025 x5))) 1100033 0 (x5)) 1100034 0 ((S 1100025 x5))) [1111, 1112] g := ⟨_, md264.eq⟩
      show sv_T sm_XS sm_cs sm_L sm_sh 101 (q_step_ S) 160 384 [(0, .ref 0), (1, sv_I x5), (2, sv_I (S 27 x5)), (3, sv_I (S 28 x5))] [] (sv_sts (sv_up (sv_up (sv_up (sv_up S 1100033 0 (x5)) 1100034 0 ((S 1100025 x5))) 1100033 0 (x5)) 1100034 0 ((S 1100025 x5))) [1111, 1112] g262)
      have md266 : sv_mod [1076, 41, 42, 43, 44, 45, 46, 47, 1075, 1100029, 1084, 1085, 48, 1086, 51, 52, 49, 50, 1100020, 1100021, 1100022, 58, 63, 64, 57, 1092, 53, 54, 55, 56, 59, 60, 1073, 1109, 1110, 1111, 1112, 5, 1011, 3, 4, 1007, 1113, 1107, 67, 1100032, 1114, 1115, 65, 66, 61, 62, 1100033, 1100034, 1100031] S (sv_sts (sv_up (sv_up (sv_up (sv_up S 1100033 0 (x5)) 1100034 0 ((S 1100025 x5))) 1100033 0 (x5)) 1100034 0 ((S 1100025 x5))) [1111, 1112] g262) := sv_mod.sts md24 (by decide)
      have md267 : sv_mod [1111, 1112, 1113] (sv_up (sv_up (sv_up (sv_up S 1100033 0 (x5)) 1100034 0 ((S 1100025 x5))) 1100033 0 (x5)) 1100034 0 ((S 1100025 x5))) (sv_sts (sv_up (sv_up (sv_up (sv_up S 1100033 0 (x5)) 1100034 0 ((S 1100025 x5))) 1100033 0 (x5)) 1100034 0 ((S 1100025 x5))) [1111, 1112] g262) := sv_mod.sts (sv_mod.rf (l := [1111, 1112, 1113]) (S := (sv_up (sv_up (sv_up (sv_up S 1100033 0 (x5)) 1100034 0 ((S 1100025 x5))) 1100033 0 (x5)) 1100034 0 ((S 1100025 x5))))) (by decide)
      have h := h g262 hpo265
      refine sv_goto hM dX12_step__384 (pc' := 402) rfl ?_
      have eS := sv_mod.eq md267
      have hb := J244 (sv_sts (sv_up (sv_up (sv_up (sv_up S 1100033 0 (x5)) 1100034 0 ((S 1100025 x5))) 1100033 0 (x5)) 1100034 0 ((S 1100025 x5))) [1111, 1112] g262) (by rw [← eS]; exact ok263) h
      have hb : sv_T sm_XS sm_cs sm_L sm_sh 101 (q_step_ S) 160 402 [(0, .ref 0), (1, sv_I x5), (2, sv_I (S 27 x5)), (3, sv_I (S 28 x5))] [] (sv_sts (sv_up (sv_up (sv_up (sv_up S 1100033 0 (x5)) 1100034 0 ((S 1100025 x5))) 1100033 0 (x5)) 1100034 0 ((S 1100025 x5))) [1111, 1112] g262) := Eq.mpr (congrArg (fun Z => sv_T sm_XS sm_cs sm_L sm_sh 101 (q_step_ S) 160 402 [(0, .ref 0), (1, sv_I x5), (2, sv_I (S 27 x5)), (3, sv_I (S 28 x5))] [] Z) eS) hb
      exact sv_less (lv := [(0, .ref 0), (1, sv_I x5), (2, sv_I (S 27 x5)), (3, sv_I (S 28 x5))]) (sv_Sub_cons rfl (sv_Sub_cons rfl (sv_Sub_cons rfl (sv_Sub_cons rfl sv_Sub_nil)))) hb
  have J14 : ((S 26 x5) = (14 : Int)) → sv_T sm_XS sm_cs sm_L sm_sh 101 (q_step_ S) 160 410 [(0, .ref 0), (1, sv_I x5), (2, sv_I (S 27 x5)), (3, sv_I (S 28 x5))] [] (sv_up (sv_up (sv_up (sv_up S 1100033 0 (x5)) 1100034 0 ((S 1100025 x5))) 1100033 0 (x5)) 1100034 0 ((S 1100025 x5))) := by
    intro hc
    have h := hS.2.2.2.2.2.2.2.2.2.2.2.2.2.2.1 hc
    have k268 : (sm_CT (S 26) (S 27) (S 28) (S 29) (S 1100007) (S 1100023) (S 1100024) (S 1100025) (S 21) (S 1046 0) (S 1032 0) (S 1008 0) (S 1055 0) → 0 ≤ (x5) → (x5) < (S 1046 0) → ((S 26 (x5)) = 14 → (0 ≤ (S 27 (x5)) ∧ (S 27 (x5)) ≤ 20) ∧ (0 ≤ ((S 1100007 (x5)) - 2) ∧ (0 ≤ (S 1100023 (x5)) → (S 1100007 (S 1100023 (x5))) ≤ ((S 1100007 (x5)) - 2)) ∧ (0 ≤ (S 1100025 (x5)) → (S 1100007 (S 1100025 (x5))) ≤ ((S 1100007 (x5)) - 2))) ∧ (0 ≤ ((x5) + 1) ∧ ((x5) + 1) < (S 1046 0) ∧ (S 29 ((x5) + 1)) = ((S 29 (x5))) ∧ (S 1100007 ((x5) + 1)) = ((S 1100007 (x5)) - 1) ∧ (S 1100023 ((x5) + 1)) = ((S 1100023 (x5))) ∧ (S 1100025 ((x5) + 1)) = ((S 1100025 (x5)))))) := fun h h0 h1 => sm_ct_13 h _ h0 h1
    have h := h k268
    refine sv_aload_n hM dX12_step__410 rfl rfl ?_
    refine sv_iload_n hM dX12_step__411 rfl rfl ?_
    obtain ⟨o269, h⟩ := h
    refine sv_callV hM dX12_step__412 sm_iv_943 (by decide) (sm_a0 _) rfl rfl (Nat.le_of_ble_eq_true rfl) sm_h174 (Nat.le_of_ble_eq_true rfl) (Nat.le_of_ble_eq_true rfl) (F' := 5) (Nat.le_of_ble_eq_true rfl) rfl (t_binary_ (S 27 x5) (sv_up (sv_up (sv_up (sv_up S 1100033 0 (x5)) 1100034 0 ((S 1100025 x5))) 1100033 0 (x5)) 1100034 0 ((S 1100025 x5))) ok23 k26 o269) (fun v S1 hq => ?_)
    obtain ⟨rfl, ok271, md272, hpo273⟩ := hq
    obtain ⟨g270, rfl⟩ : ∃ g, S1 = sv_sts (sv_up (sv_up (sv_up (sv_up S 1100033 0 (x5)) 1100034 0 ((S 1100025 x5))) 1100033 0 (x5)) 1100034 0 ((S 1100025 x5))) [1076, 41, 42, 43, 44, 45, 46, 47, 1075, 1100029, 1092, 60, 58, 57, 63, 64, 1073, 1109, 1110, 1111, 1112, 5, 1011, 3, 4, 1007, 1113] g := ⟨_, md272.eq⟩
    show sv_T sm_XS sm_cs sm_L sm_sh 101 (q_step_ S) 160 415 [(0, .ref 0), (1, sv_I x5), (2, sv_I (S 27 x5)), (3, sv_I (S 28 x5))] [] (sv_sts (sv_up (sv_up (sv_up (sv_up S 1100033 0 (x5)) 1100034 0 ((S 1100025 x5))) 1100033 0 (x5)) 1100034 0 ((S 1100025 x5))) [1076, 41, 42, 43, 44, 45, 46, 47, 1075, 1100029, 1092, 60, 58, 57, 63, 64, 1073, 1109, 1110, 1111, 1112, 5, 1011, 3, 4, 1007, 1113] g270)
    have md274 : sv_mod [1076, 41, 42, 43, 44, 45, 46, 47, 1075, 1100029, 1084, 1085, 48, 1086, 51, 52, 49, 50, 1100020, 1100021, 1100022, 58, 63, 64, 57, 1092, 53, 54, 55, 56, 59, 60, 1073, 1109, 1110, 1111, 1112, 5, 1011, 3, 4, 1007, 1113, 1107, 67, 1100032, 1114, 1115, 65, 66, 61, 62, 1100033, 1100034, 1100031] S (sv_sts (sv_up (sv_up (sv_up (sv_up S 1100033 0 (x5)) 1100034 0 ((S 1100025 x5))) 1100033 0 (x5)) 1100034 0 ((S 1100025 x5))) [1076, 41, 42, 43, 44, 45, 46, 47, 1075, 1100029, 1092, 60, 58, 57, 63, 64, 1073, 1109, 1110, 1111, 1112, 5, 1011, 3, 4, 1007, 1113] g270) := sv_mod.sts md24 (by decide)
    have h := h g270 hpo273
    refine sv_goto hM dX12_step__415 (pc' := 446) rfl ?_
    exact sv_vret hM dX12_step__446 rfl ⟨rfl, ok271, md274, h⟩
  have J15 : ((S 26 x5) = (15 : Int)) → sv_T sm_XS sm_cs sm_L sm_sh 101 (q_step_ S) 160 418 [(0, .ref 0), (1, sv_I x5), (2, sv_I (S 27 x5)), (3, sv_I (S 28 x5))] [] (sv_up (sv_up (sv_up (sv_up S 1100033 0 (x5)) 1100034 0 ((S 1100025 x5))) 1100033 0 (x5)) 1100034 0 ((S 1100025 x5))) := by
    intro hc
    have h := hS.2.2.2.2.2.2.2.2.2.2.2.2.2.2.2.1 hc
    have k275 : (sm_CT (S 26) (S 27) (S 28) (S 29) (S 1100007) (S 1100023) (S 1100024) (S 1100025) (S 21) (S 1046 0) (S 1032 0) (S 1008 0) (S 1055 0) → 0 ≤ (x5) → (x5) < (S 1046 0) → ((S 26 (x5)) = 15 → (0 ≤ (S 27 (x5)) ∧ (S 27 (x5)) ≤ 8) ∧ (0 ≤ ((S 1100007 (x5)) - (S 27 (x5)) - 2) ∧ (0 ≤ (S 1100023 (x5)) → (S 1100007 (S 1100023 (x5))) ≤ ((S 1100007 (x5)) - (S 27 (x5)) - 2)) ∧ (0 ≤ (S 1100025 (x5)) → (S 1100007 (S 1100025 (x5))) ≤ ((S 1100007 (x5)) - (S 27 (x5)) - 2))) ∧ (0 ≤ ((x5) + 1) ∧ ((x5) + 1) < (S 1046 0) ∧ (S 29 ((x5) + 1)) = ((S 29 (x5))) ∧ (S 1100007 ((x5) + 1)) = ((S 1100007 (x5)) - (S 27 (x5)) - 1) ∧ (S 1100023 ((x5) + 1)) = ((S 1100023 (x5))) ∧ (S 1100025 ((x5) + 1)) = ((S 1100025 (x5)))))) := fun h h0 h1 => sm_ct_14 h _ h0 h1
    have h := h k275
    refine sv_aload_n hM dX12_step__418 rfl rfl ?_
    refine sv_iload_n hM dX12_step__419 rfl rfl ?_
    obtain ⟨o276, h⟩ := h
    refine sv_callV hM dX12_step__420 sm_iv_945 (by decide) (sm_a0 _) rfl rfl (Nat.le_of_ble_eq_true rfl) sm_h180 (Nat.le_of_ble_eq_true rfl) (Nat.le_of_ble_eq_true rfl) (F' := 100) (Nat.le_of_ble_eq_true rfl) rfl (t_call (S 27 x5) (sv_up (sv_up (sv_up (sv_up S 1100033 0 (x5)) 1100034 0 ((S 1100025 x5))) 1100033 0 (x5)) 1100034 0 ((S 1100025 x5))) ok23 k26 o276) (fun v S1 hq => ?_)
    obtain ⟨rfl, ok278, md279, hpo280⟩ := hq
    obtain ⟨g277, rfl⟩ : ∃ g, S1 = sv_sts (sv_up (sv_up (sv_up (sv_up S 1100033 0 (x5)) 1100034 0 ((S 1100025 x5))) 1100033 0 (x5)) 1100034 0 ((S 1100025 x5))) [1076, 41, 42, 43, 44, 45, 46, 47, 1075, 1100029, 1084, 1085, 48, 1086, 51, 52, 49, 50, 1100020, 1100021, 1100022, 58, 63, 64, 57, 1092, 53, 54, 55, 56, 59, 60, 1073, 1109, 1110, 1111, 1112, 5, 1011, 3, 4, 1007, 1113, 1107, 67, 1100032, 1114, 1115] g := ⟨_, md279.eq⟩
    show sv_T sm_XS sm_cs sm_L sm_sh 101 (q_step_ S) 160 423 [(0, .ref 0), (1, sv_I x5), (2, sv_I (S 27 x5)), (3, sv_I (S 28 x5))] [] (sv_sts (sv_up (sv_up (sv_up (sv_up S 1100033 0 (x5)) 1100034 0 ((S 1100025 x5))) 1100033 0 (x5)) 1100034 0 ((S 1100025 x5))) [1076, 41, 42, 43, 44, 45, 46, 47, 1075, 1100029, 1084, 1085, 48, 1086, 51, 52, 49, 50, 1100020, 1100021, 1100022, 58, 63, 64, 57, 1092, 53, 54, 55, 56, 59, 60, 1073, 1109, 1110, 1111, 1112, 5, 1011, 3, 4, 1007, 1113, 1107, 67, 1100032, 1114, 1115] g277)
    have md281 : sv_mod [1076, 41, 42, 43, 44, 45, 46, 47, 1075, 1100029, 1084, 1085, 48, 1086, 51, 52, 49, 50, 1100020, 1100021, 1100022, 58, 63, 64, 57, 1092, 53, 54, 55, 56, 59, 60, 1073, 1109, 1110, 1111, 1112, 5, 1011, 3, 4, 1007, 1113, 1107, 67, 1100032, 1114, 1115, 65, 66, 61, 62, 1100033, 1100034, 1100031] S (sv_sts (sv_up (sv_up (sv_up (sv_up S 1100033 0 (x5)) 1100034 0 ((S 1100025 x5))) 1100033 0 (x5)) 1100034 0 ((S 1100025 x5))) [1076, 41, 42, 43, 44, 45, 46, 47, 1075, 1100029, 1084, 1085, 48, 1086, 51, 52, 49, 50, 1100020, 1100021, 1100022, 58, 63, 64, 57, 1092, 53, 54, 55, 56, 59, 60, 1073, 1109, 1110, 1111, 1112, 5, 1011, 3, 4, 1007, 1113, 1107, 67, 1100032, 1114, 1115] g277) := sv_mod.sts md24 (by decide)
    have h := h g277 hpo280
    refine sv_goto hM dX12_step__423 (pc' := 446) rfl ?_
    exact sv_vret hM dX12_step__446 rfl ⟨rfl, ok278, md281, h⟩
  have J16 : ((S 26 x5) = (16 : Int)) → sv_T sm_XS sm_cs sm_L sm_sh 101 (q_step_ S) 160 426 [(0, .ref 0), (1, sv_I x5), (2, sv_I (S 27 x5)), (3, sv_I (S 28 x5))] [] (sv_up (sv_up (sv_up (sv_up S 1100033 0 (x5)) 1100034 0 ((S 1100025 x5))) 1100033 0 (x5)) 1100034 0 ((S 1100025 x5))) := by
    intro hc
    have h := hS.2.2.2.2.2.2.2.2.2.2.2.2.2.2.2.2 hc
    have k282 : (sm_CT (S 26) (S 27) (S 28) (S 29) (S 1100007) (S 1100023) (S 1100024) (S 1100025) (S 21) (S 1046 0) (S 1032 0) (S 1008 0) (S 1055 0) → 0 ≤ (x5) → (x5) < (S 1046 0) → ((S 26 (x5)) = 16 → (0 ≤ (S 27 (x5)) ∧ (S 27 (x5)) ≤ 8 ∧ 0 ≤ (S 28 (x5)) ∧ (S 28 (x5)) < (S 1055 0)) ∧ (0 ≤ ((S 1100007 (x5)) - (S 27 (x5)) - 1) ∧ (0 ≤ (S 1100023 (x5)) → (S 1100007 (S 1100023 (x5))) ≤ ((S 1100007 (x5)) - (S 27 (x5)) - 1)) ∧ (0 ≤ (S 1100025 (x5)) → (S 1100007 (S 1100025 (x5))) ≤ ((S 1100007 (x5)) - (S 27 (x5)) - 1))) ∧ (0 ≤ ((x5) + 1) ∧ ((x5) + 1) < (S 1046 0) ∧ (S 29 ((x5) + 1)) = ((S 29 (x5))) ∧ (S 1100007 ((x5) + 1)) = ((S 1100007 (x5)) - (S 27 (x5))) ∧ (S 1100023 ((x5) + 1)) = ((S 1100023 (x5))) ∧ (S 1100025 ((x5) + 1)) = ((S 1100025 (x5)))))) := fun h h0 h1 => sm_ct_15 h _ h0 h1
    have h := h k282
    refine sv_aload_n hM dX12_step__426 rfl rfl ?_
    refine sv_iload_n hM dX12_step__427 rfl rfl ?_
    refine sv_iload_n hM dX12_step__428 rfl rfl ?_
    obtain ⟨o283, h⟩ := h
    refine sv_callV hM dX12_step__429 sm_iv_948 (by decide) (sm_a0 _) rfl rfl (Nat.le_of_ble_eq_true rfl) sm_h185 (Nat.le_of_ble_eq_true rfl) (Nat.le_of_ble_eq_true rfl) (F' := 100) (Nat.le_of_ble_eq_true rfl) rfl (t_makeNew (S 27 x5) (S 28 x5) (sv_up (sv_up (sv_up (sv_up S 1100033 0 (x5)) 1100034 0 ((S 1100025 x5))) 1100033 0 (x5)) 1100034 0 ((S 1100025 x5))) ok23 k26 k27 o283) (fun v S1 hq => ?_)
    obtain ⟨rfl, ok285, md286, hpo287⟩ := hq
    obtain ⟨g284, rfl⟩ : ∃ g, S1 = sv_sts (sv_up (sv_up (sv_up (sv_up S 1100033 0 (x5)) 1100034 0 ((S 1100025 x5))) 1100033 0 (x5)) 1100034 0 ((S 1100025 x5))) [1076, 41, 42, 43, 44, 45, 46, 47, 1075, 1100029, 1084, 1085, 48, 1086, 51, 52, 49, 50, 1100020, 1100021, 1100022, 58, 63, 64, 57, 1092, 53, 54, 55, 56, 59, 60, 1073, 1109, 1110, 1111, 1112, 5, 1011, 3, 4, 1007, 1113, 1107, 67, 1100032, 1114, 1115] g := ⟨_, md286.eq⟩
    show sv_T sm_XS sm_cs sm_L sm_sh 101 (q_step_ S) 160 432 [(0, .ref 0), (1, sv_I x5), (2, sv_I (S 27 x5)), (3, sv_I (S 28 x5))] [] (sv_sts (sv_up (sv_up (sv_up (sv_up S 1100033 0 (x5)) 1100034 0 ((S 1100025 x5))) 1100033 0 (x5)) 1100034 0 ((S 1100025 x5))) [1076, 41, 42, 43, 44, 45, 46, 47, 1075, 1100029, 1084, 1085, 48, 1086, 51, 52, 49, 50, 1100020, 1100021, 1100022, 58, 63, 64, 57, 1092, 53, 54, 55, 56, 59, 60, 1073, 1109, 1110, 1111, 1112, 5, 1011, 3, 4, 1007, 1113, 1107, 67, 1100032, 1114, 1115] g284)
    have md288 : sv_mod [1076, 41, 42, 43, 44, 45, 46, 47, 1075, 1100029, 1084, 1085, 48, 1086, 51, 52, 49, 50, 1100020, 1100021, 1100022, 58, 63, 64, 57, 1092, 53, 54, 55, 56, 59, 60, 1073, 1109, 1110, 1111, 1112, 5, 1011, 3, 4, 1007, 1113, 1107, 67, 1100032, 1114, 1115, 65, 66, 61, 62, 1100033, 1100034, 1100031] S (sv_sts (sv_up (sv_up (sv_up (sv_up S 1100033 0 (x5)) 1100034 0 ((S 1100025 x5))) 1100033 0 (x5)) 1100034 0 ((S 1100025 x5))) [1076, 41, 42, 43, 44, 45, 46, 47, 1075, 1100029, 1084, 1085, 48, 1086, 51, 52, 49, 50, 1100020, 1100021, 1100022, 58, 63, 64, 57, 1092, 53, 54, 55, 56, 59, 60, 1073, 1109, 1110, 1111, 1112, 5, 1011, 3, 4, 1007, 1113, 1107, 67, 1100032, 1114, 1115] g284) := sv_mod.sts md24 (by decide)
    have h := h g284 hpo287
    refine sv_goto hM dX12_step__432 (pc' := 446) rfl ?_
    exact sv_vret hM dX12_step__446 rfl ⟨rfl, ok285, md288, h⟩
  refine sv_tsw hM dX12_step__32 k28 (t := 435) rfl (fun hc => J0 (by rcases hc with hc | hc; exact Or.inl hc; exact Or.inr hc)) (fun hc => ?_)
  have hv : (S 26 x5) = (0 : Int) ∨ (S 26 x5) = (1 : Int) ∨ (S 26 x5) = (2 : Int) ∨ (S 26 x5) = (3 : Int) ∨ (S 26 x5) = (4 : Int) ∨ (S 26 x5) = (5 : Int) ∨ (S 26 x5) = (6 : Int) ∨ (S 26 x5) = (7 : Int) ∨ (S 26 x5) = (8 : Int) ∨ (S 26 x5) = (9 : Int) ∨ (S 26 x5) = (10 : Int) ∨ (S 26 x5) = (11 : Int) ∨ (S 26 x5) = (12 : Int) ∨ (S 26 x5) = (13 : Int) ∨ (S 26 x5) = (14 : Int) ∨ (S 26 x5) = (15 : Int) ∨ (S 26 x5) = (16 : Int) := by omega
  rcases hv with hv | hv | hv | hv | hv | hv | hv | hv | hv | hv | hv | hv | hv | hv | hv | hv | hv
  · exact ⟨84, 116, by rw [hv]; rfl, rfl, J1 (by omega)⟩
  · exact ⟨98, 130, by rw [hv]; rfl, rfl, J2 (by omega)⟩
  · exact ⟨136, 168, by rw [hv]; rfl, rfl, J3 (by omega)⟩
  · exact ⟨163, 195, by rw [hv]; rfl, rfl, J4 (by omega)⟩
  · exact ⟨186, 218, by rw [hv]; rfl, rfl, J5 (by omega)⟩
  · exact ⟨163, 195, by rw [hv]; rfl, rfl, J4 (by omega)⟩
  · exact ⟨216, 248, by rw [hv]; rfl, rfl, J6 (by omega)⟩
  · exact ⟨250, 282, by rw [hv]; rfl, rfl, J7 (by omega)⟩
  · exact ⟨275, 307, by rw [hv]; rfl, rfl, J8 (by omega)⟩
  · exact ⟨298, 330, by rw [hv]; rfl, rfl, J9 (by omega)⟩
  · exact ⟨306, 338, by rw [hv]; rfl, rfl, J10 (by omega)⟩
  · exact ⟨313, 345, by rw [hv]; rfl, rfl, J11 (by omega)⟩
  · exact ⟨320, 352, by rw [hv]; rfl, rfl, J12 (by omega)⟩
  · exact ⟨327, 359, by rw [hv]; rfl, rfl, J13 (by omega)⟩
  · exact ⟨378, 410, by rw [hv]; rfl, rfl, J14 (by omega)⟩
  · exact ⟨386, 418, by rw [hv]; rfl, rfl, J15 (by omega)⟩
  · exact ⟨394, 426, by rw [hv]; rfl, rfl, J16 (by omega)⟩
