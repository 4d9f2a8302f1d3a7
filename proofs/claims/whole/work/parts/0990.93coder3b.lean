theorem dX12_behind_0 : decode cX12_behind 0 = .ok (.aload_n 0, 1) := by decide +kernel
theorem dX12_behind_1 : decode cX12_behind 1 = .ok (.iload_n 1, 1) := by decide +kernel
theorem dX12_behind_2 : decode cX12_behind 2 = .ok (.iconst 0, 1) := by decide +kernel
theorem dX12_behind_3 : decode cX12_behind 3 = .ok (.invokevirtual 644, 3) := by decide +kernel
theorem dX12_behind_6 : decode cX12_behind 6 = .ok (.istore_n 2, 1) := by decide +kernel
theorem dX12_behind_7 : decode cX12_behind 7 = .ok (.aload_n 0, 1) := by decide +kernel
theorem dX12_behind_8 : decode cX12_behind 8 = .ok (.iload_n 1, 1) := by decide +kernel
theorem dX12_behind_9 : decode cX12_behind 9 = .ok (.iconst 1, 1) := by decide +kernel
theorem dX12_behind_10 : decode cX12_behind 10 = .ok (.invokevirtual 644, 3) := by decide +kernel
theorem dX12_behind_13 : decode cX12_behind 13 = .ok (.istore_n 3, 1) := by decide +kernel
theorem dX12_behind_14 : decode cX12_behind 14 = .ok (.aload_n 0, 1) := by decide +kernel
theorem dX12_behind_15 : decode cX12_behind 15 = .ok (.getfield 42, 3) := by decide +kernel
theorem dX12_behind_18 : decode cX12_behind 18 = .ok (.iload_n 1, 1) := by decide +kernel
theorem dX12_behind_19 : decode cX12_behind 19 = .ok (.iaload, 1) := by decide +kernel
theorem dX12_behind_20 : decode cX12_behind 20 = .ok (.tableswitch 150 3 11 #[52, 150, 150, 150, 66, 101, 150, 150, 80], 52) := by decide +kernel
theorem dX12_behind_72 : decode cX12_behind 72 = .ok (.aload_n 0, 1) := by decide +kernel
theorem dX12_behind_73 : decode cX12_behind 73 = .ok (.bipush 17, 2) := by decide +kernel
theorem dX12_behind_75 : decode cX12_behind 75 = .ok (.invokevirtual 666, 3) := by decide +kernel
theorem dX12_behind_78 : decode cX12_behind 78 = .ok (.aload_n 0, 1) := by decide +kernel
theorem dX12_behind_79 : decode cX12_behind 79 = .ok (.iload_n 3, 1) := by decide +kernel
theorem dX12_behind_80 : decode cX12_behind 80 = .ok (.invokevirtual 668, 3) := by decide +kernel
theorem dX12_behind_83 : decode cX12_behind 83 = .ok (.goto 129, 3) := by decide +kernel
theorem dX12_behind_86 : decode cX12_behind 86 = .ok (.aload_n 0, 1) := by decide +kernel
theorem dX12_behind_87 : decode cX12_behind 87 = .ok (.iload_n 3, 1) := by decide +kernel
theorem dX12_behind_88 : decode cX12_behind 88 = .ok (.invokevirtual 668, 3) := by decide +kernel
theorem dX12_behind_91 : decode cX12_behind 91 = .ok (.aload_n 0, 1) := by decide +kernel
theorem dX12_behind_92 : decode cX12_behind 92 = .ok (.bipush 10, 2) := by decide +kernel
theorem dX12_behind_94 : decode cX12_behind 94 = .ok (.invokevirtual 666, 3) := by decide +kernel
theorem dX12_behind_97 : decode cX12_behind 97 = .ok (.goto 115, 3) := by decide +kernel
theorem dX12_behind_100 : decode cX12_behind 100 = .ok (.aload_n 0, 1) := by decide +kernel
theorem dX12_behind_101 : decode cX12_behind 101 = .ok (.aload_n 0, 1) := by decide +kernel
theorem dX12_behind_102 : decode cX12_behind 102 = .ok (.iload_n 1, 1) := by decide +kernel
theorem dX12_behind_103 : decode cX12_behind 103 = .ok (.iconst 2, 1) := by decide +kernel
theorem dX12_behind_104 : decode cX12_behind 104 = .ok (.invokevirtual 644, 3) := by decide +kernel
theorem dX12_behind_107 : decode cX12_behind 107 = .ok (.invokevirtual 668, 3) := by decide +kernel
theorem dX12_behind_110 : decode cX12_behind 110 = .ok (.aload_n 0, 1) := by decide +kernel
theorem dX12_behind_111 : decode cX12_behind 111 = .ok (.bipush 14, 2) := by decide +kernel
theorem dX12_behind_113 : decode cX12_behind 113 = .ok (.iload_n 2, 1) := by decide +kernel
theorem dX12_behind_114 : decode cX12_behind 114 = .ok (.iconst 0, 1) := by decide +kernel
theorem dX12_behind_115 : decode cX12_behind 115 = .ok (.invokevirtual 615, 3) := by decide +kernel
theorem dX12_behind_118 : decode cX12_behind 118 = .ok (.goto 94, 3) := by decide +kernel
theorem dX12_behind_121 : decode cX12_behind 121 = .ok (.aload_n 0, 1) := by decide +kernel
theorem dX12_behind_122 : decode cX12_behind 122 = .ok (.iload_n 1, 1) := by decide +kernel
theorem dX12_behind_123 : decode cX12_behind 123 = .ok (.invokevirtual 647, 3) := by decide +kernel
theorem dX12_behind_126 : decode cX12_behind 126 = .ok (.ifCond .eq 25, 3) := by decide +kernel
theorem dX12_behind_129 : decode cX12_behind 129 = .ok (.aload_n 0, 1) := by decide +kernel
theorem dX12_behind_130 : decode cX12_behind 130 = .ok (.bipush 18, 2) := by decide +kernel
theorem dX12_behind_132 : decode cX12_behind 132 = .ok (.invokevirtual 666, 3) := by decide +kernel
theorem dX12_behind_135 : decode cX12_behind 135 = .ok (.aload_n 0, 1) := by decide +kernel
theorem dX12_behind_136 : decode cX12_behind 136 = .ok (.aload_n 0, 1) := by decide +kernel
theorem dX12_behind_137 : decode cX12_behind 137 = .ok (.iload_n 2, 1) := by decide +kernel
theorem dX12_behind_138 : decode cX12_behind 138 = .ok (.iconst 1, 1) := by decide +kernel
theorem dX12_behind_139 : decode cX12_behind 139 = .ok (.invokevirtual 644, 3) := by decide +kernel
theorem dX12_behind_142 : decode cX12_behind 142 = .ok (.invokevirtual 668, 3) := by decide +kernel
theorem dX12_behind_145 : decode cX12_behind 145 = .ok (.aload_n 0, 1) := by decide +kernel
theorem dX12_behind_146 : decode cX12_behind 146 = .ok (.bipush 10, 2) := by decide +kernel
theorem dX12_behind_148 : decode cX12_behind 148 = .ok (.invokevirtual 666, 3) := by decide +kernel
theorem dX12_behind_151 : decode cX12_behind 151 = .ok (.aload_n 0, 1) := by decide +kernel
theorem dX12_behind_152 : decode cX12_behind 152 = .ok (.iload_n 3, 1) := by decide +kernel
theorem dX12_behind_153 : decode cX12_behind 153 = .ok (.invokevirtual 671, 3) := by decide +kernel
theorem dX12_behind_156 : decode cX12_behind 156 = .ok (.istore 4, 2) := by decide +kernel
theorem dX12_behind_158 : decode cX12_behind 158 = .ok (.aload_n 0, 1) := by decide +kernel
theorem dX12_behind_159 : decode cX12_behind 159 = .ok (.bipush 15, 2) := by decide +kernel
theorem dX12_behind_161 : decode cX12_behind 161 = .ok (.iload 4, 2) := by decide +kernel
theorem dX12_behind_163 : decode cX12_behind 163 = .ok (.iconst 0, 1) := by decide +kernel
theorem dX12_behind_164 : decode cX12_behind 164 = .ok (.invokevirtual 615, 3) := by decide +kernel
theorem dX12_behind_167 : decode cX12_behind 167 = .ok (.goto 45, 3) := by decide +kernel
theorem dX12_behind_170 : decode cX12_behind 170 = .ok (.aload_n 0, 1) := by decide +kernel
theorem dX12_behind_171 : decode cX12_behind 171 = .ok (.invokevirtual 674, 3) := by decide +kernel
theorem dX12_behind_174 : decode cX12_behind 174 = .ok (.istore 4, 2) := by decide +kernel
theorem dX12_behind_176 : decode cX12_behind 176 = .ok (.aload_n 0, 1) := by decide +kernel
theorem dX12_behind_177 : decode cX12_behind 177 = .ok (.aload_n 0, 1) := by decide +kernel
theorem dX12_behind_178 : decode cX12_behind 178 = .ok (.getfield 42, 3) := by decide +kernel
theorem dX12_behind_181 : decode cX12_behind 181 = .ok (.iload_n 1, 1) := by decide +kernel
theorem dX12_behind_182 : decode cX12_behind 182 = .ok (.iaload, 1) := by decide +kernel
theorem dX12_behind_183 : decode cX12_behind 183 = .ok (.bipush 12, 2) := by decide +kernel
theorem dX12_behind_185 : decode cX12_behind 185 = .ok (.if_icmp .ne 8, 3) := by decide +kernel
theorem dX12_behind_188 : decode cX12_behind 188 = .ok (.bipush 23, 2) := by decide +kernel
theorem dX12_behind_190 : decode cX12_behind 190 = .ok (.goto 5, 3) := by decide +kernel
theorem dX12_behind_193 : decode cX12_behind 193 = .ok (.bipush 24, 2) := by decide +kernel
theorem dX12_behind_195 : decode cX12_behind 195 = .ok (.iload 4, 2) := by decide +kernel
theorem dX12_behind_197 : decode cX12_behind 197 = .ok (.iconst 0, 1) := by decide +kernel
theorem dX12_behind_198 : decode cX12_behind 198 = .ok (.invokevirtual 615, 3) := by decide +kernel
theorem dX12_behind_201 : decode cX12_behind 201 = .ok (.aload_n 0, 1) := by decide +kernel
theorem dX12_behind_202 : decode cX12_behind 202 = .ok (.iload_n 3, 1) := by decide +kernel
theorem dX12_behind_203 : decode cX12_behind 203 = .ok (.invokevirtual 668, 3) := by decide +kernel
theorem dX12_behind_206 : decode cX12_behind 206 = .ok (.aload_n 0, 1) := by decide +kernel
theorem dX12_behind_207 : decode cX12_behind 207 = .ok (.iload 4, 2) := by decide +kernel
theorem dX12_behind_209 : decode cX12_behind 209 = .ok (.invokevirtual 677, 3) := by decide +kernel
theorem dX12_behind_212 : decode cX12_behind 212 = .ok (.return_, 1) := by decide +kernel

theorem la_behind_0 {x0 : Int} (h0 : x0 = 1) : ¬ x0 = 2 := by omega
theorem la_behind_1 {x0 : Int} (h0 : x0 = 1) : ¬ x0 = 6 := by omega
theorem la_behind_2 {x0 : Int} (h0 : x0 = 1) : ¬ x0 = 3 := by omega
theorem la_behind_3 {x0 x1 : Int} (h0 : x0 ≤ 12000) (h1 : 0 ≤ x1) (h2 : x1 < x0) : 0 ≤ x1 ∧ x1 < 12000 ∧ (0 : Int) ≤ 0 ∧ (0 : Int) ≤ 4 := by omega
theorem la_behind_4 {x0 x1 : Int} (h0 : x0 ≤ 600) (h1 : 0 ≤ x1) : 0 + 1 ≤ x1 + (600 - x0) + 8 := by omega
theorem la_behind_5 {x0 x1 : Int} (h0 : x0 ≤ 12000) (h1 : 0 ≤ x1) (h2 : x1 < x0) : 0 ≤ x1 ∧ x1 < 12000 ∧ (0 : Int) ≤ 1 ∧ (1 : Int) ≤ 4 := by omega
theorem la_behind_6 {x0 x1 : Int} (h0 : x0 ≤ 12000) (h1 : 0 ≤ x1) (h2 : x1 < x0) : 0 ≤ x1 ∧ x1 < 12000 := by omega
theorem la_behind_7 {x0 : Int} (h0 : 3 ≤ x0) : ¬ x0 < 3 := by omega
theorem la_behind_8 {x0 x1 : Int} (h0 : x0 = x1) : x1 = x0 := by omega
theorem la_behind_9 {x0 x1 x2 : Int} (h0 : x0 ≤ 600) (h1 : 0 ≤ x1) (h2 : x1 + 3 * (600 - x0) + x2 ≤ 8000) (h3 : 0 ≤ x2) : 0 ≤ x1 ∧ x1 ≤ 100000 := by omega
theorem la_behind_10 {x0 x1 : Int} (h0 : x0 ≤ 600) (h1 : 0 ≤ x1) (h2 : x1 ≤ x0) : sv_R x1 := by omega
theorem la_behind_11 {x0 x1 : Int} (h0 : x0 ≤ 600) (h1 : (-1) ≤ x1) (h2 : x1 < x0) : sv_R x1 := by omega
theorem la_behind_12 {x0 x1 : Int} (h0 : x0 ≤ 11) (h1 : 0 ≤ x1) (h2 : x1 < x0) : sv_R x1 := by omega
theorem la_behind_13 {x0 : Int} (h0 : x0 = 13) : 12 ≤ x0 := by omega
theorem la_behind_14 {x0 : Int} (h0 : 12 ≤ x0) (h1 : ¬ x0 = 12) : 12 < x0 := by omega
theorem la_behind_15 {x0 : Int} (h0 : x0 = 13) : ¬ x0 = 3 := by omega
theorem la_behind_16 {x0 : Int} (h0 : x0 = 13) : ¬ x0 = 8 := by omega
theorem la_behind_17 {x0 : Int} (h0 : x0 = 13) : ¬ (x0 = 4 ∨ x0 = 5 ∨ x0 = 8 ∨ x0 = 9) := by omega
theorem la_behind_18 {x0 : Int} (h0 : x0 = 13) : ¬ (x0 = 4 ∨ x0 = 5 ∨ x0 = 6 ∨ x0 = 9 ∨ x0 = 10) := by omega
theorem la_behind_19 {x0 : Int} (h0 : x0 = 13) : ¬ x0 = 7 := by omega
theorem la_behind_20 {x0 : Int} (h0 : x0 = 13) : ¬ x0 = 11 := by omega
theorem la_behind_21 : (0 : Int) ≤ 24 := by omega
theorem la_behind_22 : (24 : Int) ≤ 30 := by omega
theorem la_behind_23 {x0 x1 x2 x3 x4 x5 : Int} (h0 : 1 + x0 ≤ x1) (h1 : 0 ≤ x2 → x3 ≤ x1 - (1 + x0)) (h2 : 0 ≤ x4 → x5 ≤ x1 - (1 + x0)) (h3 : 0 ≤ x0) (h4 : x0 = 0) : 0 ≤ x1 - 1 ∧ (0 ≤ x2 → x3 ≤ x1 - 1) ∧ (0 ≤ x4 → x5 ≤ x1 - 1) := by omega
theorem la_behind_24 {x0 x1 x2 x3 x4 x5 : Int} (h0 : x0 = (-1)) (h1 : x1 = x2) (h2 : x3 = x4) : x5 + x0 = x5 - 1 ∧ x1 = x2 ∧ x3 = x4 := by omega
theorem la_behind_25 {x0 : Int} : x0 = x0 := by omega
theorem la_behind_26 {x0 : Int} : 5 * x0 + 0 = 5 * x0 := by omega
theorem la_behind_27 {x0 x1 x2 x3 x4 x5 x6 x7 x8 x9 x10 x11 : Int} (h0 : 1 + x0 ≤ x1) (h1 : 0 ≤ x2 → x3 ≤ x1 - (1 + x0)) (h2 : 0 ≤ x4 → x5 ≤ x1 - (1 + x0)) (h3 : 0 ≤ x0) (h4 : x6 = (-1)) (h5 : x7 = x2) (h6 : x8 = x4) (h7 : x9 = x1) (h8 : x10 = x2) (h9 : x11 = x4) : (0 ≤ x1 - 1 ∧ (0 ≤ x2 → x3 ≤ x1 - 1) ∧ (0 ≤ x4 → x5 ≤ x1 - 1)) ∧ (x1 + x6 = x1 - 1 ∧ x7 = x2 ∧ x8 = x4) ∧ x9 = x1 ∧ x10 = x2 ∧ x11 = x4 := by omega
theorem la_behind_28 : ¬ ((24 : Int) = 27 ∨ (24 : Int) = 30) := by omega
theorem la_behind_29 {x0 x1 : Int} (h0 : 0 ≤ x0) (h1 : x1 = x0) : 0 ≤ x1 := by omega
theorem la_behind_30 {x0 x1 : Int} (h0 : x0 = x1 + 1) : x1 < x0 := by omega
theorem la_behind_31 : ¬ (24 : Int) = 1 := by omega
theorem la_behind_32 {x0 x1 : Int} (h0 : (24 : Int) = 2) : x0 = x1 := by omega
theorem la_behind_33 {x0 : Int} (h0 : (24 : Int) = 2) : 5 * x0 + 1 = 5 * x0 := by omega
theorem la_behind_34 {x0 : Int} (h0 : (24 : Int) = 2) : 5 * x0 + 1 = 5 * x0 + 0 := by omega
theorem la_behind_35 {x0 x1 : Int} (h0 : (24 : Int) = 2) : 5 * x0 + 1 = 5 * x1 := by omega
theorem la_behind_36 {x0 x1 : Int} (h0 : (24 : Int) = 2) : 5 * x0 + 1 = 5 * x1 + 0 := by omega
theorem la_behind_37 {x0 x1 : Int} (h0 : (24 : Int) = 2) : 5 * x0 + 1 = 5 * x1 + 1 := by omega
theorem la_behind_38 {x0 : Int} (h0 : (24 : Int) = 2) : 0 ≤ x0 := by omega
theorem la_behind_39 {x0 x1 : Int} (h0 : (24 : Int) = 2) : x0 = 7 ∧ x1 = 0 := by omega
theorem la_behind_40 {x0 : Int} (h0 : (24 : Int) = 2) : x0 = 3 := by omega
theorem la_behind_41 {x0 : Int} (h0 : (24 : Int) = 2) : x0 = 4 ∨ x0 = 5 ∨ x0 = 8 ∨ x0 = 9 := by omega
theorem la_behind_42 (h0 : (24 : Int) = 2) : False := by omega
theorem la_behind_43 {x0 : Int} (h0 : x0 = 0) : ¬ x0 = 1 := by omega
theorem la_behind_44 {x0 : Int} (h0 : 1 ≤ x0) : 0 ≤ x0 := by omega
theorem la_behind_45 {x0 x1 x2 x3 x4 x5 : Int} (h0 : x0 ≤ 12000) (h1 : 0 ≤ x1) (h2 : x1 < x2) (h3 : x3 < x0) (h4 : x4 ≤ x5 - 1) : 12001 * x4 + x3 ≤ 12001 * x5 + x2 := by omega
theorem la_behind_46 : ¬ (24 : Int) = 29 := by omega
theorem la_behind_47 : ¬ (24 : Int) = 17 := by omega
theorem la_behind_48 {x0 x1 x2 : Int} : (24 : Int) = 17 → 0 ≤ x0 → x1 < x2 := by omega
theorem la_behind_49 {x0 x1 x2 : Int} (h0 : x0 ≤ x1) (h1 : x2 = x1 + 1) : x0 ≤ x2 := by omega
theorem la_behind_50 {x0 x1 x2 x3 x4 x5 x6 x7 x8 x9 : Int} (h0 : 0 ≤ x0 → x1 ≤ x2 - (1 + x3)) (h1 : 0 ≤ x3) (h2 : x4 = x2 + x5) (h3 : x5 = (-1)) (h4 : x6 = x7) (h5 : x7 = x0) (h6 : x8 = x9) (h7 : x9 = x1) : 0 ≤ x6 → x8 ≤ x4 := by omega
theorem la_behind_51 {x0 x1 x2 x3 x4 x5 x6 x7 x8 : Int} (h0 : 0 ≤ x0 → x1 ≤ x2 - (1 + x3)) (h1 : 0 ≤ x3) (h2 : x4 = x2 + x5) (h3 : x5 = (-1)) (h4 : x6 = x7) (h5 : x7 = x0) (h6 : x8 = x1) : 0 ≤ x6 → x8 ≤ x4 := by omega
theorem la_behind_52 {x0 x1 x2 x3 x4 : Int} (h0 : x0 ≤ x1) (h1 : x2 = x1 + 1) (h2 : x3 = x0 + x4) (h3 : x4 = (-1)) : x3 ≤ x2 := by omega
theorem la_behind_53 {x0 x1 x2 x3 x4 x5 x6 : Int} (h0 : x0 + 3 * (600 - x1) + x2 ≤ 8000) (h1 : x3 ≤ x2 - 1) (h2 : x4 = x0) (h3 : x5 = x4 + 1) (h4 : x6 = x1 + 1) : x5 + 3 * (600 - x6) + x3 ≤ 8000 := by omega
theorem la_behind_54 {x0 x1 x2 : Int} (h0 : 0 ≤ x0) (h1 : x1 ≤ 600) (h2 : x2 = x0 + (600 - x1) + 8) : 0 ≤ x2 := by omega
theorem la_behind_55 {x0 : Int} (h0 : 0 ≤ x0) (h1 : ¬ x0 = 0) : 0 < x0 := by omega
theorem la_behind_56 {x0 : Int} (h0 : x0 ≤ 1) (h1 : 0 < x0) : x0 = 1 := by omega
theorem la_behind_57 {x0 : Int} (h0 : x0 = 4) : 0 ≤ x0 := by omega
theorem la_behind_58 {x0 : Int} (h0 : x0 = 1) : ¬ x0 = 0 := by omega
theorem la_behind_59 {x0 x1 x2 x3 x4 : Int} (h0 : x0 + (600 - x1) + 8 = x2) (h1 : x3 ≤ x0 - 1) (h2 : 0 ≤ x3) (h3 : x4 = 4) (h4 : x1 = 600) : x4 < x2 := by omega
theorem la_behind_60 {x0 : Int} (h0 : x0 ≤ 1) (h1 : ¬ x0 = 1) : x0 < 1 := by omega
theorem la_behind_61 {x0 : Int} (h0 : 0 ≤ x0) (h1 : x0 < 1) : x0 = 0 := by omega
theorem la_behind_62 {x0 x1 x2 x3 x4 x5 : Int} (h0 : x0 + (600 - x1) + 8 = x2) (h1 : x3 ≤ x0 - 1) (h2 : x4 = x1 + 1) (h3 : x5 = x3 + (600 - x4) + 8) : x5 < x2 := by omega
theorem la_behind_63 {x0 x1 x2 : Int} (h0 : 0 ≤ x0) (h1 : x1 = 4) (h2 : x2 = 600) : x1 + 1 ≤ x0 + (600 - x2) + 8 := by omega
theorem la_behind_64 {x0 x1 x2 x3 x4 : Int} (h0 : x0 ≤ x1 - 1) (h1 : x2 = x3 + 1) (h2 : x4 = x0 + (600 - x2) + 8) : x4 + 1 ≤ x1 + (600 - x3) + 8 := by omega
theorem la_behind_65 {x0 x1 x2 x3 x4 : Int} (h0 : x0 ≤ 600) (h1 : x1 + 3 * (600 - x0) + x2 ≤ 8000) (h2 : x3 ≤ x2 - 1) (h3 : 0 ≤ x3) (h4 : x4 = x1) : x4 < 8000 := by omega
theorem la_behind_66 {x0 x1 x2 : Int} (h0 : x0 = x1 + 1) (h1 : x0 ≤ x2) : x1 < x2 := by omega
theorem la_behind_67 {x0 x1 x2 x3 : Int} (h0 : x0 < x1) (h1 : x2 = x3) (h2 : x3 = x0) : x2 < x1 + 1 := by omega
theorem la_behind_68 {x0 x1 x2 : Int} (h0 : x0 = x1) (h1 : x1 < x2) : x0 < x2 + 1 := by omega
theorem la_behind_69 {x0 x1 x2 x3 x4 : Int} (h0 : x0 < x1) (h1 : x2 = x3) (h2 : x3 = x4) (h3 : x4 = x0) : x2 < x1 + 1 := by omega
theorem la_behind_70 {x0 x1 x2 : Int} (h0 : x0 = x1) (h1 : x1 = x2) : x0 = x2 := by omega
theorem la_behind_71 {x0 x1 x2 x3 : Int} (h0 : x0 = x1) (h1 : x1 = x2) (h2 : x2 = x3) : x0 = x3 := by omega
theorem la_behind_72 {x0 x1 x2 x3 x4 x5 : Int} (h0 : x0 = x1 + 1) (h1 : x1 = x2 + x3) (h2 : x3 = (-1)) (h3 : x4 = x5) (h4 : x5 = x2) : x0 = x4 := by omega
theorem la_behind_73 {x0 x1 x2 x3 x4 x5 : Int} (h0 : x0 = x1) (h1 : x1 = x2) (h2 : x2 = x3) (h3 : x4 = x5) (h4 : x5 = x3) : x0 = x4 := by omega
theorem la_behind_74 {x0 x1 x2 : Int} (h0 : x0 = x1) (h1 : x1 = x2) : x2 = x0 := by omega
theorem la_behind_75 {x0 x1 x2 : Int} (h0 : x0 ≤ x1) (h1 : x1 ≤ x2) : x0 ≤ x2 := by omega
theorem la_behind_76 {x0 x1 : Int} (h0 : x0 = 0) : x0 = 1 → x1 = 1 := by omega
theorem la_behind_77 {x0 x1 : Int} (h0 : x0 ≤ x1) : x0 + 1 ≤ x1 + 1 := by omega
theorem la_behind_78 {x0 x1 x2 : Int} (h0 : x0 = x1) (h1 : x2 = x0 + 1) : x1 ≤ x2 := by omega
theorem la_behind_79 {x0 x1 : Int} (h0 : x0 = x1) : x1 ≤ x0 := by omega
theorem la_behind_80 {x0 x1 x2 x3 : Int} (h0 : x0 = x1) (h1 : x2 = x0 + 1) (h2 : x2 ≤ x3) : x1 ≤ x3 := by omega
theorem la_behind_81 {x0 x1 x2 x3 x4 : Int} (h0 : x0 = 0) (h1 : x1 = x2) (h2 : x3 = x1 + 1) (h3 : x3 ≤ x4) : x0 = 1 → x4 = x2 := by omega
theorem la_behind_82 {x0 x1 x2 x3 x4 x5 x6 x7 x8 x9 : Int} (h0 : x0 ≤ 600) (h1 : x1 ≤ x2 - 1) (h2 : 0 ≤ x1) (h3 : x3 = x4) (h4 : x5 = x3 + 1) (h5 : 0 ≤ x6) (h6 : x6 ≤ 1) (h7 : x0 ≤ x7) (h8 : x6 = 1 → x8 = x5) (h9 : x6 = 0 → x8 ≤ x5 + 3 * (600 - x7) + x1) : x9 = 0 → x8 ≤ x4 + 3 * (600 - x0) + x2 := by omega
theorem la_behind_83 {x0 x1 x2 : Int} (h0 : x0 + 1 ≤ x1) (h1 : x0 = x2 + 1) : x2 + 1 ≤ x1 := by omega
theorem la_behind_84 {x0 x1 x2 x3 x4 : Int} (h0 : x0 = 0) (h1 : x1 = x2 + 1) (h2 : x2 = x3 + x4) (h3 : x4 = (-1)) : x1 = x3 + (0 - x0) := by omega
theorem la_behind_85 {x0 x1 x2 : Int} (h0 : x0 = x1) (h1 : x2 = x0 + 1) : x2 ≤ x1 + 1 := by omega
theorem la_behind_86 {x0 x1 x2 x3 : Int} (h0 : x0 = x1) (h1 : x2 = x0 + 1) (h2 : x2 ≤ x3) : x1 + 1 ≤ x3 := by omega
theorem la_behind_87 {x0 x1 x2 : Int} (h0 : x0 = x1) : x0 < x1 + 1 ∨ x2 ≤ x0 := by omega
theorem la_behind_88 {x0 x1 : Int} (h0 : x0 = x1 + 1) : x1 < x0 + 1 := by omega
theorem la_behind_89 {x0 : Int} : x0 < x0 + 1 := by omega
theorem la_behind_90 {x0 x1 x2 x3 x4 x5 : Int} (h0 : 0 ≤ x0) (h1 : x1 = 0) (h2 : x2 + 1 ≤ x3) (h3 : x2 = x4 + 1) : 2 * x5 ≤ 2 * (x5 - (1 + x1)) + (1 + x1) + (x3 - x4) + 8 * x0 + 10 := by omega
theorem la_behind_91 {x0 x1 : Int} (h0 : x0 = x1 + 1) : x1 + 1 < x0 + 1 := by omega
theorem la_behind_92 {x0 x1 : Int} (h0 : x0 ≤ x1 + 1) (h1 : x0 = x1 + 1) : x1 + 1 = x0 := by omega
theorem la_behind_93 {x0 x1 x2 x3 x4 x5 x6 : Int} (h0 : 0 ≤ x0) (h1 : x1 = 0) (h2 : x2 + 1 ≤ x3) (h3 : x2 = x4 + 1) (h4 : x5 = (-1)) : 2 * (x6 + x5) ≤ 2 * (x6 - (1 + x1)) + (1 + x1) + (x3 - x4) + 8 * x0 + 10 := by omega
theorem la_behind_94 {x0 x1 : Int} (h0 : x0 ≤ x1 + 1) : x0 ≤ x1 + 1 + 1 := by omega
theorem la_behind_95 {x0 x1 x2 : Int} (h0 : x0 + 1 ≤ x1) (h1 : x0 = x2 + 1) : x2 + 1 + 1 ≤ x1 := by omega
theorem la_behind_96 {x0 x1 x2 x3 x4 x5 x6 x7 x8 : Int} (h0 : x0 ≤ x1) (h1 : x2 = 0) (h2 : x3 = x4 + 1) (h3 : x5 = x6 + x7) (h4 : x7 = (-1)) : 2 * x5 + (x8 - x3) + 8 * x0 + 10 ≤ 2 * (x6 - (1 + x2)) + (1 + x2) + (x8 - x4) + 8 * x1 + 10 := by omega
theorem la_behind_97 {x0 x1 x2 x3 x4 x5 x6 : Int} (h0 : x0 = x1) (h1 : x2 = x0 + 1) (h2 : x3 ≤ x2 + 3 * (x4 - x5)) (h3 : x5 = x6 + 1) : x3 ≤ x1 + 3 * (x4 - x6) := by omega
theorem la_behind_98 {x0 : Int} (h0 : ¬ ¬ x0 = 12) : ¬ x0 = 3 := by omega
theorem la_behind_99 {x0 : Int} (h0 : ¬ ¬ x0 = 12) : ¬ x0 = 8 := by omega
theorem la_behind_100 {x0 : Int} (h0 : ¬ ¬ x0 = 12) : ¬ (x0 = 4 ∨ x0 = 5 ∨ x0 = 8 ∨ x0 = 9) := by omega
theorem la_behind_101 {x0 : Int} (h0 : ¬ ¬ x0 = 12) : ¬ (x0 = 4 ∨ x0 = 5 ∨ x0 = 6 ∨ x0 = 9 ∨ x0 = 10) := by omega
theorem la_behind_102 {x0 : Int} (h0 : ¬ ¬ x0 = 12) : ¬ x0 = 13 := by omega
theorem la_behind_103 {x0 : Int} (h0 : ¬ ¬ x0 = 12) : ¬ x0 = 7 := by omega
theorem la_behind_104 {x0 : Int} (h0 : ¬ ¬ x0 = 12) : ¬ x0 = 11 := by omega
theorem la_behind_105 : (0 : Int) ≤ 23 := by omega
theorem la_behind_106 : (23 : Int) ≤ 30 := by omega
theorem la_behind_107 : ¬ ((23 : Int) = 27 ∨ (23 : Int) = 30) := by omega
theorem la_behind_108 : ¬ (23 : Int) = 1 := by omega
theorem la_behind_109 {x0 x1 : Int} (h0 : (23 : Int) = 2) : x0 = x1 := by omega
theorem la_behind_110 {x0 : Int} (h0 : (23 : Int) = 2) : 5 * x0 + 1 = 5 * x0 := by omega
theorem la_behind_111 {x0 : Int} (h0 : (23 : Int) = 2) : 5 * x0 + 1 = 5 * x0 + 0 := by omega
theorem la_behind_112 {x0 x1 : Int} (h0 : (23 : Int) = 2) : 5 * x0 + 1 = 5 * x1 := by omega
theorem la_behind_113 {x0 x1 : Int} (h0 : (23 : Int) = 2) : 5 * x0 + 1 = 5 * x1 + 0 := by omega
theorem la_behind_114 {x0 x1 : Int} (h0 : (23 : Int) = 2) : 5 * x0 + 1 = 5 * x1 + 1 := by omega
theorem la_behind_115 {x0 : Int} (h0 : (23 : Int) = 2) : 0 ≤ x0 := by omega
theorem la_behind_116 {x0 x1 : Int} (h0 : (23 : Int) = 2) : x0 = 7 ∧ x1 = 0 := by omega
theorem la_behind_117 {x0 : Int} (h0 : (23 : Int) = 2) : x0 = 3 := by omega
theorem la_behind_118 {x0 : Int} (h0 : (23 : Int) = 2) : x0 = 4 ∨ x0 = 5 ∨ x0 = 8 ∨ x0 = 9 := by omega
theorem la_behind_119 (h0 : (23 : Int) = 2) : False := by omega
theorem la_behind_120 : ¬ (23 : Int) = 29 := by omega
theorem la_behind_121 : ¬ (23 : Int) = 17 := by omega
theorem la_behind_122 {x0 x1 x2 : Int} : (23 : Int) = 17 → 0 ≤ x0 → x1 < x2 := by omega
theorem la_behind_123 {x0 : Int} (h0 : x0 = 3) : ¬ (x0 = 7 ∨ x0 = 8 ∨ x0 = 11 ∨ x0 = 12 ∨ x0 = 13) := by omega
theorem la_behind_124 {x0 : Int} (h0 : x0 = 3) : ¬ x0 = 8 := by omega
theorem la_behind_125 {x0 : Int} (h0 : x0 = 3) : ¬ (x0 = 4 ∨ x0 = 5 ∨ x0 = 8 ∨ x0 = 9) := by omega
theorem la_behind_126 : (0 : Int) ≤ 17 := by omega
theorem la_behind_127 : (17 : Int) ≤ 30 := by omega
theorem la_behind_128 {x0 x1 x2 x3 x4 x5 x6 x7 x8 x9 : Int} (h0 : 1 + x0 ≤ x1) (h1 : 0 ≤ x2 → x3 ≤ x1 - (1 + x0)) (h2 : 0 ≤ x4 → x5 ≤ x1 - (1 + x0)) (h3 : 0 ≤ x0) (h4 : x0 = 0) (h5 : x6 = (-1)) (h6 : x7 = x2) (h7 : (0 ≤ x4 → x5 < x1) → x8 = x4) : 1 ≤ x1 ∧ (0 ≤ x2 → x3 ≤ x1 - 1) ∧ (0 ≤ x4 ∧ x5 = x1 ∧ x1 + x6 = x1 - 1 ∧ x7 = x2 ∧ x8 = x9 ∨ (0 ≤ x4 → x5 ≤ x1 - 1) ∧ x1 + x6 = x1 - 1 ∧ x7 = x2 ∧ x8 = x4) := by omega
theorem la_behind_129 {x0 x1 x2 : Int} : (21 : Int) ≤ 17 ∧ (17 : Int) ≤ 24 ∨ (17 : Int) = 27 ∨ (17 : Int) = 30 → (0 : Int) ≤ 0 ∧ 0 < x0 ∧ x1 = x2 := by omega
theorem la_behind_130 : ¬ (17 : Int) = 1 := by omega
theorem la_behind_131 {x0 x1 : Int} (h0 : (17 : Int) = 2) : x0 = x1 := by omega
theorem la_behind_132 {x0 : Int} (h0 : (17 : Int) = 2) : 5 * x0 + 1 = 5 * x0 := by omega
theorem la_behind_133 {x0 : Int} (h0 : (17 : Int) = 2) : 5 * x0 + 1 = 5 * x0 + 0 := by omega
theorem la_behind_134 {x0 x1 : Int} (h0 : (17 : Int) = 2) : 5 * x0 + 1 = 5 * x1 := by omega
theorem la_behind_135 {x0 x1 : Int} (h0 : (17 : Int) = 2) : 5 * x0 + 1 = 5 * x1 + 0 := by omega
theorem la_behind_136 {x0 x1 : Int} (h0 : (17 : Int) = 2) : 5 * x0 + 1 = 5 * x1 + 1 := by omega
theorem la_behind_137 {x0 : Int} (h0 : (17 : Int) = 2) : 0 ≤ x0 := by omega
theorem la_behind_138 {x0 x1 : Int} (h0 : (17 : Int) = 2) : x0 = 7 ∧ x1 = 0 := by omega
theorem la_behind_139 {x0 : Int} (h0 : (17 : Int) = 2) : x0 = 3 := by omega
theorem la_behind_140 {x0 : Int} (h0 : (17 : Int) = 2) : x0 = 4 ∨ x0 = 5 ∨ x0 = 8 ∨ x0 = 9 := by omega
theorem la_behind_141 {x0 x1 x2 : Int} (h0 : (17 : Int) = 2) : 0 ≤ x0 → x1 < x2 := by omega
theorem la_behind_142 (h0 : (17 : Int) = 2) : False := by omega
theorem la_behind_143 {x0 x1 : Int} (h0 : x0 ≤ 600) (h1 : 0 ≤ x1) : 1 + 1 ≤ x1 + (600 - x0) + 8 := by omega
theorem la_behind_144 {x0 x1 x2 x3 : Int} (h0 : x0 ≤ x1) (h1 : x2 < x3) : 12001 * x0 + x2 ≤ 12001 * x1 + x3 := by omega
theorem la_behind_145 : ¬ (17 : Int) = 29 := by omega
theorem la_behind_146 : (17 : Int) = 17 := by omega
theorem la_behind_147 {x0 x1 x2 : Int} (h0 : x0 ≤ x1 + 1) (h1 : x2 < x0) : x2 < x1 + 1 := by omega
theorem la_behind_148 {x0 x1 x2 x3 x4 x5 : Int} (h0 : 0 ≤ x0 → x1 ≤ x2 - (1 + x3)) (h1 : 0 ≤ x3) (h2 : x3 = 0) (h3 : x4 = x5) (h4 : (0 ≤ x0 → x1 < x2) → x5 = x0) (h5 : 0 ≤ x4) : x4 = x0 := by omega
theorem la_behind_149 {x0 x1 x2 x3 x4 x5 x6 x7 x8 x9 : Int} (h0 : 0 ≤ x0 → x1 ≤ x2 - (1 + x3)) (h1 : 0 ≤ x3) (h2 : x4 = x2 + x5) (h3 : x5 = (-1)) (h4 : x6 = x7) (h5 : (0 ≤ x0 → x1 < x2) → x7 = x0) (h6 : 0 ≤ x6) (h7 : x8 = x9) (h8 : x9 = x1) : x8 ≤ x4 := by omega
theorem la_behind_150 {x0 x1 x2 x3 x4 : Int} (h0 : x0 + 3 * (600 - x1) + x2 ≤ 8000) (h1 : x3 ≤ x2) (h2 : x4 = x1 + 1) : x0 + 3 * (600 - x4) + x3 ≤ 8000 := by omega
theorem la_behind_151 {x0 x1 x2 x3 : Int} (h0 : x0 + (600 - x1) + 8 = x2) (h1 : 0 ≤ x0) (h2 : x3 = 4) (h3 : x1 = 600) : x3 < x2 := by omega
theorem la_behind_152 {x0 x1 x2 x3 x4 x5 : Int} (h0 : x0 + (600 - x1) + 8 = x2) (h1 : x3 ≤ x0) (h2 : x4 = x1 + 1) (h3 : x5 = x3 + (600 - x4) + 8) : x5 < x2 := by omega
theorem la_behind_153 {x0 x1 x2 x3 x4 : Int} (h0 : x0 ≤ x1) (h1 : x2 = x3 + 1) (h2 : x4 = x0 + (600 - x2) + 8) : x4 + 1 ≤ x1 + (600 - x3) + 8 := by omega
theorem la_behind_154 {x0 x1 : Int} (h0 : x0 = 0) (h1 : x1 ≤ 1) : x0 = 1 → x1 = 1 := by omega
theorem la_behind_155 {x0 x1 x2 : Int} (h0 : x0 = 0) : x0 = 1 → x1 = x2 := by omega
theorem la_behind_156 {x0 x1 x2 x3 x4 x5 x6 x7 : Int} (h0 : x0 ≤ 600) (h1 : 0 ≤ x1) (h2 : x2 ≤ x1) (h3 : 0 ≤ x3) (h4 : x3 ≤ 1) (h5 : x0 ≤ x4) (h6 : x3 = 1 → x5 = x6) (h7 : x3 = 0 → x5 ≤ x6 + 3 * (600 - x4) + x2) : x7 = 0 → x5 ≤ x6 + 3 * (600 - x0) + x1 := by omega
theorem la_behind_157 {x0 x1 x2 x3 : Int} (h0 : x0 ≤ x1 + 1) (h1 : x2 = x3) (h2 : x3 < x0) : x2 < x1 + 1 := by omega
theorem la_behind_158 {x0 x1 x2 x3 x4 x5 : Int} (h0 : 0 ≤ x0 → x1 ≤ x2 - (1 + x3)) (h1 : x3 = 0) (h2 : (-1) ≤ x4) (h3 : x4 = x5) (h4 : (0 ≤ x0 → x1 < x2) → x5 = x0) : x4 = x0 := by omega
theorem la_behind_159 {x0 x1 x2 x3 x4 x5 x6 : Int} (h0 : 0 ≤ x0 → x1 ≤ x2 - (1 + x3)) (h1 : 0 ≤ x3) (h2 : (-1) ≤ x4) (h3 : x4 = x5) (h4 : x5 = x6) (h5 : (0 ≤ x0 → x1 < x2) → x6 = x0) : x4 = x0 := by omega
theorem la_behind_160 {x0 x1 x2 x3 x4 x5 x6 : Int} (h0 : 0 ≤ x0 → x1 ≤ x2 - (1 + x3)) (h1 : 0 ≤ x3) (h2 : x3 = 0) (h3 : (-1) ≤ x4) (h4 : x4 = x5) (h5 : x5 = x6) (h6 : (0 ≤ x0 → x1 < x2) → x6 = x0) : x4 = x0 := by omega
theorem la_behind_161 {x0 x1 x2 x3 x4 x5 x6 x7 x8 : Int} (h0 : x0 = 0) (h1 : x1 ≤ x2) (h2 : x3 = x4 + 1) (h3 : x5 = x6 + x7) (h4 : x7 = (-1)) : 2 * x5 + (x8 - x3) + 8 * x1 + 10 ≤ 2 * (x6 - (1 + x0)) + (1 + x0) + (x8 - x4) + 8 * x2 + 10 := by omega
theorem la_behind_162 {x0 x1 x2 x3 x4 : Int} (h0 : x0 ≤ x1 + 3 * (x2 - x3)) (h1 : x3 = x4 + 1) : x0 ≤ x1 + 3 * (x2 - x4) := by omega
theorem la_behind_163 {x0 : Int} (h0 : x0 = 7) : ¬ x0 = 3 := by omega
theorem la_behind_164 {x0 : Int} (h0 : x0 = 7) : ¬ x0 = 8 := by omega
theorem la_behind_165 {x0 : Int} (h0 : x0 = 7) : ¬ (x0 = 4 ∨ x0 = 5 ∨ x0 = 8 ∨ x0 = 9) := by omega
theorem la_behind_166 {x0 : Int} (h0 : x0 = 7) : ¬ (x0 = 8 ∨ x0 = 11 ∨ x0 = 12 ∨ x0 = 13) := by omega
theorem la_behind_167 {x0 x1 x2 x3 : Int} (h0 : x0 ≤ x1 - 1) (h1 : x2 < x3) : 12001 * x0 + x2 ≤ 12001 * x1 + x3 := by omega
theorem la_behind_168 {x0 x1 x2 x3 : Int} (h0 : 0 ≤ x0 → x1 ≤ x2 - (1 + x3)) (h1 : x3 = 0) : 0 ≤ x0 → x1 ≤ x2 := by omega
theorem la_behind_169 {x0 x1 x2 x3 : Int} (h0 : x0 + 3 * (600 - x1) + x2 ≤ 8000) (h1 : x3 ≤ x2 - 1) : x0 + 3 * (600 - x1) + x3 ≤ 8000 := by omega
theorem la_behind_170 {x0 x1 x2 : Int} (h0 : x0 ≤ 600) (h1 : 0 ≤ x1) (h2 : x2 = x1 + (600 - x0) + 8) : 0 ≤ x2 := by omega
theorem la_behind_171 {x0 x1 x2 x3 x4 : Int} (h0 : x0 + (600 - x1) + 8 = x2) (h1 : x3 ≤ x0 - 1) (h2 : x4 = x3 + (600 - x1) + 8) : x4 < x2 := by omega
theorem la_behind_172 {x0 x1 x2 x3 : Int} (h0 : x0 ≤ x1 - 1) (h1 : x2 = x0 + (600 - x3) + 8) : x2 + 1 ≤ x1 + (600 - x3) + 8 := by omega
theorem la_behind_173 : (0 : Int) ≤ 10 := by omega
theorem la_behind_174 : (10 : Int) ≤ 30 := by omega
theorem la_behind_175 {x0 x1 x2 x3 x4 x5 x6 x7 x8 x9 x10 x11 x12 x13 : Int} (h0 : 1 + x0 ≤ x1) (h1 : 0 ≤ x2 → x3 ≤ x1 - (1 + x0)) (h2 : 0 ≤ x4 → x5 ≤ x1 - (1 + x0)) (h3 : 0 ≤ x0) (h4 : x6 = x1 + 1) (h5 : x7 = x2) (h6 : x8 = x4) (h7 : x9 = x3) (h8 : x10 = x5) (h9 : x11 = (-1)) (h10 : x12 = x7) (h11 : x13 = x8) : (0 ≤ x6 - 2 ∧ (0 ≤ x7 → x9 ≤ x6 - 2) ∧ (0 ≤ x8 → x10 ≤ x6 - 2)) ∧ x6 + x11 = x6 - 1 ∧ x12 = x7 ∧ x13 = x8 := by omega
theorem la_behind_176 {x0 x1 x2 : Int} : (21 : Int) ≤ 10 ∧ (10 : Int) ≤ 24 ∨ (10 : Int) = 27 ∨ (10 : Int) = 30 → (0 : Int) ≤ 0 ∧ 0 < x0 ∧ x1 = x2 := by omega
theorem la_behind_177 : ¬ (10 : Int) = 1 := by omega
theorem la_behind_178 {x0 x1 : Int} (h0 : (10 : Int) = 2) : x0 < x1 + 1 := by omega
theorem la_behind_179 {x0 : Int} (h0 : (10 : Int) = 2) : 0 ≤ x0 := by omega
theorem la_behind_180 {x0 x1 : Int} (h0 : (10 : Int) = 2) : x0 = 7 ∧ x1 = 0 := by omega
theorem la_behind_181 {x0 : Int} (h0 : (10 : Int) = 2) : x0 = 3 := by omega
theorem la_behind_182 {x0 : Int} (h0 : (10 : Int) = 2) : x0 = 4 ∨ x0 = 5 ∨ x0 = 8 ∨ x0 = 9 := by omega
theorem la_behind_183 {x0 x1 : Int} (h0 : (10 : Int) = 2) : x0 = x1 := by omega
theorem la_behind_184 {x0 : Int} (h0 : (10 : Int) = 2) : 5 * x0 + 1 = 5 * x0 := by omega
theorem la_behind_185 {x0 : Int} (h0 : (10 : Int) = 2) : 5 * x0 + 1 = 5 * x0 + 0 := by omega
theorem la_behind_186 {x0 x1 : Int} (h0 : (10 : Int) = 2) : 5 * x0 + 1 = 5 * x1 := by omega
theorem la_behind_187 {x0 x1 : Int} (h0 : (10 : Int) = 2) : 5 * x0 + 1 = 5 * x1 + 0 := by omega
theorem la_behind_188 {x0 x1 : Int} (h0 : (10 : Int) = 2) : 5 * x0 + 1 = 5 * x1 + 1 := by omega
theorem la_behind_189 (h0 : (10 : Int) = 2) : False := by omega
theorem la_behind_190 {x0 x1 x2 x3 x4 x5 : Int} (h0 : x0 ≤ x1 - 1) (h1 : x2 ≤ x3 + 3 * (600 - x4) + x0) : x5 = 0 → x2 ≤ x3 + 3 * (600 - x4) + x1 := by omega
theorem la_behind_191 : ¬ (10 : Int) = 29 := by omega
theorem la_behind_192 : ¬ (10 : Int) = 17 := by omega
theorem la_behind_193 {x0 x1 x2 : Int} : (10 : Int) = 17 → 0 ≤ x0 → x1 < x2 := by omega
theorem la_behind_194 {x0 x1 x2 : Int} (h0 : x0 = x1 + 1) (h1 : x2 ≤ x1) : x2 ≤ x0 := by omega
theorem la_behind_195 {x0 x1 x2 : Int} (h0 : x0 = x1 + 1) (h1 : x2 + 1 ≤ x1) : x2 + 1 ≤ x0 := by omega
theorem la_behind_196 {x0 x1 : Int} (h0 : x0 + 1 ≤ x1) : x0 < x1 := by omega
theorem la_behind_197 {x0 x1 x2 x3 x4 : Int} (h0 : 0 ≤ x0) (h1 : x0 = 0) (h2 : x1 = x2 + x3) (h3 : x3 = (-1)) (h4 : x2 = x4 + 1) : x1 = x4 + (0 - x0) := by omega
theorem la_behind_198 {x0 x1 x2 : Int} (h0 : x0 = x1) (h1 : x2 = x0) : x2 = x1 := by omega
theorem la_behind_199 {x0 x1 : Int} (h0 : x0 + 1 ≤ x1) : x0 < x1 + 1 := by omega
theorem la_behind_200 {x0 x1 x2 x3 x4 x5 : Int} (h0 : 0 ≤ x0) (h1 : x1 = 0) (h2 : x2 = x3 + 1) (h3 : x4 + 1 ≤ x3) : 2 * x5 ≤ 2 * (x5 - (1 + x1)) + (1 + x1) + (x2 - x4) + 8 * x0 + 10 := by omega
theorem la_behind_201 {x0 x1 : Int} (h0 : x0 + 1 ≤ x1) : x0 + 1 < x1 + 1 := by omega
theorem la_behind_202 {x0 : Int} : x0 ≤ x0 + 1 := by omega
theorem la_behind_203 {x0 x1 x2 x3 x4 x5 x6 : Int} (h0 : x0 = 0) (h1 : x1 ≤ x2) (h2 : x3 = x4 + 1) : 2 * x5 + (x4 - x6) + 8 * x1 + 10 ≤ 2 * (x5 - (1 + x0)) + (1 + x0) + (x3 - x6) + 8 * x2 + 10 := by omega
theorem la_behind_204 {x0 x1 x2 x3 x4 x5 x6 : Int} (h0 : 0 ≤ x0) (h1 : x1 = 0) (h2 : x2 = x3 + 1) (h3 : x4 + 1 ≤ x3) (h4 : x5 = x6 + 1) : 2 * x5 ≤ 2 * (x6 - (1 + x1)) + (1 + x1) + (x2 - x4) + 8 * x0 + 10 := by omega
theorem la_behind_205 {x0 x1 x2 x3 x4 : Int} (h0 : x0 = x1 + 1) (h1 : x2 ≤ x3 + 3 * (x1 - x4)) : x2 ≤ x3 + 3 * (x0 - x4) := by omega
theorem la_behind_206 {x0 : Int} (h0 : x0 = 11) : ¬ x0 = 3 := by omega
theorem la_behind_207 {x0 : Int} (h0 : x0 = 11) : ¬ x0 = 8 := by omega
theorem la_behind_208 {x0 : Int} (h0 : x0 = 11) : ¬ (x0 = 4 ∨ x0 = 5 ∨ x0 = 8 ∨ x0 = 9) := by omega
theorem la_behind_209 {x0 : Int} (h0 : x0 = 11) : ¬ x0 = 7 := by omega
theorem la_behind_210 {x0 : Int} (h0 : x0 = 11) : ¬ (x0 = 12 ∨ x0 = 13) := by omega
theorem la_behind_211 {x0 x1 x2 : Int} (h0 : x0 ≤ 12000) (h1 : x1 < x0) (h2 : 0 ≤ x2) (h3 : x2 < x1) : 0 ≤ x1 ∧ x1 < 12000 ∧ (0 : Int) ≤ 2 ∧ (2 : Int) ≤ 4 := by omega
theorem la_behind_212 : (0 : Int) ≤ 14 := by omega
theorem la_behind_213 : (14 : Int) ≤ 30 := by omega
theorem la_behind_214 {x0 x1 x2 x3 x4 x5 x6 x7 x8 x9 x10 x11 x12 x13 x14 : Int} (h0 : 1 + x0 ≤ x1) (h1 : 0 ≤ x2 → x3 ≤ x1 - (1 + x0)) (h2 : 0 ≤ x4 → x5 ≤ x1 - (1 + x0)) (h3 : 0 ≤ x0) (h4 : 0 ≤ x6) (h5 : x6 ≤ 20) (h6 : x7 = x1 + 1) (h7 : x8 = x2) (h8 : x9 = x4) (h9 : x10 = x3) (h10 : x11 = x5) (h11 : x12 = (-1)) (h12 : x13 = x8) (h13 : x14 = x9) : (0 ≤ x6 ∧ x6 ≤ 20) ∧ (0 ≤ x7 - 2 ∧ (0 ≤ x8 → x10 ≤ x7 - 2) ∧ (0 ≤ x9 → x11 ≤ x7 - 2)) ∧ x7 + x12 = x7 - 1 ∧ x13 = x8 ∧ x14 = x9 := by omega
theorem la_behind_215 {x0 x1 x2 x3 : Int} : (21 : Int) ≤ 14 ∧ (14 : Int) ≤ 24 ∨ (14 : Int) = 27 ∨ (14 : Int) = 30 → 0 ≤ x0 ∧ x0 < x1 ∧ x2 = x3 := by omega
theorem la_behind_216 : ¬ (14 : Int) = 1 := by omega
theorem la_behind_217 {x0 x1 : Int} (h0 : (14 : Int) = 2) : x0 < x1 + 1 := by omega
theorem la_behind_218 {x0 : Int} (h0 : (14 : Int) = 2) : 0 ≤ x0 := by omega
theorem la_behind_219 {x0 x1 : Int} (h0 : (14 : Int) = 2) : x0 = 7 ∧ x1 = 0 := by omega
theorem la_behind_220 {x0 : Int} (h0 : (14 : Int) = 2) : x0 = 3 := by omega
theorem la_behind_221 {x0 : Int} (h0 : (14 : Int) = 2) : x0 = 4 ∨ x0 = 5 ∨ x0 = 8 ∨ x0 = 9 := by omega
theorem la_behind_222 {x0 x1 : Int} (h0 : (14 : Int) = 2) : x0 = x1 := by omega
theorem la_behind_223 {x0 x1 : Int} (h0 : (14 : Int) = 2) : 5 * x0 + 1 = 5 * x1 := by omega
theorem la_behind_224 {x0 x1 : Int} (h0 : (14 : Int) = 2) : 5 * x0 + 0 = 5 * x1 + 1 := by omega
theorem la_behind_225 {x0 : Int} (h0 : (14 : Int) = 2) : 5 * x0 + 1 = 5 * x0 := by omega
theorem la_behind_226 {x0 x1 : Int} (h0 : (14 : Int) = 2) : 5 * x0 + 1 = 5 * x1 + 1 := by omega
theorem la_behind_227 {x0 : Int} (h0 : (14 : Int) = 2) : 5 * x0 + 1 = 5 * x0 + 0 := by omega
theorem la_behind_228 {x0 : Int} (h0 : (14 : Int) = 2) : 5 * x0 + 2 = 5 * x0 := by omega
theorem la_behind_229 {x0 x1 : Int} (h0 : (14 : Int) = 2) : 5 * x0 + 2 = 5 * x1 + 1 := by omega
theorem la_behind_230 {x0 : Int} (h0 : (14 : Int) = 2) : 5 * x0 + 2 = 5 * x0 + 0 := by omega
theorem la_behind_231 {x0 : Int} (h0 : (14 : Int) = 2) : 5 * x0 + 2 = 5 * x0 + 1 := by omega
theorem la_behind_232 (h0 : (14 : Int) = 2) : False := by omega
theorem la_behind_233 : ¬ (14 : Int) = 29 := by omega
theorem la_behind_234 : ¬ (14 : Int) = 17 := by omega
theorem la_behind_235 {x0 x1 x2 : Int} : (14 : Int) = 17 → 0 ≤ x0 → x1 < x2 := by omega
theorem la_behind_236 {x0 : Int} (h0 : x0 = 8) : ¬ x0 = 3 := by omega
theorem la_behind_237 {x0 : Int} (h0 : x0 = 8) : ¬ ¬ x0 = 8 := by omega
theorem la_behind_238 {x0 : Int} (h0 : x0 = 8) : x0 = 4 ∨ x0 = 5 ∨ x0 = 8 ∨ x0 = 9 := by omega
theorem la_behind_239 {x0 : Int} (h0 : x0 = 8) : ¬ x0 = 7 := by omega
theorem la_behind_240 {x0 : Int} (h0 : x0 = 8) : ¬ (x0 = 11 ∨ x0 = 12 ∨ x0 = 13) := by omega
theorem la_behind_241 {x0 x1 : Int} (h0 : x0 ≤ 12000) (h1 : x1 < x0) : x1 < 12000 := by omega
theorem la_behind_242 {x0 x1 x2 : Int} (h0 : x0 = x1) (h1 : 0 ≤ x1) (h2 : x0 = x2) : 0 ≤ x2 := by omega
theorem la_behind_243 {x0 x1 x2 x3 x4 : Int} (h0 : x0 ≤ 12000) (h1 : x1 < x0) (h2 : x2 = x3) (h3 : x3 < x1) (h4 : x2 = x4) : x4 < 12000 := by omega
theorem la_behind_244 {x0 : Int} (h0 : (-1) ≤ x0) (h1 : ¬ x0 = (-1)) : (-1) < x0 := by omega
theorem la_behind_245 {x0 : Int} (h0 : (-1) < x0) : 0 ≤ x0 := by omega
theorem la_behind_246 {x0 : Int} (h0 : x0 = 3) : ¬ x0 = 1 := by omega
theorem la_behind_247 {x0 : Int} (h0 : x0 = 3) : ¬ x0 = 2 := by omega
theorem la_behind_248 {x0 : Int} (h0 : x0 = 3) : ¬ x0 = 6 := by omega
theorem la_behind_249 {x0 x1 x2 x3 x4 : Int} (h0 : 17 * x0 + 2 ≤ x1) (h1 : 0 ≤ x2) (h2 : x2 < x3) (h3 : x4 ≤ x0 - 1) : 12001 * (17 * x4 + 18) ≤ 12001 * x1 + x3 := by omega
theorem la_behind_250 {x0 x1 x2 x3 : Int} (h0 : 0 ≤ x0 → x1 ≤ x2 - (1 + x3)) (h1 : x3 = 1) : 0 ≤ x0 → x1 ≤ x2 := by omega
theorem la_behind_251 {x0 : Int} (h0 : x0 = (-1)) : ¬ 0 ≤ x0 := by omega
theorem la_behind_252 {x0 x1 x2 x3 : Int} (h0 : x0 + 3 * (600 - x1) + x2 ≤ 8000) (h1 : 0 ≤ x2) (h2 : x3 = 0) : x0 + 3 * (600 - x1) + x3 ≤ 8000 := by omega
theorem la_behind_253 {x0 x1 x2 x3 x4 x5 : Int} (h0 : x0 + 3 * (600 - x1) + x2 ≤ 8000) (h1 : 17 * x3 + 2 ≤ x2) (h2 : x4 = 17 * x5 + 17) (h3 : x5 ≤ x3 - 1) : x0 + 3 * (600 - x1) + x4 ≤ 8000 := by omega
theorem la_behind_254 {x0 x1 x2 : Int} (h0 : x0 ≤ 600) (h1 : x1 = x2 + (600 - x0) + 9) (h2 : x2 = 0) : 0 ≤ x1 := by omega
theorem la_behind_255 {x0 x1 x2 x3 : Int} (h0 : x0 ≤ 600) (h1 : x1 = x2 + (600 - x0) + 9) (h2 : x2 = 17 * x3 + 17) (h3 : 0 ≤ x3) : 0 ≤ x1 := by omega
theorem la_behind_256 {x0 x1 x2 x3 x4 x5 : Int} (h0 : x0 + (600 - x1) + 8 = x2) (h1 : 0 ≤ x3) (h2 : 17 * x3 + 2 ≤ x0) (h3 : x4 = x5 + (600 - x1) + 9) (h4 : x5 = 0) : x4 < x2 := by omega
theorem la_behind_257 {x0 x1 x2 x3 x4 x5 x6 : Int} (h0 : x0 + (600 - x1) + 8 = x2) (h1 : 17 * x3 + 2 ≤ x0) (h2 : x4 = x5 + (600 - x1) + 9) (h3 : x5 = 17 * x6 + 17) (h4 : x6 ≤ x3 - 1) : x4 < x2 := by omega
theorem la_behind_258 {x0 x1 x2 x3 x4 : Int} (h0 : 0 ≤ x0) (h1 : 17 * x0 + 2 ≤ x1) (h2 : x2 = x3 + (600 - x4) + 9) (h3 : x3 = 0) : x2 + 1 ≤ x1 + (600 - x4) + 8 := by omega
theorem la_behind_259 {x0 x1 x2 x3 x4 x5 : Int} (h0 : 17 * x0 + 2 ≤ x1) (h1 : x2 = x3 + (600 - x4) + 9) (h2 : x3 = 17 * x5 + 17) (h3 : x5 ≤ x0 - 1) : x2 + 1 ≤ x1 + (600 - x4) + 8 := by omega
theorem la_behind_260 : (0 : Int) ≤ 15 := by omega
theorem la_behind_261 : (15 : Int) ≤ 30 := by omega
theorem la_behind_262 {x0 x1 x2 x3 x4 x5 x6 x7 x8 x9 x10 x11 x12 x13 x14 : Int} (h0 : 1 + x0 ≤ x1) (h1 : 0 ≤ x2 → x3 ≤ x1 - (1 + x0)) (h2 : 0 ≤ x4 → x5 ≤ x1 - (1 + x0)) (h3 : x0 = 1) (h4 : 0 ≤ x6) (h5 : x6 ≤ 8) (h6 : x7 = x1 + x6) (h7 : x8 = x2) (h8 : x9 = x4) (h9 : x10 = x3) (h10 : x11 = x5) (h11 : x12 = -x6 - 1) (h12 : x13 = x8) (h13 : x14 = x9) : (0 ≤ x6 ∧ x6 ≤ 8) ∧ (0 ≤ x7 - x6 - 2 ∧ (0 ≤ x8 → x10 ≤ x7 - x6 - 2) ∧ (0 ≤ x9 → x11 ≤ x7 - x6 - 2)) ∧ x7 + x12 = x7 - x6 - 1 ∧ x13 = x8 ∧ x14 = x9 := by omega
theorem la_behind_263 {x0 x1 x2 x3 : Int} : (21 : Int) ≤ 15 ∧ (15 : Int) ≤ 24 ∨ (15 : Int) = 27 ∨ (15 : Int) = 30 → 0 ≤ x0 ∧ x0 < x1 ∧ x2 = x3 := by omega
theorem la_behind_264 : ¬ (15 : Int) = 1 := by omega
theorem la_behind_265 {x0 x1 : Int} (h0 : (15 : Int) = 2) : x0 < x1 + 1 := by omega
theorem la_behind_266 {x0 : Int} (h0 : (15 : Int) = 2) : ¬ x0 = (-1) := by omega
theorem la_behind_267 {x0 : Int} (h0 : (15 : Int) = 2) : x0 = (-1) := by omega
theorem la_behind_268 {x0 : Int} (h0 : (15 : Int) = 2) : 0 ≤ x0 := by omega
theorem la_behind_269 {x0 x1 x2 : Int} (h0 : (15 : Int) = 2) : ¬ x0 = (-1) → x1 ≤ x2 - 1 := by omega
theorem la_behind_270 {x0 : Int} (h0 : (15 : Int) = 2) : x0 = 1 := by omega
theorem la_behind_271 {x0 : Int} (h0 : (15 : Int) = 2) : x0 = 2 := by omega
theorem la_behind_272 {x0 : Int} (h0 : (15 : Int) = 2) : x0 = 6 := by omega
theorem la_behind_273 {x0 : Int} (h0 : (15 : Int) = 2) : x0 = 3 := by omega
theorem la_behind_274 {x0 : Int} (h0 : (15 : Int) = 2) : x0 = 4 ∨ x0 = 5 ∨ x0 = 8 ∨ x0 = 9 := by omega
theorem la_behind_275 {x0 : Int} (h0 : (15 : Int) = 2) : x0 = 33 := by omega
theorem la_behind_276 {x0 x1 : Int} (h0 : (15 : Int) = 2) : x0 = x1 := by omega
theorem la_behind_277 {x0 : Int} (h0 : (15 : Int) = 2) : 5 * x0 + 1 = 5 * x0 := by omega
theorem la_behind_278 {x0 : Int} (h0 : (15 : Int) = 2) : 5 * x0 + 1 = 5 * x0 + 0 := by omega
theorem la_behind_279 {x0 x1 : Int} (h0 : (15 : Int) = 2) : 5 * x0 + 1 = 5 * x1 := by omega
theorem la_behind_280 {x0 x1 : Int} (h0 : (15 : Int) = 2) : 5 * x0 + 1 = 5 * x1 + 0 := by omega
theorem la_behind_281 {x0 x1 : Int} (h0 : (15 : Int) = 2) : 5 * x0 + 1 = 5 * x1 + 1 := by omega
theorem la_behind_282 {x0 : Int} (h0 : (15 : Int) = 2) : x0 = 7 := by omega
theorem la_behind_283 {x0 : Int} (h0 : (15 : Int) = 2) : x0 ≤ 0 := by omega
theorem la_behind_284 {x0 : Int} (h0 : x0 ≤ 0) (h1 : ¬ x0 = 0) : x0 < 0 := by omega
theorem la_behind_285 (h0 : (15 : Int) = 2) : False := by omega
theorem la_behind_286 {x0 x1 x2 : Int} (h0 : (-1) ≤ x0) (h1 : x0 = (-1)) : ¬ x0 = (-1) → x1 ≤ x2 - 1 := by omega
theorem la_behind_287 {x0 x1 x2 x3 x4 : Int} (h0 : 0 ≤ x0) (h1 : x1 ≤ x2 + 3 * (600 - x3) + x4) (h2 : x4 = 0) : x1 ≤ x2 + 3 * (600 - x3) + x0 := by omega
theorem la_behind_288 {x0 x1 x2 : Int} (h0 : (-1) < x0) (h1 : x1 ≤ x2 - 1) : ¬ x0 = (-1) → x1 ≤ x2 - 1 := by omega
theorem la_behind_289 {x0 x1 x2 x3 x4 x5 x6 : Int} (h0 : 17 * x0 + 2 ≤ x1) (h1 : x2 ≤ x3 + 3 * (600 - x4) + x5) (h2 : x5 = 17 * x6 + 17) (h3 : x6 ≤ x0 - 1) : x2 ≤ x3 + 3 * (600 - x4) + x1 := by omega
theorem la_behind_290 : ¬ (15 : Int) = 29 := by omega
theorem la_behind_291 : ¬ (15 : Int) = 17 := by omega
theorem la_behind_292 {x0 x1 x2 : Int} : (15 : Int) = 17 → 0 ≤ x0 → x1 < x2 := by omega
theorem la_behind_293 {x0 x1 x2 x3 x4 x5 : Int} (h0 : 0 ≤ x0) (h1 : x1 ≤ 600) (h2 : x1 = x2 + 1) (h3 : x3 ≤ x4 + 3 * (x2 - x5)) : x3 ≤ x4 + 3 * (600 - x5) + x0 := by omega
theorem la_behind_294 {x0 x1 x2 : Int} (h0 : x0 ≤ x1) (h1 : x2 = x1 + 1) : x0 + 1 ≤ x2 := by omega
theorem la_behind_295 {x0 x1 x2 x3 x4 x5 : Int} (h0 : x0 ≤ 1) (h1 : x0 = 1) (h2 : x1 = x2 + x3) (h3 : x3 = -x4 - 1) (h4 : x2 = x5 + x4) : x1 = x5 + (0 - x0) := by omega
theorem la_behind_296 {x0 x1 : Int} (h0 : x0 ≤ x1) : x0 < x1 + 1 := by omega
theorem la_behind_297 {x0 x1 x2 x3 x4 x5 : Int} (h0 : x0 ≤ 1) (h1 : 0 ≤ x1) (h2 : x2 ≤ x3) (h3 : x4 = x3 + 1) : 2 * x5 ≤ 2 * (x5 - (1 + x0)) + (1 + x0) + (x4 - x2) + 8 * x1 + 10 := by omega
theorem la_behind_298 {x0 x1 x2 : Int} (h0 : x0 < x1) (h1 : x2 = x0) : x2 < x1 + 1 := by omega
theorem la_behind_299 {x0 x1 x2 x3 : Int} (h0 : x0 = x1) (h1 : x1 = x2) (h2 : x2 < x3) : x0 < x3 + 1 := by omega
theorem la_behind_300 {x0 : Int} (h0 : 0 ≤ x0) : ¬ x0 = (-1) := by omega
theorem la_behind_301 {x0 x1 x2 : Int} (h0 : 0 ≤ x0) (h1 : x1 ≤ x2 - 1) : ¬ x0 = (-1) → x1 ≤ x2 - 1 := by omega
theorem la_behind_302 {x0 x1 x2 x3 x4 x5 x6 : Int} (h0 : x0 ≤ 1) (h1 : x1 ≤ x2) (h2 : x3 = x2 + 1) (h3 : x4 ≤ x5 - 1) (h4 : 0 ≤ x4) : 2 * x6 ≤ 2 * (x6 - (1 + x0)) + (1 + x0) + (x3 - x1) + 8 * x5 + 10 := by omega
theorem la_behind_303 {x0 x1 x2 x3 x4 x5 x6 : Int} (h0 : x0 ≤ 1) (h1 : x1 = x2 + 1) (h2 : x3 ≤ 8 * x4 + 9) : 2 * x5 + (x2 - x6) + x3 ≤ 2 * (x5 - (1 + x0)) + (1 + x0) + (x1 - x6) + 8 * x4 + 10 := by omega
theorem la_behind_304 {x0 x1 x2 x3 x4 x5 x6 x7 x8 : Int} (h0 : x0 = 1) (h1 : x1 ≤ 8) (h2 : x2 = x3 + 1) (h3 : x4 + x1 ≤ x3) (h4 : x5 = x6 + x1) (h5 : x7 ≤ x8 - 1) (h6 : 0 ≤ x7) : 2 * x5 ≤ 2 * (x6 - (1 + x0)) + (1 + x0) + (x2 - x4) + 8 * x8 + 10 := by omega
theorem la_behind_305 {x0 : Int} (h0 : (-1) ≤ x0) (h1 : ¬ 0 ≤ x0) : x0 = (-1) := by omega
theorem la_behind_306 {x0 x1 x2 : Int} (h0 : (-1) ≤ x0) (h1 : ¬ 0 ≤ x0) : ¬ x0 = (-1) → x1 ≤ x2 - 1 := by omega
theorem la_behind_307 {x0 x1 x2 x3 x4 x5 x6 : Int} (h0 : 0 ≤ x0) (h1 : x1 = 1) (h2 : x2 = x3 + 1) (h3 : x4 = 0) : 2 * x5 + (x3 - x6) + x4 ≤ 2 * (x5 - (1 + x1)) + (1 + x1) + (x2 - x6) + 8 * x0 + 10 := by omega
theorem la_behind_308 {x0 x1 x2 x3 x4 x5 x6 x7 : Int} (h0 : x0 ≤ 1) (h1 : 0 ≤ x1) (h2 : x2 ≤ 8) (h3 : x3 = x4 + 1) (h4 : x5 + x2 ≤ x4) (h5 : x6 = x7 + x2) : 2 * x6 ≤ 2 * (x7 - (1 + x0)) + (1 + x0) + (x3 - x5) + 8 * x1 + 10 := by omega
theorem la_behind_309 {x0 x1 : Int} (h0 : x0 = 7) (h1 : x1 = 0) : x0 = 7 ∧ x1 = 0 := by omega
theorem la_behind_310 {x0 x1 : Int} (h0 : x0 = 7) (h1 : x1 = 0) : ¬ ¬ (x0 = 7 ∧ x1 = 0) := by omega
theorem la_behind_311 : (0 : Int) ≤ 18 := by omega
theorem la_behind_312 : (18 : Int) ≤ 30 := by omega
theorem la_behind_313 {x0 x1 x2 x3 x4 x5 x6 x7 x8 : Int} (h0 : 1 + x0 ≤ x1) (h1 : 0 ≤ x2 → x3 ≤ x1 - (1 + x0)) (h2 : 0 ≤ x4 → x5 ≤ x1 - (1 + x0)) (h3 : 0 ≤ x0) (h4 : x6 = 1) (h5 : x7 = x2) (h6 : x8 = x4) : (0 ≤ x1 - 1 ∧ (0 ≤ x2 → x3 ≤ x1 - 1) ∧ (0 ≤ x4 → x5 ≤ x1 - 1)) ∧ x1 + x6 = x1 + 1 ∧ x7 = x2 ∧ x8 = x4 := by omega
theorem la_behind_314 {x0 x1 x2 : Int} : (21 : Int) ≤ 18 ∧ (18 : Int) ≤ 24 ∨ (18 : Int) = 27 ∨ (18 : Int) = 30 → (0 : Int) ≤ 0 ∧ 0 < x0 ∧ x1 = x2 := by omega
theorem la_behind_315 : ¬ (18 : Int) = 1 := by omega
theorem la_behind_316 {x0 : Int} (h0 : (18 : Int) = 2) : ¬ x0 = (-1) := by omega
theorem la_behind_317 {x0 : Int} (h0 : (18 : Int) = 2) : 0 ≤ x0 := by omega
theorem la_behind_318 {x0 : Int} (h0 : (18 : Int) = 2) : x0 = 3 := by omega
theorem la_behind_319 {x0 : Int} (h0 : (18 : Int) = 2) : x0 = 4 ∨ x0 = 5 ∨ x0 = 8 ∨ x0 = 9 := by omega
theorem la_behind_320 {x0 : Int} (h0 : (18 : Int) = 2) : x0 = 1 := by omega
theorem la_behind_321 {x0 : Int} (h0 : (18 : Int) = 2) : x0 = 2 := by omega
theorem la_behind_322 {x0 : Int} (h0 : (18 : Int) = 2) : x0 = 6 := by omega
theorem la_behind_323 {x0 : Int} (h0 : (18 : Int) = 2) : x0 = 33 := by omega
theorem la_behind_324 {x0 : Int} (h0 : (18 : Int) = 2) : x0 = (-1) := by omega
theorem la_behind_325 {x0 x1 : Int} (h0 : (18 : Int) = 2) : x0 = x1 := by omega
theorem la_behind_326 {x0 x1 : Int} (h0 : (18 : Int) = 2) : 5 * x0 = 5 * x1 := by omega
theorem la_behind_327 {x0 x1 : Int} (h0 : (18 : Int) = 2) : 5 * x0 + 1 = 5 * x1 := by omega
theorem la_behind_328 {x0 x1 : Int} (h0 : (18 : Int) = 2) : 5 * x0 + 0 = 5 * x1 := by omega
theorem la_behind_329 {x0 x1 : Int} (h0 : (18 : Int) = 2) : 5 * x0 + 0 = 5 * x1 + 1 := by omega
theorem la_behind_330 {x0 : Int} (h0 : (18 : Int) = 2) : 5 * x0 + 1 = 5 * x0 := by omega
theorem la_behind_331 {x0 x1 : Int} (h0 : (18 : Int) = 2) : 5 * x0 + 1 = 5 * x1 + 1 := by omega
theorem la_behind_332 {x0 : Int} (h0 : (18 : Int) = 2) : 5 * x0 + 1 = 5 * x0 + 0 := by omega
theorem la_behind_333 {x0 x1 : Int} (h0 : (18 : Int) = 2) : 5 * x0 + 1 = 5 * x1 + 0 := by omega
theorem la_behind_334 (h0 : (18 : Int) = 2) : False := by omega
theorem la_behind_335 {x0 x1 x2 x3 : Int} (h0 : x0 ≤ 12000) (h1 : x1 < x0) (h2 : x2 < x1) (h3 : 0 ≤ x3) (h4 : x3 < x2) : 0 ≤ x2 ∧ x2 < 12000 ∧ (0 : Int) ≤ 1 ∧ (1 : Int) ≤ 4 := by omega
theorem la_behind_336 {x0 x1 x2 x3 x4 x5 : Int} (h0 : x0 ≤ x1) (h1 : x2 < x3) (h2 : x4 ≤ x0 - 1) (h3 : x5 < x2) : 12001 * x4 + x5 ≤ 12001 * x1 + x3 := by omega
theorem la_behind_337 : ¬ (18 : Int) = 29 := by omega
theorem la_behind_338 : ¬ (18 : Int) = 17 := by omega
theorem la_behind_339 {x0 x1 x2 : Int} : (18 : Int) = 17 → 0 ≤ x0 → x1 < x2 := by omega
theorem la_behind_340 {x0 x1 x2 x3 x4 x5 x6 x7 x8 x9 : Int} (h0 : 0 ≤ x0 → x1 ≤ x2 - (1 + x3)) (h1 : 0 ≤ x3) (h2 : x4 = x2 + x5) (h3 : x5 = 1) (h4 : x6 = x7) (h5 : x7 = x0) (h6 : x8 = x9) (h7 : x9 = x1) : 0 ≤ x6 → x8 ≤ x4 := by omega
theorem la_behind_341 {x0 x1 x2 x3 x4 x5 x6 x7 x8 : Int} (h0 : 0 ≤ x0 → x1 ≤ x2 - (1 + x3)) (h1 : 0 ≤ x3) (h2 : x4 = x2 + x5) (h3 : x5 = 1) (h4 : x6 = x7) (h5 : x7 = x0) (h6 : x8 = x1) : 0 ≤ x6 → x8 ≤ x4 := by omega
theorem la_behind_342 {x0 x1 x2 x3 x4 : Int} (h0 : x0 ≤ x1) (h1 : x2 = x1 + 1) (h2 : x3 = x0 + x4) (h3 : x4 = 1) : x3 ≤ x2 := by omega
theorem la_behind_343 {x0 x1 x2 x3 x4 x5 : Int} (h0 : x0 + 3 * (600 - x1) + x2 ≤ 8000) (h1 : x3 ≤ x2) (h2 : x4 ≤ x3 - 1) (h3 : x5 = x1 + 1) : x0 + 3 * (600 - x5) + x4 ≤ 8000 := by omega
theorem la_behind_344 {x0 x1 x2 : Int} (h0 : x0 = x1) (h1 : x0 = x2) : x1 = x2 := by omega
theorem la_behind_345 {x0 x1 x2 x3 x4 x5 x6 : Int} (h0 : x0 + (600 - x1) + 8 = x2) (h1 : x3 ≤ x0) (h2 : x4 ≤ x3 - 1) (h3 : x5 = x1 + 1) (h4 : x6 = x4 + (600 - x5) + 8) : x6 < x2 := by omega
theorem la_behind_346 {x0 x1 x2 x3 x4 x5 : Int} (h0 : x0 ≤ x1) (h1 : x2 ≤ x0 - 1) (h2 : x3 = x4 + 1) (h3 : x5 = x2 + (600 - x3) + 8) : x5 + 1 ≤ x1 + (600 - x4) + 8 := by omega
theorem la_behind_347 {x0 x1 x2 x3 x4 x5 x6 x7 x8 x9 x10 x11 x12 x13 x14 x15 x16 x17 x18 x19 x20 x21 x22 : Int} (h0 : 0 ≤ x0) (h1 : 0 ≤ x1 → x2 ≤ x0 - (1 + x3)) (h2 : 0 ≤ x4 → x5 ≤ x0 - (1 + x3)) (h3 : 0 ≤ x3) (h4 : x6 = x7 + 1) (h5 : x8 = x9) (h6 : x10 = x11) (h7 : x12 = x13) (h8 : x14 = x15) (h9 : x7 = x0 + x16) (h10 : x16 = 1) (h11 : x9 = x17) (h12 : x17 = x1) (h13 : x11 = x18) (h14 : x18 = x4) (h15 : x13 = x19) (h16 : x19 = x2) (h17 : x15 = x5) (h18 : x20 = (-1)) (h19 : x21 = x8) (h20 : x22 = x10) : (0 ≤ x6 - 2 ∧ (0 ≤ x8 → x12 ≤ x6 - 2) ∧ (0 ≤ x10 → x14 ≤ x6 - 2)) ∧ x6 + x20 = x6 - 1 ∧ x21 = x8 ∧ x22 = x10 := by omega
theorem la_behind_348 {x0 : Int} (h0 : (10 : Int) = 2) : x0 < x0 := by omega
theorem la_behind_349 {x0 : Int} (h0 : (10 : Int) = 2) : ¬ x0 = (-1) := by omega
theorem la_behind_350 {x0 : Int} (h0 : (10 : Int) = 2) : x0 = 1 := by omega
theorem la_behind_351 {x0 : Int} (h0 : (10 : Int) = 2) : x0 = 2 := by omega
theorem la_behind_352 {x0 : Int} (h0 : (10 : Int) = 2) : x0 = 6 := by omega
theorem la_behind_353 {x0 : Int} (h0 : (10 : Int) = 2) : x0 = 33 := by omega
theorem la_behind_354 {x0 : Int} (h0 : (10 : Int) = 2) : x0 = (-1) := by omega
theorem la_behind_355 {x0 x1 : Int} (h0 : (10 : Int) = 2) : 5 * x0 = 5 * x1 := by omega
theorem la_behind_356 {x0 x1 : Int} (h0 : (10 : Int) = 2) : 5 * x0 + 0 = 5 * x1 := by omega
theorem la_behind_357 {x0 x1 : Int} (h0 : (10 : Int) = 2) : 5 * x0 + 0 = 5 * x1 + 1 := by omega
theorem la_behind_358 {x0 x1 : Int} (h0 : x0 = x1) : x0 ≤ x1 := by omega
theorem la_behind_359 {x0 x1 x2 x3 x4 x5 : Int} (h0 : 17 * x0 + 2 ≤ x1) (h1 : x2 < x3) (h2 : 0 ≤ x4) (h3 : x4 < x2) (h4 : x5 ≤ x0 - 1) : 12001 * (17 * x5 + 18) ≤ 12001 * x1 + x3 := by omega
theorem la_behind_360 {x0 x1 x2 x3 x4 x5 x6 x7 x8 x9 x10 x11 x12 x13 x14 x15 x16 x17 x18 : Int} (h0 : 0 ≤ x0 → x1 ≤ x2 - (1 + x3)) (h1 : 0 ≤ x3) (h2 : x4 = x5 + x6) (h3 : x6 = (-1)) (h4 : x7 = x8) (h5 : x8 = x9) (h6 : x10 = x11) (h7 : x11 = x12) (h8 : x5 = x13 + 1) (h9 : x9 = x14) (h10 : x12 = x15) (h11 : x13 = x2 + x16) (h12 : x16 = 1) (h13 : x14 = x17) (h14 : x17 = x0) (h15 : x15 = x18) (h16 : x18 = x1) : 0 ≤ x7 → x10 ≤ x4 := by omega
theorem la_behind_361 {x0 x1 x2 x3 x4 x5 x6 x7 x8 x9 x10 x11 x12 x13 x14 x15 x16 : Int} (h0 : 0 ≤ x0 → x1 ≤ x2 - (1 + x3)) (h1 : 0 ≤ x3) (h2 : x4 = x5 + x6) (h3 : x6 = (-1)) (h4 : x7 = x8) (h5 : x8 = x9) (h6 : x5 = x10 + 1) (h7 : x9 = x11) (h8 : x12 = x13) (h9 : x14 = x12) (h10 : x10 = x2 + x15) (h11 : x15 = 1) (h12 : x11 = x16) (h13 : x16 = x0) (h14 : x13 = x1) : 0 ≤ x7 → x14 ≤ x4 := by omega
theorem la_behind_362 {x0 x1 x2 x3 x4 : Int} (h0 : x0 = x1 + 1) (h1 : x2 = x3 + x4) (h2 : x4 = (-1)) (h3 : x3 ≤ x1 + 2) : x2 ≤ x0 := by omega
theorem la_behind_363 {x0 x1 x2 x3 x4 x5 : Int} (h0 : x0 = x1) (h1 : x1 = x2) (h2 : x3 + 1 ≤ x4) (h3 : x2 = x5) (h4 : x5 < x3) : x0 < x4 + 1 := by omega
theorem la_behind_364 {x0 x1 x2 x3 x4 : Int} (h0 : x0 = x1) (h1 : x1 = x2) (h2 : x2 = x3) (h3 : x3 < x4) : x0 < x4 + 1 := by omega
theorem la_behind_365 {x0 x1 x2 x3 x4 x5 x6 : Int} (h0 : x0 < x1) (h1 : x2 = x3) (h2 : x3 = x4) (h3 : x4 = x5) (h4 : x5 = x6) (h5 : x6 = x0) : x2 < x1 + 1 := by omega
theorem la_behind_366 {x0 x1 x2 x3 x4 x5 : Int} (h0 : x0 = x1) (h1 : x1 = x2) (h2 : x2 = x3) (h3 : x3 = x4) (h4 : x4 = x5) : x0 = x5 := by omega
theorem la_behind_367 {x0 x1 x2 x3 x4 x5 x6 x7 x8 x9 : Int} (h0 : x0 + 3 * (600 - x1) + x2 ≤ 8000) (h1 : x3 ≤ x2) (h2 : x4 ≤ x3 - 1) (h3 : 0 ≤ x4) (h4 : x5 = x6 + 1) (h5 : x7 ≤ x0 + 3 * (x6 - x8)) (h6 : x8 = x1 + 1) (h7 : x9 = 0) : x7 + 3 * (600 - x5) + x9 ≤ 8000 := by omega
theorem la_behind_368 {x0 x1 x2 x3 x4 x5 x6 x7 x8 x9 : Int} (h0 : x0 + 3 * (600 - x1) + x2 ≤ 8000) (h1 : 17 * x3 + 2 ≤ x2) (h2 : x4 = x5 + 1) (h3 : x6 ≤ x0 + 3 * (x5 - x7)) (h4 : x7 = x1 + 1) (h5 : x8 = 17 * x9 + 17) (h6 : x9 ≤ x3 - 1) : x6 + 3 * (600 - x4) + x8 ≤ 8000 := by omega
theorem la_behind_369 {x0 : Int} (h0 : x0 = 5) : 0 ≤ x0 := by omega
theorem la_behind_370 {x0 x1 x2 x3 : Int} (h0 : x0 + (600 - x1) + 8 = x2) (h1 : 0 ≤ x0) (h2 : x3 = 5) (h3 : x1 = 600) : x3 < x2 := by omega
theorem la_behind_371 {x0 x1 x2 x3 x4 x5 : Int} (h0 : x0 < x1) (h1 : x2 = x3) (h2 : x3 = x4) (h3 : x1 + 1 ≤ x5) (h4 : x4 = x0) : x2 < x5 + 1 := by omega
theorem la_behind_372 {x0 x1 x2 x3 x4 : Int} (h0 : x0 < x1) (h1 : x2 = x3) (h2 : x3 = x0) (h3 : x4 = x2) : x4 < x1 + 1 := by omega
theorem la_behind_373 {x0 x1 x2 x3 x4 x5 x6 : Int} (h0 : x0 < x1) (h1 : x2 = x3) (h2 : x3 = x0) (h3 : x4 = x5) (h4 : x5 = x6) (h5 : x6 = x2) : x4 < x1 + 1 := by omega
theorem la_behind_374 {x0 x1 x2 x3 : Int} (h0 : x0 = x1) (h1 : x1 = x2) (h2 : x3 = x0) : x3 = x2 := by omega
theorem la_behind_375 {x0 x1 x2 x3 x4 x5 : Int} (h0 : x0 = x1) (h1 : x1 = x2) (h2 : x3 = x4) (h3 : x4 = x5) (h4 : x5 = x0) : x3 = x2 := by omega
theorem la_behind_376 {x0 x1 x2 x3 x4 x5 x6 x7 : Int} (h0 : x0 + (600 - x1) + 8 = x2) (h1 : 0 ≤ x0) (h2 : x3 = x4 + (600 - x5) + 9) (h3 : x5 = x6 + 1) (h4 : x7 + 1 ≤ x6) (h5 : x7 = x1 + 1) (h6 : x4 = 0) : x3 < x2 := by omega
theorem la_behind_377 {x0 x1 x2 x3 x4 x5 x6 x7 x8 x9 : Int} (h0 : x0 + (600 - x1) + 8 = x2) (h1 : 17 * x3 + 2 ≤ x0) (h2 : x4 = x5 + (600 - x6) + 9) (h3 : x6 = x7 + 1) (h4 : x8 + 1 ≤ x7) (h5 : x8 = x1 + 1) (h6 : x5 = 17 * x9 + 17) (h7 : x9 ≤ x3 - 1) : x4 < x2 := by omega
theorem la_behind_378 {x0 x1 x2 x3 : Int} (h0 : x0 ≤ 600) (h1 : x1 + (600 - x0) + 8 = x2) (h2 : 0 ≤ x1) (h3 : x3 = 5) : x3 < x2 := by omega
theorem la_behind_379 {x0 x1 x2 : Int} (h0 : 0 ≤ x0) (h1 : x1 = 5) (h2 : x2 = 600) : x1 + 1 ≤ x0 + (600 - x2) + 8 := by omega
theorem la_behind_380 {x0 x1 x2 : Int} (h0 : x0 ≤ 600) (h1 : 0 ≤ x1) (h2 : x2 = 5) : x2 + 1 ≤ x1 + (600 - x0) + 8 := by omega
theorem la_behind_381 {x0 x1 x2 x3 x4 x5 x6 x7 x8 : Int} (h0 : x0 ≤ x1) (h1 : x2 ≤ x0 - 1) (h2 : 0 ≤ x2) (h3 : x3 = x4 + (600 - x5) + 9) (h4 : x5 = x6 + 1) (h5 : x7 + 1 ≤ x6) (h6 : x7 = x8 + 1) (h7 : x4 = 0) : x3 + 1 ≤ x1 + (600 - x8) + 8 := by omega
theorem la_behind_382 {x0 x1 x2 x3 x4 x5 x6 x7 x8 : Int} (h0 : 17 * x0 + 2 ≤ x1) (h1 : x2 = x3 + (600 - x4) + 9) (h2 : x4 = x5 + 1) (h3 : x6 + 1 ≤ x5) (h4 : x6 = x7 + 1) (h5 : x3 = 17 * x8 + 17) (h6 : x8 ≤ x0 - 1) : x2 + 1 ≤ x1 + (600 - x7) + 8 := by omega
theorem la_behind_383 {x0 x1 x2 x3 x4 x5 x6 x7 x8 x9 x10 x11 x12 x13 x14 x15 x16 x17 x18 x19 x20 x21 x22 x23 x24 x25 x26 x27 x28 x29 x30 x31 x32 x33 x34 x35 x36 x37 : Int} (h0 : 1 + x0 ≤ x1) (h1 : 0 ≤ x2 → x3 ≤ x1 - (1 + x0)) (h2 : 0 ≤ x4 → x5 ≤ x1 - (1 + x0)) (h3 : 0 ≤ x0) (h4 : 0 ≤ x6) (h5 : x6 ≤ 8) (h6 : x7 = x8 + x6) (h7 : x9 = x10) (h8 : x11 = x12) (h9 : x13 = x14) (h10 : x15 = x16) (h11 : x8 = x17 + x18) (h12 : x18 = (-1)) (h13 : x10 = x19) (h14 : x19 = x20) (h15 : x12 = x21) (h16 : x21 = x22) (h17 : x14 = x23) (h18 : x23 = x24) (h19 : x17 = x25 + 1) (h20 : x20 = x26) (h21 : x22 = x27) (h22 : x24 = x28) (h23 : x29 = x30) (h24 : x16 = x29) (h25 : x25 = x1 + x31) (h26 : x31 = 1) (h27 : x26 = x32) (h28 : x32 = x2) (h29 : x27 = x33) (h30 : x33 = x4) (h31 : x28 = x34) (h32 : x34 = x3) (h33 : x30 = x5) (h34 : x35 = -x6 - 1) (h35 : x36 = x9) (h36 : x37 = x11) : (0 ≤ x6 ∧ x6 ≤ 8) ∧ (0 ≤ x7 - x6 - 2 ∧ (0 ≤ x9 → x13 ≤ x7 - x6 - 2) ∧ (0 ≤ x11 → x15 ≤ x7 - x6 - 2)) ∧ x7 + x35 = x7 - x6 - 1 ∧ x36 = x9 ∧ x37 = x11 := by omega
theorem la_behind_384 {x0 : Int} (h0 : (15 : Int) = 2) : x0 < x0 := by omega
theorem la_behind_385 {x0 x1 : Int} (h0 : (15 : Int) = 2) : x0 < x1 := by omega
theorem la_behind_386 {x0 x1 : Int} (h0 : (15 : Int) = 2) : 5 * x0 = 5 * x1 := by omega
theorem la_behind_387 {x0 x1 : Int} (h0 : (15 : Int) = 2) : 5 * x0 + 0 = 5 * x1 := by omega
theorem la_behind_388 {x0 x1 : Int} (h0 : (15 : Int) = 2) : 5 * x0 + 0 = 5 * x1 + 1 := by omega
theorem la_behind_389 {x0 x1 x2 x3 x4 x5 : Int} (h0 : x0 ≤ x1) (h1 : x1 ≤ x2) (h2 : x2 ≤ x3) (h3 : x3 ≤ x4) (h4 : x4 ≤ x5) : x0 ≤ x5 := by omega
theorem la_behind_390 {x0 x1 x2 x3 x4 : Int} (h0 : x0 ≤ x1) (h1 : x1 ≤ x2) (h2 : x2 ≤ x3) (h3 : x3 ≤ x4) : x0 ≤ x4 := by omega
theorem la_behind_391 {x0 x1 x2 x3 : Int} (h0 : x0 ≤ x1) (h1 : x1 ≤ x2) (h2 : x2 ≤ x3) : x0 ≤ x3 := by omega
theorem la_behind_392 {x0 x1 x2 x3 x4 : Int} (h0 : x0 ≤ x1) (h1 : x1 ≤ x2) (h2 : x2 ≤ x3) (h3 : x3 ≤ x4) : x0 + 1 ≤ x4 + 1 := by omega
theorem la_behind_393 {x0 x1 x2 x3 : Int} (h0 : x0 ≤ x1) (h1 : x1 ≤ x2) (h2 : x2 ≤ x3) : x0 + 1 ≤ x3 + 1 := by omega
theorem la_behind_394 {x0 x1 x2 : Int} (h0 : x0 ≤ x1) (h1 : x1 ≤ x2) : x0 + 1 ≤ x2 + 1 := by omega
theorem la_behind_395 {x0 x1 x2 x3 x4 x5 x6 : Int} (h0 : x0 ≤ x1) (h1 : x2 ≤ x0 - 1) (h2 : 0 ≤ x2) (h3 : x3 = x4) (h4 : x5 = x3) (h5 : x6 = 600) : x5 ≤ x4 + 3 * (600 - x6) + x1 := by omega
theorem la_behind_396 {x0 x1 x2 x3 x4 x5 x6 x7 : Int} (h0 : x0 ≤ x1) (h1 : x2 ≤ x0 - 1) (h2 : x3 = x4 + 1) (h3 : x5 ≤ x6 + 3 * (600 - x3) + x2) (h4 : x7 = x5) : x7 ≤ x6 + 3 * (600 - x4) + x1 := by omega
theorem la_behind_397 {x0 x1 x2 x3 x4 x5 x6 x7 : Int} (h0 : x0 ≤ x1) (h1 : x2 ≤ x0 - 1) (h2 : x3 ≤ x4 + 3 * (600 - x5) + x2) (h3 : x5 = x6 + 1) (h4 : x7 = x3) : x7 ≤ x4 + 3 * (600 - x6) + x1 := by omega
theorem la_behind_398 {x0 x1 x2 x3 x4 x5 x6 x7 x8 : Int} (h0 : x0 ≤ 600) (h1 : x1 ≤ x2) (h2 : x3 ≤ x1 - 1) (h3 : 0 ≤ x3) (h4 : 0 ≤ x4) (h5 : x4 ≤ 1) (h6 : x0 ≤ x5) (h7 : x4 = 1 → x6 = x7) (h8 : x4 = 0 → x6 ≤ x7 + 3 * (600 - x5) + x3) (h9 : x8 = x6) : x8 ≤ x7 + 3 * (600 - x0) + x2 := by omega
theorem la_behind_399 {x0 x1 x2 x3 x4 : Int} (h0 : x0 = x1) (h1 : x1 < x2) (h2 : x3 = x4) (h3 : x4 = x0) : x3 < x2 + 1 := by omega
theorem la_behind_400 {x0 x1 x2 x3 x4 x5 x6 : Int} (h0 : x0 < x1) (h1 : x2 = x3) (h2 : x3 = x4) (h3 : x4 = x0) (h4 : x5 = x6) (h5 : x6 = x2) : x5 < x1 + 1 := by omega
theorem la_behind_401 {x0 x1 x2 x3 x4 x5 : Int} (h0 : x0 = x1) (h1 : x1 = x2) (h2 : x2 = x3) (h3 : x4 = x5) (h4 : x5 = x0) : x4 = x3 := by omega
theorem la_behind_402 {x0 x1 x2 x3 : Int} (h0 : x0 = x1) (h1 : x2 = x3) (h2 : x3 = x0) : x2 = x1 := by omega
theorem la_behind_403 {x0 x1 x2 x3 x4 x5 x6 x7 x8 x9 x10 x11 : Int} (h0 : x0 ≤ x1) (h1 : x2 ≤ x0 - 1) (h2 : 0 ≤ x2) (h3 : 0 ≤ x3) (h4 : x3 ≤ 1) (h5 : x4 ≤ x5) (h6 : x3 = 1 → x6 = x7) (h7 : x3 = 0 → x6 ≤ x7 + 3 * (600 - x5) + x8) (h8 : x7 ≤ x9 + 3 * (x4 - x10)) (h9 : x7 ≤ x9 + 3 * (600 - x10) + x2) (h10 : x10 = x11 + 1) (h11 : x8 = 0) : x6 ≤ x9 + 3 * (600 - x11) + x1 := by omega
theorem la_behind_404 {x0 x1 x2 x3 x4 x5 x6 x7 x8 x9 x10 x11 x12 x13 : Int} (h0 : 17 * x0 + 2 ≤ x1) (h1 : x2 ≤ x1) (h2 : x3 ≤ x2 - 1) (h3 : 0 ≤ x4) (h4 : x4 ≤ 1) (h5 : x5 ≤ x6) (h6 : x4 = 1 → x7 = x8) (h7 : x4 = 0 → x7 ≤ x8 + 3 * (600 - x6) + x9) (h8 : x8 ≤ x10 + 3 * (x5 - x11)) (h9 : x8 ≤ x10 + 3 * (600 - x11) + x3) (h10 : x11 = x12 + 1) (h11 : x9 = 17 * x13 + 17) (h12 : x13 ≤ x0 - 1) : x7 ≤ x10 + 3 * (600 - x12) + x1 := by omega
theorem la_behind_405 {x0 x1 x2 x3 x4 x5 : Int} (h0 : x0 ≤ x1) (h1 : x2 = x1 + 1) (h2 : x0 = x3 + 1) (h3 : x4 + 1 ≤ x3) (h4 : x4 = x5 + 1) : x5 + 1 ≤ x2 := by omega
theorem la_behind_406 {x0 x1 x2 x3 x4 : Int} (h0 : x0 ≤ x1) (h1 : x0 = x2 + 1) (h2 : x3 + 1 ≤ x2) (h3 : x3 = x4 + 1) : x4 < x1 := by omega
theorem la_behind_407 {x0 x1 x2 x3 : Int} (h0 : x0 = x1 + 1) (h1 : x2 + 1 ≤ x1) (h2 : x2 = x3 + 1) : x3 < x0 := by omega
theorem la_behind_408 {x0 x1 x2 : Int} (h0 : x0 + 1 ≤ x1) (h1 : x0 = x2 + 1) : x2 < x1 := by omega
theorem la_behind_409 {x0 x1 x2 x3 x4 : Int} (h0 : x0 ≤ x1) (h1 : x0 = x2 + 1) (h2 : x3 + 1 ≤ x2) (h3 : x3 = x4 + 1) : x4 + 1 < x1 := by omega
theorem la_behind_410 {x0 x1 x2 x3 : Int} (h0 : x0 = x1 + 1) (h1 : x2 + 1 ≤ x1) (h2 : x2 = x3 + 1) : x3 + 1 < x0 := by omega
theorem la_behind_411 {x0 x1 x2 : Int} (h0 : x0 + 1 ≤ x1) (h1 : x0 = x2 + 1) : x2 + 1 < x1 := by omega
theorem la_behind_412 {x0 x1 x2 : Int} (h0 : x0 ≤ x1) (h1 : x0 = x2 + 1) : x2 ≤ x1 := by omega
theorem la_behind_413 {x0 x1 x2 : Int} (h0 : x0 ≤ x1) (h1 : x0 = x2 + 1) : x2 < x1 := by omega
theorem la_behind_414 {x0 x1 x2 : Int} (h0 : x0 ≤ x1) (h1 : x0 = x2 + 1) : x2 + 1 ≤ x1 := by omega
theorem la_behind_415 {x0 x1 x2 x3 x4 x5 x6 x7 x8 x9 x10 : Int} (h0 : 0 ≤ x0) (h1 : x0 = 0) (h2 : x1 = x2 + x3) (h3 : x3 = -x4 - 1) (h4 : x2 = x5 + x4) (h5 : x5 = x6 + x7) (h6 : x7 = (-1)) (h7 : x6 = x8 + 1) (h8 : x8 = x9 + x10) (h9 : x10 = 1) : x1 = x9 + (0 - x0) := by omega
theorem la_behind_416 {x0 x1 x2 x3 x4 x5 x6 x7 x8 : Int} (h0 : x0 = x1) (h1 : x1 = x2) (h2 : x2 = x3) (h3 : x3 = x4) (h4 : x4 = x5) (h5 : x5 = x6) (h6 : x6 = x7) (h7 : x7 = x8) : x0 = x8 := by omega
theorem la_behind_417 {x0 x1 x2 x3 x4 x5 : Int} (h0 : x0 = x1) (h1 : x2 = x0) (h2 : x3 = x4) (h3 : x1 = x3) (h4 : x4 = x5) : x2 = x5 := by omega
theorem la_behind_418 {x0 x1 x2 x3 x4 : Int} (h0 : x0 ≤ x1) (h1 : x0 = x2 + 1) (h2 : x3 + 1 ≤ x2) (h3 : x3 = x4 + 1) : x4 < x1 + 1 := by omega
theorem la_behind_419 {x0 x1 x2 x3 : Int} (h0 : x0 = x1 + 1) (h1 : x2 + 1 ≤ x1) (h2 : x2 = x3 + 1) : x3 < x0 + 1 := by omega
theorem la_behind_420 {x0 x1 x2 : Int} (h0 : x0 + 1 ≤ x1) (h1 : x0 = x2 + 1) : x2 < x1 + 1 := by omega
theorem la_behind_421 {x0 x1 x2 x3 x4 x5 x6 x7 x8 : Int} (h0 : 0 ≤ x0) (h1 : x1 = 0) (h2 : x2 ≤ x3) (h3 : x4 = x3 + 1) (h4 : x2 = x5 + 1) (h5 : x6 + 1 ≤ x5) (h6 : x6 = x7 + 1) : 2 * x8 ≤ 2 * (x8 - (1 + x1)) + (1 + x1) + (x4 - x7) + 8 * x0 + 10 := by omega
theorem la_behind_422 {x0 x1 x2 x3 x4 : Int} (h0 : x0 ≤ x1) (h1 : x0 = x2 + 1) (h2 : x3 + 1 ≤ x2) (h3 : x3 = x4 + 1) : x4 + 1 < x1 + 1 := by omega
theorem la_behind_423 {x0 x1 x2 x3 : Int} (h0 : x0 = x1 + 1) (h1 : x2 + 1 ≤ x1) (h2 : x2 = x3 + 1) : x3 + 1 < x0 + 1 := by omega
theorem la_behind_424 {x0 x1 x2 : Int} (h0 : x0 + 1 ≤ x1) (h1 : x0 = x2 + 1) : x2 + 1 < x1 + 1 := by omega
theorem la_behind_425 {x0 x1 : Int} (h0 : x0 = x1 + 1) : x1 + 1 = x0 := by omega
theorem la_behind_426 {x0 x1 x2 x3 x4 x5 x6 x7 x8 x9 : Int} (h0 : 0 ≤ x0) (h1 : x1 = 0) (h2 : x2 ≤ x3) (h3 : x4 = x3 + 1) (h4 : x2 = x5 + 1) (h5 : x6 + 1 ≤ x5) (h6 : x6 = x7 + 1) (h7 : x8 = 1) : 2 * (x9 + x8) ≤ 2 * (x9 - (1 + x1)) + (1 + x1) + (x4 - x7) + 8 * x0 + 10 := by omega
theorem la_behind_427 {x0 x1 x2 x3 x4 : Int} (h0 : x0 ≤ x1) (h1 : x0 = x2 + 1) (h2 : x3 + 1 ≤ x2) (h3 : x3 = x4 + 1) : x4 + 1 + 1 < x1 + 1 := by omega
theorem la_behind_428 {x0 x1 x2 x3 : Int} (h0 : x0 = x1 + 1) (h1 : x2 + 1 ≤ x1) (h2 : x2 = x3 + 1) : x3 + 1 + 1 < x0 + 1 := by omega
theorem la_behind_429 {x0 x1 x2 : Int} (h0 : x0 + 1 ≤ x1) (h1 : x0 = x2 + 1) : x2 + 1 + 1 < x1 + 1 := by omega
theorem la_behind_430 {x0 x1 x2 x3 x4 x5 x6 x7 x8 x9 x10 x11 x12 : Int} (h0 : x0 ≤ x1) (h1 : x2 = 0) (h2 : x3 ≤ x0) (h3 : x4 ≤ x5) (h4 : x6 = x5 + 1) (h5 : x4 = x7 + 1) (h6 : x8 = x9 + 1) (h7 : x10 = x11 + x12) (h8 : x12 = 1) : 2 * x10 + (x7 - x8) + 8 * x3 + 10 ≤ 2 * (x11 - (1 + x2)) + (1 + x2) + (x6 - x9) + 8 * x1 + 10 := by omega
theorem la_behind_431 {x0 x1 x2 : Int} (h0 : x0 ≤ x1) (h1 : x0 = x2 + 1) : x2 ≤ x1 + 1 := by omega
theorem la_behind_432 {x0 x1 : Int} (h0 : x0 = x1 + 1) : x1 ≤ x0 + 1 := by omega
theorem la_behind_433 {x0 x1 x2 : Int} (h0 : x0 ≤ x1) (h1 : x0 = x2 + 1) : x2 < x1 + 1 := by omega
theorem la_behind_434 {x0 x1 x2 x3 x4 x5 x6 x7 x8 x9 x10 x11 : Int} (h0 : 0 ≤ x0) (h1 : x1 = 0) (h2 : x2 ≤ x3) (h3 : x4 = x3 + 1) (h4 : x2 = x5 + 1) (h5 : x6 + 1 ≤ x5) (h6 : x7 = x8 + 1) (h7 : x6 = x9 + 1) (h8 : x8 = x10 + x11) (h9 : x11 = 1) : 2 * x7 ≤ 2 * (x10 - (1 + x1)) + (1 + x1) + (x4 - x9) + 8 * x0 + 10 := by omega
theorem la_behind_435 {x0 x1 x2 : Int} (h0 : x0 ≤ x1) (h1 : x0 = x2 + 1) : x2 + 1 < x1 + 1 := by omega
theorem la_behind_436 {x0 x1 x2 x3 x4 x5 x6 x7 x8 x9 x10 x11 x12 : Int} (h0 : 0 ≤ x0) (h1 : x1 = 0) (h2 : x2 ≤ x3) (h3 : x4 = x3 + 1) (h4 : x2 = x5 + 1) (h5 : x6 = (-1)) (h6 : x7 + 1 ≤ x5) (h7 : x8 = x9 + 1) (h8 : x7 = x10 + 1) (h9 : x9 = x11 + x12) (h10 : x12 = 1) : 2 * (x8 + x6) ≤ 2 * (x11 - (1 + x1)) + (1 + x1) + (x4 - x10) + 8 * x0 + 10 := by omega
theorem la_behind_437 {x0 x1 : Int} (h0 : x0 = x1 + 1) : x0 ≤ x1 + 1 + 1 := by omega
theorem la_behind_438 {x0 x1 x2 x3 x4 x5 x6 : Int} (h0 : x0 = x1) (h1 : x1 = x2) (h2 : x2 = x3) (h3 : x4 + 1 ≤ x5) (h4 : x3 = x6) (h5 : x6 < x4) : x0 < x5 + 1 := by omega
theorem la_behind_439 {x0 x1 x2 x3 x4 x5 x6 x7 x8 x9 : Int} (h0 : x0 = x1) (h1 : x1 = x2) (h2 : x2 = x3) (h3 : x4 = x5 + 1) (h4 : x3 = x6) (h5 : x6 = x7) (h6 : x8 + 1 ≤ x5) (h7 : x7 = x9) (h8 : x9 < x8) : x0 < x4 + 1 := by omega
theorem la_behind_440 {x0 x1 x2 x3 x4 x5 x6 x7 x8 : Int} (h0 : x0 < x1) (h1 : x2 = x3) (h2 : x3 = x4) (h3 : x4 = x5) (h4 : x5 = x6) (h5 : x7 = x1 + 1) (h6 : x6 = x8) (h7 : x8 = x0) : x2 < x7 + 1 := by omega
theorem la_behind_441 {x0 x1 x2 x3 x4 x5 x6 x7 x8 : Int} (h0 : x0 = x1) (h1 : x1 = x2) (h2 : x2 = x3) (h3 : x3 = x4) (h4 : x4 = x5) (h5 : x6 + 1 ≤ x7) (h6 : x5 = x8) (h7 : x8 < x6) : x0 < x7 + 1 := by omega
theorem la_behind_442 {x0 x1 x2 x3 x4 : Int} (h0 : x0 = x1) (h1 : x1 = x2) (h2 : x2 = x3) (h3 : x3 = x4) : x0 = x4 := by omega
theorem la_behind_443 {x0 x1 x2 x3 x4 x5 x6 x7 : Int} (h0 : x0 < x1) (h1 : x2 = x3) (h2 : x3 = x4) (h3 : x4 = x5) (h4 : x5 = x6) (h5 : x6 = x7) (h6 : x7 = x0) : x2 < x1 + 1 := by omega
theorem la_behind_444 {x0 x1 x2 x3 x4 x5 x6 x7 x8 x9 x10 : Int} (h0 : x0 < x1) (h1 : x2 = x3) (h2 : x3 = x4) (h3 : x4 = x5) (h4 : x5 = x6) (h5 : x6 = x7) (h6 : x7 = x8) (h7 : x9 = x1 + 1) (h8 : x8 = x10) (h9 : x10 = x0) : x2 < x9 + 1 := by omega
theorem la_behind_445 {x0 x1 x2 x3 x4 x5 x6 x7 x8 x9 : Int} (h0 : x0 < x1) (h1 : x2 = x3) (h2 : x3 = x4) (h3 : x4 = x5) (h4 : x5 = x6) (h5 : x6 = x7) (h6 : x7 = x8) (h7 : x8 = x9) (h8 : x9 = x0) : x2 < x1 + 1 := by omega
theorem la_behind_446 {x0 x1 x2 x3 x4 x5 x6 : Int} (h0 : x0 = x1) (h1 : x1 = x2) (h2 : x2 = x3) (h3 : x3 = x4) (h4 : x4 = x5) (h5 : x5 = x6) : x0 = x6 := by omega
theorem la_behind_447 {x0 x1 x2 x3 x4 x5 x6 x7 x8 x9 : Int} (h0 : x0 = 0) (h1 : x1 ≤ x2) (h2 : x3 = x2 + 1) (h3 : x1 = x4 + 1) (h4 : x5 + 1 ≤ x4) (h5 : x5 = x6 + 1) (h6 : x7 ≤ x8 - 1) (h7 : 0 ≤ x7) : 2 * x9 ≤ 2 * (x9 - (1 + x0)) + (1 + x0) + (x3 - x6) + 8 * x8 + 10 := by omega
theorem la_behind_448 {x0 x1 x2 x3 x4 x5 x6 x7 x8 x9 x10 : Int} (h0 : x0 = 0) (h1 : x1 ≤ x2) (h2 : x3 = x2 + 1) (h3 : x1 = x4 + 1) (h4 : x5 + 1 ≤ x4) (h5 : x5 = x6 + 1) (h6 : x7 = 1) (h7 : x8 ≤ x9 - 1) (h8 : 0 ≤ x8) : 2 * (x10 + x7) ≤ 2 * (x10 - (1 + x0)) + (1 + x0) + (x3 - x6) + 8 * x9 + 10 := by omega
theorem la_behind_449 {x0 x1 x2 x3 x4 x5 x6 x7 x8 x9 x10 x11 x12 : Int} (h0 : x0 = 0) (h1 : x1 ≤ x2) (h2 : x3 = x2 + 1) (h3 : x1 = x4 + 1) (h4 : x5 + 1 ≤ x4) (h5 : x6 = x7 + 1) (h6 : x5 = x8 + 1) (h7 : x7 = x9 + x10) (h8 : x10 = 1) (h9 : x11 ≤ x12 - 1) (h10 : 0 ≤ x11) : 2 * x6 ≤ 2 * (x9 - (1 + x0)) + (1 + x0) + (x3 - x8) + 8 * x12 + 10 := by omega
theorem la_behind_450 {x0 x1 x2 x3 x4 x5 x6 x7 x8 x9 x10 x11 x12 x13 : Int} (h0 : x0 = 0) (h1 : x1 ≤ x2) (h2 : x3 = x2 + 1) (h3 : x1 = x4 + 1) (h4 : x5 = (-1)) (h5 : x6 + 1 ≤ x4) (h6 : x7 = x8 + 1) (h7 : x6 = x9 + 1) (h8 : x8 = x10 + x11) (h9 : x11 = 1) (h10 : x12 ≤ x13 - 1) (h11 : 0 ≤ x12) : 2 * (x7 + x5) ≤ 2 * (x10 - (1 + x0)) + (1 + x0) + (x3 - x9) + 8 * x13 + 10 := by omega
theorem la_behind_451 {x0 x1 x2 x3 x4 x5 x6 x7 x8 x9 x10 x11 x12 x13 x14 : Int} (h0 : x0 = 0) (h1 : x1 = x2 + 1) (h2 : x3 = x4 + 1) (h3 : x5 = x6 + x7) (h4 : x7 = (-1)) (h5 : x8 + 1 ≤ x4) (h6 : x6 = x9 + 1) (h7 : x8 = x10 + 1) (h8 : x9 = x11 + x12) (h9 : x12 = 1) (h10 : x13 ≤ 8 * x14 + 9) : 2 * x5 + (x2 - x3) + x13 ≤ 2 * (x11 - (1 + x0)) + (1 + x0) + (x1 - x10) + 8 * x14 + 10 := by omega
theorem la_behind_452 {x0 x1 x2 x3 x4 x5 x6 x7 x8 x9 x10 x11 x12 x13 x14 x15 x16 : Int} (h0 : x0 = 0) (h1 : x1 ≤ 8) (h2 : x2 = x3 + 1) (h3 : x4 + x1 ≤ x3) (h4 : x5 = x6 + x1) (h5 : x4 = x7 + 1) (h6 : x6 = x8 + x9) (h7 : x9 = (-1)) (h8 : x10 + 1 ≤ x7) (h9 : x8 = x11 + 1) (h10 : x10 = x12 + 1) (h11 : x11 = x13 + x14) (h12 : x14 = 1) (h13 : x15 ≤ x16 - 1) (h14 : 0 ≤ x15) : 2 * x5 ≤ 2 * (x13 - (1 + x0)) + (1 + x0) + (x2 - x12) + 8 * x16 + 10 := by omega
theorem la_behind_453 {x0 x1 x2 x3 x4 x5 x6 x7 x8 x9 x10 x11 x12 x13 x14 : Int} (h0 : 0 ≤ x0) (h1 : x1 = 0) (h2 : x2 = x3 + 1) (h3 : x4 = x5 + 1) (h4 : x6 = x7 + x8) (h5 : x8 = (-1)) (h6 : x9 + 1 ≤ x5) (h7 : x7 = x10 + 1) (h8 : x9 = x11 + 1) (h9 : x10 = x12 + x13) (h10 : x13 = 1) (h11 : x14 = 0) : 2 * x6 + (x3 - x4) + x14 ≤ 2 * (x12 - (1 + x1)) + (1 + x1) + (x2 - x11) + 8 * x0 + 10 := by omega
theorem la_behind_454 {x0 x1 x2 x3 x4 x5 x6 x7 x8 x9 x10 x11 x12 x13 x14 x15 : Int} (h0 : 0 ≤ x0) (h1 : x1 = 0) (h2 : x2 ≤ 8) (h3 : x3 = x4 + 1) (h4 : x5 + x2 ≤ x4) (h5 : x6 = x7 + x2) (h6 : x5 = x8 + 1) (h7 : x7 = x9 + x10) (h8 : x10 = (-1)) (h9 : x11 + 1 ≤ x8) (h10 : x9 = x12 + 1) (h11 : x11 = x13 + 1) (h12 : x12 = x14 + x15) (h13 : x15 = 1) : 2 * x6 ≤ 2 * (x14 - (1 + x1)) + (1 + x1) + (x3 - x13) + 8 * x0 + 10 := by omega
theorem la_behind_455 {x0 x1 x2 x3 x4 x5 x6 x7 x8 : Int} (h0 : x0 = x1 + 1) (h1 : x2 ≤ x3 + 3 * (x1 - x4)) (h2 : x4 = x5 + 1) (h3 : x3 ≤ x6 + 3 * (x5 - x7)) (h4 : x7 = x8 + 1) : x2 ≤ x6 + 3 * (x0 - x8) := by omega
set_option maxHeartbeats 16000000 in
theorem f_behind : ∀ (d : Int) (p1 : Int) (S : sv_S), sm_ok S → sv_R p1 → (sm_WF (S 11) (S 12) (S 13) (S 1100001) (S 1100002) (S 1100005) (S 1100003) (S 1100004) (S 1024 0) (S 1007 0) (S 1009 0) (sm_fn (S 1032 0) (S 21) (S 1056 0)) ∧ (S 1009 0) = 0 ∧ 0 ≤ (S 1007 0) ∧ (S 1007 0) ≤ 90 ∧ 0 ≤ (S 1024 0) ∧ (S 1024 0) ≤ 12000 ∧ 1 ≤ (S 1032 0) ∧ (S 1032 0) ≤ 11 ∧ 0 ≤ (S 1056 0) ∧ (S 1056 0) < (S 1032 0) ∧ sm_VB (S 33) (S 21) (S 1032 0) ∧ 0 ≤ (S 1046 0) ∧ (S 1046 0) ≤ 600 ∧ 0 ≤ (S 1047 0) ∧ (S 1047 0) ≤ 1 ∧ 0 ≤ (S 1053 0) ∧ 0 ≤ (S 1066 0) ∧ 0 ≤ p1 ∧ p1 < (S 1024 0) ∧ (S 1100001 p1) = 1 ∧ ((S 11 p1) = 3 ∨ (S 11 p1) = 7 ∨ (S 11 p1) = 8 ∨ (S 11 p1) = 11 ∨ (S 11 p1) = 12 ∨ (S 11 p1) = 13) ∧ sm_LF (S 39) (S 1100002) (S 1066 0) (S 1024 0) (12001 * (S 1100002 p1) + p1) ∧ (S 1047 0) = 0 ∧ (1 + sm_cd (S 11) (S 12) (S 14) (p1)) ≤ (S 1100007 (S 1046 0)) ∧ 1 ≤ (S 1046 0) ∧ sm_KC (S 26) (S 27) (S 28) (S 29) (S 1100007) (S 1100023) (S 1100024) (S 1100025) (S 31) (S 1100009) (S 1100027) (S 1100028) (S 1100026) (S 1100030) (S 21) (S 32) (S 33) (S 1046 0) (S 1053 0) (S 1056 0) (S 1032 0) (S 1007 0) (S 1100033 0) ∧ (S 1100033 0) = (S 1055 0) ∧ 0 ≤ (S 1055 0) ∧ (S 1055 0) ≤ (S 1046 0) ∧ (0 ≤ (S 1100023 (S 1046 0)) → (S 1100007 (S 1100023 (S 1046 0))) ≤ (S 1100007 (S 1046 0)) - (1 + sm_cd (S 11) (S 12) (S 14) (p1))) ∧ (0 ≤ (S 1100025 (S 1046 0)) → (S 1100007 (S 1100025 (S 1046 0))) ≤ (S 1100007 (S 1046 0)) - (1 + sm_cd (S 11) (S 12) (S 14) (p1))) ∧ (S 1100007 (S 1046 0)) ≤ (S 1046 0) ∧ (S 1053 0) + 3 * (600 - (S 1046 0)) + (S 1100002 p1) ≤ 8000) → ((S 1100002 p1) + (600 - (S 1046 0)) + 8) = d → (((S 11 p1) = 8 → ¬ ((S 11 (S 12 (5 * p1))) = 7 ∧ (S 14 (S 12 (5 * p1))) = 0) → sm_cd (S 11) (S 12) (S 14) (p1) = 1) → ((¬ (S 11 p1) = 8 → sm_cd (S 11) (S 12) (S 14) (p1) = 0) → (((S 11 (S 12 (5 * p1))) = 7 ∧ (S 14 (S 12 (5 * p1))) = 0 → sm_cd (S 11) (S 12) (S 14) (p1) = 0) → ((0 ≤ sm_cd (S 11) (S 12) (S 14) (p1) ∧ sm_cd (S 11) (S 12) (S 14) (p1) ≤ 1) → ((sm_WF (S 11) (S 12) (S 13) (S 1100001) (S 1100002) (S 1100005) (S 1100003) (S 1100004) (S 1024 0) (S 1007 0) (S 1009 0) (sm_fn (S 1032 0) (S 21) (S 1056 0)) → 0 ≤ p1 → p1 < (S 1024 0) → ((S 1100001 (p1)) = 1 → 0 ≤ (S 1100002 (p1)) ∧ ((S 11 (p1)) = 3 → (S 12 (5 * (p1) + 1)) < (p1)) ∧ ((S 11 (p1)) = 4 ∨ (S 11 (p1)) = 5 ∨ (S 11 (p1)) = 8 ∨ (S 11 (p1)) = 9 → 17 * (S 1100005 (p1)) + 2 ≤ (S 1100002 (p1))) ∧ 0 ≤ (S 1100005 (p1))) ∧ ((S 1100001 (p1)) = 2 → 0 ≤ (S 1100005 (p1)) ∧ (S 1100002 (p1)) ≤ 17 * (S 1100005 (p1)) + 5 ∧ ((S 11 (p1)) = 33 → 1 ≤ (S 1100005 (p1)))) ∧ ((S 1100001 (p1)) = 6 → 0 ≤ (S 1100002 (p1)) ∧ 1 ≤ (S 1100004 (p1)) ∧ ((S 12 (5 * (p1))) = - 1 → (S 1100004 (p1)) = 2)) ∧ ((S 1100001 (p1)) = 3 → 1 ≤ (S 1100002 (p1)))) → (0 ≤ p1 ∧ p1 < 12000 ∧ 0 ≤ (0 : Int) ∧ (0 : Int) ≤ 4) ∧ (0 + 1 ≤ ((S 1100002 p1) + (600 - (S 1046 0)) + 8)) ∧ (∀ x8 : Int, ((S 12 (5 * p1 + (0 : Int)))) = x8 → (0 ≤ p1 ∧ p1 < 12000 ∧ 0 ≤ (1 : Int) ∧ (1 : Int) ≤ 4) ∧ (∀ x11 : Int, ((S 12 (5 * p1 + (1 : Int)))) = x11 → (0 ≤ p1 ∧ p1 < 12000) ∧ (sv_R (S 11 p1) → ((((S 11 p1) < (3 : Int) ∨ (11 : Int) < (S 11 p1) ∨ (S 11 p1) = (4 : Int) ∨ (S 11 p1) = (5 : Int) ∨ (S 11 p1) = (6 : Int) ∨ (S 11 p1) = (9 : Int) ∨ (S 11 p1) = (10 : Int)) → ((sm_WF (S 11) (S 12) (S 13) (S 1100001) (S 1100002) (S 1100005) (S 1100003) (S 1100004) (S 1024 0) (S 1007 0) (S 1009 0) (sm_fn (S 1032 0) (S 21) (S 1056 0)) → 0 ≤ p1 → p1 < (S 1024 0) → (S 1100001 p1) = 1 → 0 ≤ (S 11 (p1)) ∧ (S 11 (p1)) ≤ 17) → ((((S 11 p1) = 3 ∨ (S 11 p1) = 7 ∨ (S 11 p1) = 8 ∨ (S 11 p1) = 11 ∨ (S 11 p1) = 12 ∨ (S 11 p1) = 13) → 3 ≤ (S 11 p1)) → ((((S 11 p1) = 3 ∨ (S 11 p1) = 7 ∨ (S 11 p1) = 8 ∨ (S 11 p1) = 11 ∨ (S 11 p1) = 12 ∨ (S 11 p1) = 13) → (11 < (S 11 p1) ∨ (S 11 p1) = 4 ∨ (S 11 p1) = 5 ∨ (S 11 p1) = 6 ∨ (S 11 p1) = 9 ∨ (S 11 p1) = 10 → (S 11 p1) = 12 ∨ (S 11 p1) = 13)) → ((x11 = (S 12 (5 * p1 + 1)) → sm_WF (S 11) (S 12) (S 13) (S 1100001) (S 1100002) (S 1100005) (S 1100003) (S 1100004) (S 1024 0) (S 1007 0) (S 1009 0) (sm_fn (S 1032 0) (S 21) (S 1056 0)) → 0 ≤ p1 → p1 < (S 1024 0) → (S 1100001 p1) = 1 → ((S 11 p1) = 12 ∨ (S 11 p1) = 13) → sm_ex (S 1100001) (S 1100002) (S 1100005) (S 1024 0) 1 ((S 12 (5 * (p1)))) ((S 1100002 (p1))) ((S 1100005 (p1))) ∧ (S 12 (5 * (p1))) < (p1) ∧ sm_ex (S 1100001) (S 1100002) (S 1100005) (S 1024 0) 1 (x11) (((S 1100002 (p1))) - 1) ((S 1100005 (p1)))) → ((sm_WF (S 11) (S 12) (S 13) (S 1100001) (S 1100002) (S 1100005) (S 1100003) (S 1100004) (S 1024 0) (S 1007 0) (S 1009 0) (sm_fn (S 1032 0) (S 21) (S 1056 0)) → 0 ≤ x11 → x11 < (S 1024 0) → ((S 1100001 (x11)) = 1 → 0 ≤ (S 1100002 (x11)) ∧ ((S 11 (x11)) = 3 → (S 12 (5 * (x11) + 1)) < (x11)) ∧ ((S 11 (x11)) = 4 ∨ (S 11 (x11)) = 5 ∨ (S 11 (x11)) = 8 ∨ (S 11 (x11)) = 9 → 17 * (S 1100005 (x11)) + 2 ≤ (S 1100002 (x11))) ∧ 0 ≤ (S 1100005 (x11))) ∧ ((S 1100001 (x11)) = 2 → 0 ≤ (S 1100005 (x11)) ∧ (S 1100002 (x11)) ≤ 17 * (S 1100005 (x11)) + 5 ∧ ((S 11 (x11)) = 33 → 1 ≤ (S 1100005 (x11)))) ∧ ((S 1100001 (x11)) = 6 → 0 ≤ (S 1100002 (x11)) ∧ 1 ≤ (S 1100004 (x11)) ∧ ((S 12 (5 * (x11))) = - 1 → (S 1100004 (x11)) = 2)) ∧ ((S 1100001 (x11)) = 3 → 1 ≤ (S 1100002 (x11)))) → (0 ≤ (S 1053 0) ∧ (S 1053 0) ≤ 100000) ∧ (∀ r25 : Int, sv_R r25 → ∀ g21 : sv_S, (r25 = (S 1053 0) ∧ (g21 1053 0) = r25 + 1) → (sv_R ((S 1100007 (S 1046 0)))) ∧ (sv_R ((S 1100023 (S 1046 0)))) ∧ (sv_R ((S 1100025 (S 1046 0)))) ∧ (sv_R ((S 1056 0))) ∧ (((S 1047 0) = 0 → sm_KC (S 26) (S 27) (S 28) (S 29) (S 1100007) (S 1100023) (S 1100024) (S 1100025) (S 31) (S 1100009) (S 1100027) (S 1100028) (S 1100026) (S 1100030) (S 21) (S 32) (S 33) (S 1046 0) r25 (S 1056 0) (S 1032 0) (S 1007 0) (S 1100033 0) → (g21 1053 0) = r25 + 1 → sm_KC (S 26) (S 27) (S 28) (S 29) (S 1100007) (S 1100023) (S 1100024) (S 1100025) (S 31) (fun i' : Int => if i' = r25 then ((S 1100007 (S 1046 0))) else (S 1100009) i') (fun i' : Int => if i' = r25 then ((S 1100023 (S 1046 0))) else (S 1100027) i') (fun i' : Int => if i' = r25 then ((S 1100025 (S 1046 0))) else (S 1100028) i') (fun i' : Int => if i' = r25 then ((S 1056 0)) else (S 1100026) i') (fun i' : Int => if i' = r25 then (0 : Int) else (S 1100030) i') (S 21) (S 32) (S 33) (S 1046 0) (g21 1053 0) (S 1056 0) (S 1032 0) (S 1007 0) (S 1100033 0)) → (((¬ (S 11 p1) = (12 : Int)) → (0 ≤ (S 1046 0) ∧ (S 1046 0) ≤ 600 ∧ 0 ≤ (S 1047 0) ∧ (S 1047 0) ≤ 1 ∧ ((S 1047 0) = 0 → sm_KC (S 26) (S 27) (S 28) (S 29) (S 1100007) (S 1100023) (S 1100024) (S 1100025) (S 31) (fun i' : Int => if i' = r25 then ((S 1100007 (S 1046 0))) else (S 1100009) i') (fun i' : Int => if i' = r25 then ((S 1100023 (S 1046 0))) else (S 1100027) i') (fun i' : Int => if i' = r25 then ((S 1100025 (S 1046 0))) else (S 1100028) i') (fun i' : Int => if i' = r25 then ((S 1056 0)) else (S 1100026) i') (fun i' : Int => if i' = r25 then (0 : Int) else (S 1100030) i') (S 21) (S 32) (S 33) (S 1046 0) (g21 1053 0) (S 1056 0) (S 1032 0) (S 1007 0) (S 1100033 0) ∧ 0 ≤ (24 : Int) ∧ (24 : Int) ≤ 30 ∧ sm_ci (24 : Int) (r25) ((0 : Int)) (S 1100007 (S 1046 0)) (S 1100023 (S 1046 0)) (S 1100024 (S 1046 0)) (S 1100025 (S 1046 0)) (S 1100007 (S 1100023 (S 1046 0))) (S 1100007 (S 1100025 (S 1046 0))) (S 1100023 (S 1100023 (S 1046 0))) (S 1100025 (S 1100025 (S 1046 0))) (S 1046 0) (S 1100033 0) (S 1032 0) (S 1007 0) (S 21 r25) (S 1056 0) ((S 1100007 (S 1046 0)) + sm_dl (24 : Int) (r25)) (sm_nt (24 : Int) (S 1046 0) (S 1100023 (S 1046 0)) (S 1100023 (S 1100023 (S 1046 0)))) (sm_nl (24 : Int) (S 1046 0) (S 1100007 (S 1046 0)) (S 1100025 (S 1046 0)) (S 1100007 (S 1100025 (S 1046 0))) (S 1100025 (S 1100025 (S 1046 0)))) (if r25 = r25 then ((S 1100007 (S 1046 0))) else (S 1100009 r25)) (if r25 = r25 then ((S 1100023 (S 1046 0))) else (S 1100027 r25)) (if r25 = r25 then ((S 1100025 (S 1046 0))) else (S 1100028 r25)) ∧ ((21 ≤ (24 : Int) ∧ (24 : Int) ≤ 24) ∨ (24 : Int) = 27 ∨ (24 : Int) = 30 → 0 ≤ r25 ∧ r25 < (g21 1053 0) ∧ (if r25 = r25 then ((S 1056 0)) else (S 1100026 r25)) = (S 1056 0)) ∧ ((24 : Int) = 1 ∨ (24 : Int) = 2 → sm_vv (S 21) (S 32) (S 33) (S 1056 0) r25 (0 : Int)))) ∧ (∀ g43 : sv_S, (0 ≤ (g43 1047 0) ∧ (g43 1047 0) ≤ 1 ∧ 1 ≤ (g43 1046 0) ∧ (S 1046 0) ≤ (g43 1046 0) ∧ (g43 1046 0) ≤ (S 1046 0) + 1 ∧ (g43 1046 0) ≤ 600 ∧ ((S 1047 0) = 1 → (g43 1047 0) = 1) ∧ ((g43 1047 0) = 1 → (S 1047 0) = 1 ∨ (S 1046 0) = 600) ∧ sm_F1 (S 26) (g43 26) (S 1046 0) ∧ sm_F1 (S 27) (g43 27) (S 1046 0) ∧ sm_F1 (S 28) (g43 28) (S 1046 0) ∧ sm_F1 (S 29) (g43 29) (S 1046 0) ∧ sm_F1 (S 1100007) (g43 1100007) ((S 1046 0) + 1) ∧ sm_F1 (S 1100023) (g43 1100023) ((S 1046 0) + 1) ∧ sm_F1 (S 1100024) (g43 1100024) ((S 1046 0) + 1) ∧ sm_F1 (S 1100025) (g43 1100025) ((S 1046 0) + 1) ∧ ((g43 1047 0) = 0 → (S 1047 0) = 0 ∧ (g43 1046 0) = (S 1046 0) + 1 ∧ sm_KC (g43 26) (g43 27) (g43 28) (g43 29) (g43 1100007) (g43 1100023) (g43 1100024) (g43 1100025) (S 31) (fun i' : Int => if i' = r25 then ((S 1100007 (S 1046 0))) else (S 1100009) i') (fun i' : Int => if i' = r25 then ((S 1100023 (S 1046 0))) else (S 1100027) i') (fun i' : Int => if i' = r25 then ((S 1100025 (S 1046 0))) else (S 1100028) i') (fun i' : Int => if i' = r25 then ((S 1056 0)) else (S 1100026) i') (fun i' : Int => if i' = r25 then (0 : Int) else (S 1100030) i') (S 21) (S 32) (S 33) (g43 1046 0) (g21 1053 0) (S 1056 0) (S 1032 0) (S 1007 0) (S 1100033 0) ∧ sm_MB (S 31) (fun i' : Int => if i' = r25 then (0 : Int) else (S 1100030) i') (g21 1053 0) (g43 1046 0) ∧ (g43 26 (S 1046 0)) = (24 : Int) ∧ (g43 29 (S 1046 0)) = (S 1056 0) ∧ (g43 1100007 (g43 1046 0)) = ((S 1100007 (S 1046 0)) + sm_dl (24 : Int) (r25)) ∧ (g43 1100023 (g43 1046 0)) = (sm_nt (24 : Int) (S 1046 0) (S 1100023 (S 1046 0)) (S 1100023 (S 1100023 (S 1046 0)))) ∧ (g43 1100024 (g43 1046 0)) = (sm_nd (24 : Int) (S 1100024 (S 1046 0))) ∧ (g43 1100025 (g43 1046 0)) = (sm_nl (24 : Int) (S 1046 0) (S 1100007 (S 1046 0)) (S 1100025 (S 1046 0)) (S 1100007 (S 1100025 (S 1046 0))) (S 1100025 (S 1100025 (S 1046 0)))) ∧ (g43 1100007 (g43 1100023 (g43 1046 0))) = sm_nt (24 : Int) (S 1100007 (S 1046 0)) (S 1100007 (S 1100023 (S 1046 0))) (S 1100007 (S 1100023 (S 1100023 (S 1046 0)))) ∧ ((24 : Int) = 29 → (g43 1100007 (g43 1100025 (g43 1046 0))) = (S 1100007 (S 1046 0))) ∧ ((24 : Int) = 17 → 0 ≤ (S 1100025 (S 1046 0)) → (S 1100007 (S 1100025 (S 1046 0))) = (S 1100007 (S 1046 0)) → (g43 1100007 (g43 1100025 (g43 1046 0))) = (S 1100007 (S 1100025 (S 1100025 (S 1046 0))))) ∧ (¬ (24 : Int) = 29 → ((24 : Int) = 17 → 0 ≤ (S 1100025 (S 1046 0)) → (S 1100007 (S 1100025 (S 1046 0))) < (S 1100007 (S 1046 0))) → (g43 1100007 (g43 1100025 (g43 1046 0))) = (S 1100007 (S 1100025 (S 1046 0)))))) → (sm_WF (S 11) (S 12) (S 13) (S 1100001) (S 1100002) (S 1100005) (S 1100003) (S 1100004) (S 1024 0) (S 1007 0) (S 1009 0) (sm_fn (S 1032 0) (S 21) (S 1056 0)) ∧ (S 1009 0) = 0 ∧ 0 ≤ (S 1007 0) ∧ (S 1007 0) ≤ 90 ∧ 0 ≤ (S 1024 0) ∧ (S 1024 0) ≤ 12000 ∧ 1 ≤ (S 1032 0) ∧ (S 1032 0) ≤ 11 ∧ 0 ≤ (S 1056 0) ∧ (S 1056 0) < (S 1032 0) ∧ sm_VB (S 33) (S 21) (S 1032 0) ∧ 0 ≤ (g43 1046 0) ∧ (g43 1046 0) ≤ 600 ∧ 0 ≤ (g43 1047 0) ∧ (g43 1047 0) ≤ 1 ∧ 0 ≤ (g21 1053 0) ∧ 0 ≤ (S 1066 0) ∧ 0 ≤ x11 ∧ x11 < (S 1024 0) ∧ (S 1100001 x11) = 1 ∧ sm_LF (S 39) (S 1100002) (S 1066 0) (S 1024 0) (12001 * (S 1100002 x11) + x11) ∧ ((g43 1047 0) = 0 → sm_KC (g43 26) (g43 27) (g43 28) (g43 29) (g43 1100007) (g43 1100023) (g43 1100024) (g43 1100025) (S 31) (fun i' : Int => if i' = r25 then ((S 1100007 (S 1046 0))) else (S 1100009) i') (fun i' : Int => if i' = r25 then ((S 1100023 (S 1046 0))) else (S 1100027) i') (fun i' : Int => if i' = r25 then ((S 1100025 (S 1046 0))) else (S 1100028) i') (fun i' : Int => if i' = r25 then ((S 1056 0)) else (S 1100026) i') (fun i' : Int => if i' = r25 then (0 : Int) else (S 1100030) i') (S 21) (S 32) (S 33) (g43 1046 0) (g21 1053 0) (S 1056 0) (S 1032 0) (S 1007 0) (S 1100033 0) ∧ (S 1100033 0) = (S 1055 0) ∧ 0 ≤ (S 1055 0) ∧ (S 1055 0) ≤ (g43 1046 0) ∧ (0 ≤ (g43 1100023 (g43 1046 0)) → (g43 1100007 (g43 1100023 (g43 1046 0))) ≤ (g43 1100007 (g43 1046 0))) ∧ (0 ≤ (g43 1100025 (g43 1046 0)) → (g43 1100007 (g43 1100025 (g43 1046 0))) ≤ (g43 1100007 (g43 1046 0))) ∧ (g43 1100007 (g43 1046 0)) ≤ (g43 1046 0) ∧ (g21 1053 0) + 3 * (600 - (g43 1046 0)) + (S 1100002 x11) ≤ 8000)) ∧ (0 ≤ ((if (g43 1047 0) = 0 then (S 1100002 x11) + (600 - (g43 1046 0)) + 8 else 4)) ∧ ((if (g43 1047 0) = 0 then (S 1100002 x11) + (600 - (g43 1046 0)) + 8 else 4)) < d) ∧ (0 ≤ ((if (g43 1047 0) = 0 then (S 1100002 x11) + (600 - (g43 1046 0)) + 8 else 4)) ∧ ((if (g43 1047 0) = 0 then (S 1100002 x11) + (600 - (g43 1046 0)) + 8 else 4)) + 1 ≤ ((S 1100002 p1) + (600 - (S 1046 0)) + 8)) ∧ (∀ g51 : sv_S, (0 ≤ (g51 1046 0) ∧ (g51 1046 0) ≤ 600 ∧ 0 ≤ (g51 1047 0) ∧ (g51 1047 0) ≤ 1 ∧ 0 ≤ (g51 1053 0) ∧ 0 ≤ (g51 1066 0) ∧ (g43 1046 0) ≤ (g51 1046 0) ∧ ((g43 1047 0) = 1 → (g51 1047 0) = 1) ∧ sm_F1 (g43 26) (g51 26) (g43 1046 0) ∧ sm_F1 (g43 27) (g51 27) (g43 1046 0) ∧ sm_F1 (g43 28) (g51 28) (g43 1046 0) ∧ sm_F1 (g43 29) (g51 29) (g43 1046 0) ∧ sm_F1 (g43 1100007) (g51 1100007) ((g43 1046 0) + 1) ∧ sm_F1 (g43 1100023) (g51 1100023) ((g43 1046 0) + 1) ∧ sm_F1 (g43 1100024) (g51 1100024) ((g43 1046 0) + 1) ∧ sm_F1 (g43 1100025) (g51 1100025) ((g43 1046 0) + 1) ∧ sm_F1 (fun i' : Int => if i' = r25 then ((S 1100007 (S 1046 0))) else (S 1100009) i') (g51 1100009) (g21 1053 0) ∧ sm_F1 (fun i' : Int => if i' = r25 then ((S 1100023 (S 1046 0))) else (S 1100027) i') (g51 1100027) (g21 1053 0) ∧ sm_F1 (fun i' : Int => if i' = r25 then ((S 1100025 (S 1046 0))) else (S 1100028) i') (g51 1100028) (g21 1053 0) ∧ sm_F1 (fun i' : Int => if i' = r25 then ((S 1056 0)) else (S 1100026) i') (g51 1100026) (g21 1053 0) ∧ sm_F1 (fun i' : Int => if i' = r25 then (0 : Int) else (S 1100030) i') (g51 1100030) (g21 1053 0) ∧ sm_F1 (S 31) (g51 31) (g21 1053 0) ∧ (g21 1053 0) ≤ (g51 1053 0) ∧ (g51 1066 0) = (S 1066 0) ∧ sm_F1 (S 39) (g51 39) (S 1066 0) ∧ ((g43 1047 0) = 1 → (g51 1053 0) = (g21 1053 0)) ∧ ((g43 1047 0) = 0 → (g51 1053 0) ≤ (g21 1053 0) + 3 * (600 - (g43 1046 0)) + (S 1100002 x11)) ∧ ((g51 1047 0) = 0 → (g43 1047 0) = 0 ∧ sm_KC (g51 26) (g51 27) (g51 28) (g51 29) (g51 1100007) (g51 1100023) (g51 1100024) (g51 1100025) (g51 31) (g51 1100009) (g51 1100027) (g51 1100028) (g51 1100026) (g51 1100030) (S 21) (S 32) (S 33) (g51 1046 0) (g51 1053 0) (S 1056 0) (S 1032 0) (S 1007 0) (g51 1100033 0) ∧ (g51 1100033 0) = (g51 1055 0) ∧ 0 ≤ (g51 1055 0) ∧ (g51 1055 0) ≤ (g51 1046 0) ∧ (g43 1046 0) + 1 ≤ (g51 1046 0) ∧ sm_FC (g51 29) (g43 1046 0) (g51 1046 0) (S 1056 0) ∧ (g51 1100007 (g51 1046 0)) = (g43 1100007 (g43 1046 0)) + 1 ∧ (g51 1100023 (g51 1046 0)) = (g43 1100023 (g43 1046 0)) ∧ (g51 1100024 (g51 1046 0)) = (g43 1100024 (g43 1046 0)) ∧ (g51 1100025 (g51 1046 0)) = (g43 1100025 (g43 1046 0)) ∧ (g51 1100007 (g51 1100023 (g51 1046 0))) = (g43 1100007 (g43 1100023 (g43 1046 0))) ∧ (g51 1100007 (g51 1100025 (g51 1046 0))) = (g43 1100007 (g43 1100025 (g43 1046 0))) ∧ sm_AP (g51 1100030) (g21 1053 0) (g51 1053 0) ∧ sm_HB (g51 1100007) (g43 1046 0) (g51 1046 0) (2 * (g43 1100007 (g43 1046 0)) + ((g51 1046 0) - (g43 1046 0)) + 8 * (S 1100005 x11) + 10) ∧ (g51 1053 0) ≤ (g21 1053 0) + 3 * ((g51 1046 0) - (g43 1046 0)) ∧ True)) → (0 ≤ r25 ∧ r25 < 8000 ∧ ((g51 1047 0) = 0 → sm_KC (g51 26) (g51 27) (g51 28) (g51 29) (g51 1100007) (g51 1100023) (g51 1100024) (g51 1100025) (g51 31) (g51 1100009) (g51 1100027) (g51 1100028) (g51 1100026) (g51 1100030) (S 21) (S 32) (S 33) (g51 1046 0) (g51 1053 0) (S 1056 0) (S 1032 0) (S 1007 0) (g51 1100033 0) ∧ r25 < (g51 1053 0) ∧ (g51 1100007 (g51 1046 0)) = (g51 1100009 r25) ∧ (g51 1100023 (g51 1046 0)) = (g51 1100027 r25) ∧ (g51 1100025 (g51 1046 0)) = (g51 1100028 r25) ∧ (S 1056 0) = (g51 1100026 r25))) ∧ (∀ g57 : sv_S, (((g51 1047 0) = 0 → sm_KC (g51 26) (g51 27) (g51 28) (g51 29) (g51 1100007) (g51 1100023) (g51 1100024) (g51 1100025) (g57 31) (g51 1100009) (g51 1100027) (g51 1100028) (g51 1100026) (g57 1100030) (S 21) (S 32) (S 33) (g51 1046 0) (g51 1053 0) (S 1056 0) (S 1032 0) (S 1007 0) (g51 1100033 0)) ∧ (g57 1100030 r25) = 1 ∧ (∀ k : Int, ¬ k = r25 → (g57 1100030 k) = (g51 1100030 k)) ∧ (∀ k : Int, ¬ k = r25 → (g57 31 k) = (g51 31 k))) → (0 ≤ (g51 1046 0) ∧ (g51 1046 0) ≤ 600 ∧ 0 ≤ (g51 1047 0) ∧ (g51 1047 0) ≤ 1 ∧ 0 ≤ (g51 1053 0) ∧ 0 ≤ (g51 1066 0) ∧ (S 1046 0) ≤ (g51 1046 0) ∧ ((S 1047 0) = 1 → (g51 1047 0) = 1) ∧ sm_F1 (S 26) (g51 26) (S 1046 0) ∧ sm_F1 (S 27) (g51 27) (S 1046 0) ∧ sm_F1 (S 28) (g51 28) (S 1046 0) ∧ sm_F1 (S 29) (g51 29) (S 1046 0) ∧ sm_F1 (S 1100007) (g51 1100007) ((S 1046 0) + 1) ∧ sm_F1 (S 1100023) (g51 1100023) ((S 1046 0) + 1) ∧ sm_F1 (S 1100024) (g51 1100024) ((S 1046 0) + 1) ∧ sm_F1 (S 1100025) (g51 1100025) ((S 1046 0) + 1) ∧ sm_F1 (S 1100009) (g51 1100009) (S 1053 0) ∧ sm_F1 (S 1100027) (g51 1100027) (S 1053 0) ∧ sm_F1 (S 1100028) (g51 1100028) (S 1053 0) ∧ sm_F1 (S 1100026) (g51 1100026) (S 1053 0) ∧ sm_F1 (S 1100030) (g57 1100030) (S 1053 0) ∧ sm_F1 (S 31) (g57 31) (S 1053 0) ∧ (S 1053 0) ≤ (g51 1053 0) ∧ (g51 1066 0) = (S 1066 0) ∧ sm_F1 (S 39) (g51 39) (S 1066 0) ∧ ((S 1047 0) = 1 → (g51 1053 0) = (S 1053 0)) ∧ ((S 1047 0) = 0 → (g51 1053 0) ≤ (S 1053 0) + 3 * (600 - (S 1046 0)) + (S 1100002 p1)) ∧ ((g51 1047 0) = 0 → (S 1047 0) = 0 ∧ sm_KC (g51 26) (g51 27) (g51 28) (g51 29) (g51 1100007) (g51 1100023) (g51 1100024) (g51 1100025) (g57 31) (g51 1100009) (g51 1100027) (g51 1100028) (g51 1100026) (g57 1100030) (S 21) (S 32) (S 33) (g51 1046 0) (g51 1053 0) (S 1056 0) (S 1032 0) (S 1007 0) (g51 1100033 0) ∧ (g51 1100033 0) = (g51 1055 0) ∧ 0 ≤ (g51 1055 0) ∧ (g51 1055 0) ≤ (g51 1046 0) ∧ (S 1046 0) + 1 ≤ (g51 1046 0) ∧ sm_FC (g51 29) (S 1046 0) (g51 1046 0) (S 1056 0) ∧ (g51 1100007 (g51 1046 0)) = (S 1100007 (S 1046 0)) + (0 - sm_cd (S 11) (S 12) (S 14) (p1)) ∧ (g51 1100023 (g51 1046 0)) = (S 1100023 (S 1046 0)) ∧ (g51 1100024 (g51 1046 0)) = (S 1100024 (S 1046 0)) ∧ (g51 1100025 (g51 1046 0)) = (S 1100025 (S 1046 0)) ∧ (g51 1100007 (g51 1100023 (g51 1046 0))) = (S 1100007 (S 1100023 (S 1046 0))) ∧ (g51 1100007 (g51 1100025 (g51 1046 0))) = (S 1100007 (S 1100025 (S 1046 0))) ∧ sm_AP (g57 1100030) (S 1053 0) (g51 1053 0) ∧ sm_HB (g51 1100007) (S 1046 0) (g51 1046 0) (2 * ((S 1100007 (S 1046 0)) - (1 + sm_cd (S 11) (S 12) (S 14) (p1))) + (1 + sm_cd (S 11) (S 12) (S 14) (p1)) + ((g51 1046 0) - (S 1046 0)) + 8 * (S 1100005 p1) + 10) ∧ (g51 1053 0) ≤ (S 1053 0) + 3 * ((g51 1046 0) - (S 1046 0)) ∧ True)))))) ∧ ((¬ (¬ (S 11 p1) = (12 : Int))) → (0 ≤ (S 1046 0) ∧ (S 1046 0) ≤ 600 ∧ 0 ≤ (S 1047 0) ∧ (S 1047 0) ≤ 1 ∧ ((S 1047 0) = 0 → sm_KC (S 26) (S 27) (S 28) (S 29) (S 1100007) (S 1100023) (S 1100024) (S 1100025) (S 31) (fun i' : Int => if i' = r25 then ((S 1100007 (S 1046 0))) else (S 1100009) i') (fun i' : Int => if i' = r25 then ((S 1100023 (S 1046 0))) else (S 1100027) i') (fun i' : Int => if i' = r25 then ((S 1100025 (S 1046 0))) else (S 1100028) i') (fun i' : Int => if i' = r25 then ((S 1056 0)) else (S 1100026) i') (fun i' : Int => if i' = r25 then (0 : Int) else (S 1100030) i') (S 21) (S 32) (S 33) (S 1046 0) (g21 1053 0) (S 1056 0) (S 1032 0) (S 1007 0) (S 1100033 0) ∧ 0 ≤ (23 : Int) ∧ (23 : Int) ≤ 30 ∧ sm_ci (23 : Int) (r25) ((0 : Int)) (S 1100007 (S 1046 0)) (S 1100023 (S 1046 0)) (S 1100024 (S 1046 0)) (S 1100025 (S 1046 0)) (S 1100007 (S 1100023 (S 1046 0))) (S 1100007 (S 1100025 (S 1046 0))) (S 1100023 (S 1100023 (S 1046 0))) (S 1100025 (S 1100025 (S 1046 0))) (S 1046 0) (S 1100033 0) (S 1032 0) (S 1007 0) (S 21 r25) (S 1056 0) ((S 1100007 (S 1046 0)) + sm_dl (23 : Int) (r25)) (sm_nt (23 : Int) (S 1046 0) (S 1100023 (S 1046 0)) (S 1100023 (S 1100023 (S 1046 0)))) (sm_nl (23 : Int) (S 1046 0) (S 1100007 (S 1046 0)) (S 1100025 (S 1046 0)) (S 1100007 (S 1100025 (S 1046 0))) (S 1100025 (S 1100025 (S 1046 0)))) (if r25 = r25 then ((S 1100007 (S 1046 0))) else (S 1100009 r25)) (if r25 = r25 then ((S 1100023 (S 1046 0))) else (S 1100027 r25)) (if r25 = r25 then ((S 1100025 (S 1046 0))) else (S 1100028 r25)) ∧ ((21 ≤ (23 : Int) ∧ (23 : Int) ≤ 24) ∨ (23 : Int) = 27 ∨ (23 : Int) = 30 → 0 ≤ r25 ∧ r25 < (g21 1053 0) ∧ (if r25 = r25 then ((S 1056 0)) else (S 1100026 r25)) = (S 1056 0)) ∧ ((23 : Int) = 1 ∨ (23 : Int) = 2 → sm_vv (S 21) (S 32) (S 33) (S 1056 0) r25 (0 : Int)))) ∧ (∀ g63 : sv_S, (0 ≤ (g63 1047 0) ∧ (g63 1047 0) ≤ 1 ∧ 1 ≤ (g63 1046 0) ∧ (S 1046 0) ≤ (g63 1046 0) ∧ (g63 1046 0) ≤ (S 1046 0) + 1 ∧ (g63 1046 0) ≤ 600 ∧ ((S 1047 0) = 1 → (g63 1047 0) = 1) ∧ ((g63 1047 0) = 1 → (S 1047 0) = 1 ∨ (S 1046 0) = 600) ∧ sm_F1 (S 26) (g63 26) (S 1046 0) ∧ sm_F1 (S 27) (g63 27) (S 1046 0) ∧ sm_F1 (S 28) (g63 28) (S 1046 0) ∧ sm_F1 (S 29) (g63 29) (S 1046 0) ∧ sm_F1 (S 1100007) (g63 1100007) ((S 1046 0) + 1) ∧ sm_F1 (S 1100023) (g63 1100023) ((S 1046 0) + 1) ∧ sm_F1 (S 1100024) (g63 1100024) ((S 1046 0) + 1) ∧ sm_F1 (S 1100025) (g63 1100025) ((S 1046 0) + 1) ∧ ((g63 1047 0) = 0 → (S 1047 0) = 0 ∧ (g63 1046 0) = (S 1046 0) + 1 ∧ sm_KC (g63 26) (g63 27) (g63 28) (g63 29) (g63 1100007) (g63 1100023) (g63 1100024) (g63 1100025) (S 31) (fun i' : Int => if i' = r25 then ((S 1100007 (S 1046 0))) else (S 1100009) i') (fun i' : Int => if i' = r25 then ((S 1100023 (S 1046 0))) else (S 1100027) i') (fun i' : Int => if i' = r25 then ((S 1100025 (S 1046 0))) else (S 1100028) i') (fun i' : Int => if i' = r25 then ((S 1056 0)) else (S 1100026) i') (fun i' : Int => if i' = r25 then (0 : Int) else (S 1100030) i') (S 21) (S 32) (S 33) (g63 1046 0) (g21 1053 0) (S 1056 0) (S 1032 0) (S 1007 0) (S 1100033 0) ∧ sm_MB (S 31) (fun i' : Int => if i' = r25 then (0 : Int) else (S 1100030) i') (g21 1053 0) (g63 1046 0) ∧ (g63 26 (S 1046 0)) = (23 : Int) ∧ (g63 29 (S 1046 0)) = (S 1056 0) ∧ (g63 1100007 (g63 1046 0)) = ((S 1100007 (S 1046 0)) + sm_dl (23 : Int) (r25)) ∧ (g63 1100023 (g63 1046 0)) = (sm_nt (23 : Int) (S 1046 0) (S 1100023 (S 1046 0)) (S 1100023 (S 1100023 (S 1046 0)))) ∧ (g63 1100024 (g63 1046 0)) = (sm_nd (23 : Int) (S 1100024 (S 1046 0))) ∧ (g63 1100025 (g63 1046 0)) = (sm_nl (23 : Int) (S 1046 0) (S 1100007 (S 1046 0)) (S 1100025 (S 1046 0)) (S 1100007 (S 1100025 (S 1046 0))) (S 1100025 (S 1100025 (S 1046 0)))) ∧ (g63 1100007 (g63 1100023 (g63 1046 0))) = sm_nt (23 : Int) (S 1100007 (S 1046 0)) (S 1100007 (S 1100023 (S 1046 0))) (S 1100007 (S 1100023 (S 1100023 (S 1046 0)))) ∧ ((23 : Int) = 29 → (g63 1100007 (g63 1100025 (g63 1046 0))) = (S 1100007 (S 1046 0))) ∧ ((23 : Int) = 17 → 0 ≤ (S 1100025 (S 1046 0)) → (S 1100007 (S 1100025 (S 1046 0))) = (S 1100007 (S 1046 0)) → (g63 1100007 (g63 1100025 (g63 1046 0))) = (S 1100007 (S 1100025 (S 1100025 (S 1046 0))))) ∧ (¬ (23 : Int) = 29 → ((23 : Int) = 17 → 0 ≤ (S 1100025 (S 1046 0)) → (S 1100007 (S 1100025 (S 1046 0))) < (S 1100007 (S 1046 0))) → (g63 1100007 (g63 1100025 (g63 1046 0))) = (S 1100007 (S 1100025 (S 1046 0)))))) → (sm_WF (S 11) (S 12) (S 13) (S 1100001) (S 1100002) (S 1100005) (S 1100003) (S 1100004) (S 1024 0) (S 1007 0) (S 1009 0) (sm_fn (S 1032 0) (S 21) (S 1056 0)) ∧ (S 1009 0) = 0 ∧ 0 ≤ (S 1007 0) ∧ (S 1007 0) ≤ 90 ∧ 0 ≤ (S 1024 0) ∧ (S 1024 0) ≤ 12000 ∧ 1 ≤ (S 1032 0) ∧ (S 1032 0) ≤ 11 ∧ 0 ≤ (S 1056 0) ∧ (S 1056 0) < (S 1032 0) ∧ sm_VB (S 33) (S 21) (S 1032 0) ∧ 0 ≤ (g63 1046 0) ∧ (g63 1046 0) ≤ 600 ∧ 0 ≤ (g63 1047 0) ∧ (g63 1047 0) ≤ 1 ∧ 0 ≤ (g21 1053 0) ∧ 0 ≤ (S 1066 0) ∧ 0 ≤ x11 ∧ x11 < (S 1024 0) ∧ (S 1100001 x11) = 1 ∧ sm_LF (S 39) (S 1100002) (S 1066 0) (S 1024 0) (12001 * (S 1100002 x11) + x11) ∧ ((g63 1047 0) = 0 → sm_KC (g63 26) (g63 27) (g63 28) (g63 29) (g63 1100007) (g63 1100023) (g63 1100024) (g63 1100025) (S 31) (fun i' : Int => if i' = r25 then ((S 1100007 (S 1046 0))) else (S 1100009) i') (fun i' : Int => if i' = r25 then ((S 1100023 (S 1046 0))) else (S 1100027) i') (fun i' : Int => if i' = r25 then ((S 1100025 (S 1046 0))) else (S 1100028) i') (fun i' : Int => if i' = r25 then ((S 1056 0)) else (S 1100026) i') (fun i' : Int => if i' = r25 then (0 : Int) else (S 1100030) i') (S 21) (S 32) (S 33) (g63 1046 0) (g21 1053 0) (S 1056 0) (S 1032 0) (S 1007 0) (S 1100033 0) ∧ (S 1100033 0) = (S 1055 0) ∧ 0 ≤ (S 1055 0) ∧ (S 1055 0) ≤ (g63 1046 0) ∧ (0 ≤ (g63 1100023 (g63 1046 0)) → (g63 1100007 (g63 1100023 (g63 1046 0))) ≤ (g63 1100007 (g63 1046 0))) ∧ (0 ≤ (g63 1100025 (g63 1046 0)) → (g63 1100007 (g63 1100025 (g63 1046 0))) ≤ (g63 1100007 (g63 1046 0))) ∧ (g63 1100007 (g63 1046 0)) ≤ (g63 1046 0) ∧ (g21 1053 0) + 3 * (600 - (g63 1046 0)) + (S 1100002 x11) ≤ 8000)) ∧ (0 ≤ ((if (g63 1047 0) = 0 then (S 1100002 x11) + (600 - (g63 1046 0)) + 8 else 4)) ∧ ((if (g63 1047 0) = 0 then (S 1100002 x11) + (600 - (g63 1046 0)) + 8 else 4)) < d) ∧ (0 ≤ ((if (g63 1047 0) = 0 then (S 1100002 x11) + (600 - (g63 1046 0)) + 8 else 4)) ∧ ((if (g63 1047 0) = 0 then (S 1100002 x11) + (600 - (g63 1046 0)) + 8 else 4)) + 1 ≤ ((S 1100002 p1) + (600 - (S 1046 0)) + 8)) ∧ (∀ g71 : sv_S, (0 ≤ (g71 1046 0) ∧ (g71 1046 0) ≤ 600 ∧ 0 ≤ (g71 1047 0) ∧ (g71 1047 0) ≤ 1 ∧ 0 ≤ (g71 1053 0) ∧ 0 ≤ (g71 1066 0) ∧ (g63 1046 0) ≤ (g71 1046 0) ∧ ((g63 1047 0) = 1 → (g71 1047 0) = 1) ∧ sm_F1 (g63 26) (g71 26) (g63 1046 0) ∧ sm_F1 (g63 27) (g71 27) (g63 1046 0) ∧ sm_F1 (g63 28) (g71 28) (g63 1046 0) ∧ sm_F1 (g63 29) (g71 29) (g63 1046 0) ∧ sm_F1 (g63 1100007) (g71 1100007) ((g63 1046 0) + 1) ∧ sm_F1 (g63 1100023) (g71 1100023) ((g63 1046 0) + 1) ∧ sm_F1 (g63 1100024) (g71 1100024) ((g63 1046 0) + 1) ∧ sm_F1 (g63 1100025) (g71 1100025) ((g63 1046 0) + 1) ∧ sm_F1 (fun i' : Int => if i' = r25 then ((S 1100007 (S 1046 0))) else (S 1100009) i') (g71 1100009) (g21 1053 0) ∧ sm_F1 (fun i' : Int => if i' = r25 then ((S 1100023 (S 1046 0))) else (S 1100027) i') (g71 1100027) (g21 1053 0) ∧ sm_F1 (fun i' : Int => if i' = r25 then ((S 1100025 (S 1046 0))) else (S 1100028) i') (g71 1100028) (g21 1053 0) ∧ sm_F1 (fun i' : Int => if i' = r25 then ((S 1056 0)) else (S 1100026) i') (g71 1100026) (g21 1053 0) ∧ sm_F1 (fun i' : Int => if i' = r25 then (0 : Int) else (S 1100030) i') (g71 1100030) (g21 1053 0) ∧ sm_F1 (S 31) (g71 31) (g21 1053 0) ∧ (g21 1053 0) ≤ (g71 1053 0) ∧ (g71 1066 0) = (S 1066 0) ∧ sm_F1 (S 39) (g71 39) (S 1066 0) ∧ ((g63 1047 0) = 1 → (g71 1053 0) = (g21 1053 0)) ∧ ((g63 1047 0) = 0 → (g71 1053 0) ≤ (g21 1053 0) + 3 * (600 - (g63 1046 0)) + (S 1100002 x11)) ∧ ((g71 1047 0) = 0 → (g63 1047 0) = 0 ∧ sm_KC (g71 26) (g71 27) (g71 28) (g71 29) (g71 1100007) (g71 1100023) (g71 1100024) (g71 1100025) (g71 31) (g71 1100009) (g71 1100027) (g71 1100028) (g71 1100026) (g71 1100030) (S 21) (S 32) (S 33) (g71 1046 0) (g71 1053 0) (S 1056 0) (S 1032 0) (S 1007 0) (g71 1100033 0) ∧ (g71 1100033 0) = (g71 1055 0) ∧ 0 ≤ (g71 1055 0) ∧ (g71 1055 0) ≤ (g71 1046 0) ∧ (g63 1046 0) + 1 ≤ (g71 1046 0) ∧ sm_FC (g71 29) (g63 1046 0) (g71 1046 0) (S 1056 0) ∧ (g71 1100007 (g71 1046 0)) = (g63 1100007 (g63 1046 0)) + 1 ∧ (g71 1100023 (g71 1046 0)) = (g63 1100023 (g63 1046 0)) ∧ (g71 1100024 (g71 1046 0)) = (g63 1100024 (g63 1046 0)) ∧ (g71 1100025 (g71 1046 0)) = (g63 1100025 (g63 1046 0)) ∧ (g71 1100007 (g71 1100023 (g71 1046 0))) = (g63 1100007 (g63 1100023 (g63 1046 0))) ∧ (g71 1100007 (g71 1100025 (g71 1046 0))) = (g63 1100007 (g63 1100025 (g63 1046 0))) ∧ sm_AP (g71 1100030) (g21 1053 0) (g71 1053 0) ∧ sm_HB (g71 1100007) (g63 1046 0) (g71 1046 0) (2 * (g63 1100007 (g63 1046 0)) + ((g71 1046 0) - (g63 1046 0)) + 8 * (S 1100005 x11) + 10) ∧ (g71 1053 0) ≤ (g21 1053 0) + 3 * ((g71 1046 0) - (g63 1046 0)) ∧ True)) → (0 ≤ r25 ∧ r25 < 8000 ∧ ((g71 1047 0) = 0 → sm_KC (g71 26) (g71 27) (g71 28) (g71 29) (g71 1100007) (g71 1100023) (g71 1100024) (g71 1100025) (g71 31) (g71 1100009) (g71 1100027) (g71 1100028) (g71 1100026) (g71 1100030) (S 21) (S 32) (S 33) (g71 1046 0) (g71 1053 0) (S 1056 0) (S 1032 0) (S 1007 0) (g71 1100033 0) ∧ r25 < (g71 1053 0) ∧ (g71 1100007 (g71 1046 0)) = (g71 1100009 r25) ∧ (g71 1100023 (g71 1046 0)) = (g71 1100027 r25) ∧ (g71 1100025 (g71 1046 0)) = (g71 1100028 r25) ∧ (S 1056 0) = (g71 1100026 r25))) ∧ (∀ g77 : sv_S, (((g71 1047 0) = 0 → sm_KC (g71 26) (g71 27) (g71 28) (g71 29) (g71 1100007) (g71 1100023) (g71 1100024) (g71 1100025) (g77 31) (g71 1100009) (g71 1100027) (g71 1100028) (g71 1100026) (g77 1100030) (S 21) (S 32) (S 33) (g71 1046 0) (g71 1053 0) (S 1056 0) (S 1032 0) (S 1007 0) (g71 1100033 0)) ∧ (g77 1100030 r25) = 1 ∧ (∀ k : Int, ¬ k = r25 → (g77 1100030 k) = (g71 1100030 k)) ∧ (∀ k : Int, ¬ k = r25 → (g77 31 k) = (g71 31 k))) → (0 ≤ (g71 1046 0) ∧ (g71 1046 0) ≤ 600 ∧ 0 ≤ (g71 1047 0) ∧ (g71 1047 0) ≤ 1 ∧ 0 ≤ (g71 1053 0) ∧ 0 ≤ (g71 1066 0) ∧ (S 1046 0) ≤ (g71 1046 0) ∧ ((S 1047 0) = 1 → (g71 1047 0) = 1) ∧ sm_F1 (S 26) (g71 26) (S 1046 0) ∧ sm_F1 (S 27) (g71 27) (S 1046 0) ∧ sm_F1 (S 28) (g71 28) (S 1046 0) ∧ sm_F1 (S 29) (g71 29) (S 1046 0) ∧ sm_F1 (S 1100007) (g71 1100007) ((S 1046 0) + 1) ∧ sm_F1 (S 1100023) (g71 1100023) ((S 1046 0) + 1) ∧ sm_F1 (S 1100024) (g71 1100024) ((S 1046 0) + 1) ∧ sm_F1 (S 1100025) (g71 1100025) ((S 1046 0) + 1) ∧ sm_F1 (S 1100009) (g71 1100009) (S 1053 0) ∧ sm_F1 (S 1100027) (g71 1100027) (S 1053 0) ∧ sm_F1 (S 1100028) (g71 1100028) (S 1053 0) ∧ sm_F1 (S 1100026) (g71 1100026) (S 1053 0) ∧ sm_F1 (S 1100030) (g77 1100030) (S 1053 0) ∧ sm_F1 (S 31) (g77 31) (S 1053 0) ∧ (S 1053 0) ≤ (g71 1053 0) ∧ (g71 1066 0) = (S 1066 0) ∧ sm_F1 (S 39) (g71 39) (S 1066 0) ∧ ((S 1047 0) = 1 → (g71 1053 0) = (S 1053 0)) ∧ ((S 1047 0) = 0 → (g71 1053 0) ≤ (S 1053 0) + 3 * (600 - (S 1046 0)) + (S 1100002 p1)) ∧ ((g71 1047 0) = 0 → (S 1047 0) = 0 ∧ sm_KC (g71 26) (g71 27) (g71 28) (g71 29) (g71 1100007) (g71 1100023) (g71 1100024) (g71 1100025) (g77 31) (g71 1100009) (g71 1100027) (g71 1100028) (g71 1100026) (g77 1100030) (S 21) (S 32) (S 33) (g71 1046 0) (g71 1053 0) (S 1056 0) (S 1032 0) (S 1007 0) (g71 1100033 0) ∧ (g71 1100033 0) = (g71 1055 0) ∧ 0 ≤ (g71 1055 0) ∧ (g71 1055 0) ≤ (g71 1046 0) ∧ (S 1046 0) + 1 ≤ (g71 1046 0) ∧ sm_FC (g71 29) (S 1046 0) (g71 1046 0) (S 1056 0) ∧ (g71 1100007 (g71 1046 0)) = (S 1100007 (S 1046 0)) + (0 - sm_cd (S 11) (S 12) (S 14) (p1)) ∧ (g71 1100023 (g71 1046 0)) = (S 1100023 (S 1046 0)) ∧ (g71 1100024 (g71 1046 0)) = (S 1100024 (S 1046 0)) ∧ (g71 1100025 (g71 1046 0)) = (S 1100025 (S 1046 0)) ∧ (g71 1100007 (g71 1100023 (g71 1046 0))) = (S 1100007 (S 1100023 (S 1046 0))) ∧ (g71 1100007 (g71 1100025 (g71 1046 0))) = (S 1100007 (S 1100025 (S 1046 0))) ∧ sm_AP (g77 1100030) (S 1053 0) (g71 1053 0) ∧ sm_HB (g71 1100007) (S 1046 0) (g71 1046 0) (2 * ((S 1100007 (S 1046 0)) - (1 + sm_cd (S 11) (S 12) (S 14) (p1))) + (1 + sm_cd (S 11) (S 12) (S 14) (p1)) + ((g71 1046 0) - (S 1046 0)) + 8 * (S 1100005 p1) + 10) ∧ (g71 1053 0) ≤ (S 1053 0) + 3 * ((g71 1046 0) - (S 1046 0)) ∧ True))))))))))))))) ∧ (((S 11 p1) = (3 : Int)) → ((x11 = (S 12 (5 * p1 + 1)) → sm_WF (S 11) (S 12) (S 13) (S 1100001) (S 1100002) (S 1100005) (S 1100003) (S 1100004) (S 1024 0) (S 1007 0) (S 1009 0) (sm_fn (S 1032 0) (S 21) (S 1056 0)) → 0 ≤ p1 → p1 < (S 1024 0) → (S 1100001 p1) = 1 → (S 11 p1) = 3 → sm_ex (S 1100001) (S 1100002) (S 1100005) (S 1024 0) 1 ((S 12 (5 * (p1)))) ((S 1100002 (p1))) ((S 1100005 (p1))) ∧ (S 12 (5 * (p1))) < (p1) ∧ sm_ex (S 1100001) (S 1100002) (S 1100005) (S 1024 0) 1 (x11) ((S 1100002 (p1))) ((S 1100005 (p1)))) → ((x11 = (S 12 (5 * p1 + 1)) → sm_WF (S 11) (S 12) (S 13) (S 1100001) (S 1100002) (S 1100005) (S 1100003) (S 1100004) (S 1024 0) (S 1007 0) (S 1009 0) (sm_fn (S 1032 0) (S 21) (S 1056 0)) → 0 ≤ p1 → p1 < (S 1024 0) → ((S 1100001 (p1)) = 1 → 0 ≤ (S 1100002 (p1)) ∧ ((S 11 (p1)) = 3 → x11 < (p1)) ∧ ((S 11 (p1)) = 4 ∨ (S 11 (p1)) = 5 ∨ (S 11 (p1)) = 8 ∨ (S 11 (p1)) = 9 → 17 * (S 1100005 (p1)) + 2 ≤ (S 1100002 (p1))) ∧ 0 ≤ (S 1100005 (p1))) ∧ ((S 1100001 (p1)) = 2 → 0 ≤ (S 1100005 (p1)) ∧ (S 1100002 (p1)) ≤ 17 * (S 1100005 (p1)) + 5 ∧ ((S 11 (p1)) = 33 → 1 ≤ (S 1100005 (p1)))) ∧ ((S 1100001 (p1)) = 6 → 0 ≤ (S 1100002 (p1)) ∧ 1 ≤ (S 1100004 (p1)) ∧ ((S 12 (5 * (p1))) = - 1 → (S 1100004 (p1)) = 2)) ∧ ((S 1100001 (p1)) = 3 → 1 ≤ (S 1100002 (p1)))) → ((sm_WF (S 11) (S 12) (S 13) (S 1100001) (S 1100002) (S 1100005) (S 1100003) (S 1100004) (S 1024 0) (S 1007 0) (S 1009 0) (sm_fn (S 1032 0) (S 21) (S 1056 0)) → 0 ≤ x11 → x11 < (S 1024 0) → ((S 1100001 (x11)) = 1 → 0 ≤ (S 1100002 (x11)) ∧ ((S 11 (x11)) = 3 → (S 12 (5 * (x11) + 1)) < (x11)) ∧ ((S 11 (x11)) = 4 ∨ (S 11 (x11)) = 5 ∨ (S 11 (x11)) = 8 ∨ (S 11 (x11)) = 9 → 17 * (S 1100005 (x11)) + 2 ≤ (S 1100002 (x11))) ∧ 0 ≤ (S 1100005 (x11))) ∧ ((S 1100001 (x11)) = 2 → 0 ≤ (S 1100005 (x11)) ∧ (S 1100002 (x11)) ≤ 17 * (S 1100005 (x11)) + 5 ∧ ((S 11 (x11)) = 33 → 1 ≤ (S 1100005 (x11)))) ∧ ((S 1100001 (x11)) = 6 → 0 ≤ (S 1100002 (x11)) ∧ 1 ≤ (S 1100004 (x11)) ∧ ((S 12 (5 * (x11))) = - 1 → (S 1100004 (x11)) = 2)) ∧ ((S 1100001 (x11)) = 3 → 1 ≤ (S 1100002 (x11)))) → (0 ≤ (S 1046 0) ∧ (S 1046 0) ≤ 600 ∧ 0 ≤ (S 1047 0) ∧ (S 1047 0) ≤ 1 ∧ ((S 1047 0) = 0 → sm_KC (S 26) (S 27) (S 28) (S 29) (S 1100007) (S 1100023) (S 1100024) (S 1100025) (S 31) (S 1100009) (S 1100027) (S 1100028) (S 1100026) (S 1100030) (S 21) (S 32) (S 33) (S 1046 0) (S 1053 0) (S 1056 0) (S 1032 0) (S 1007 0) (S 1100033 0) ∧ 0 ≤ (17 : Int) ∧ (17 : Int) ≤ 30 ∧ sm_ci (17 : Int) ((0 : Int)) ((0 : Int)) (S 1100007 (S 1046 0)) (S 1100023 (S 1046 0)) (S 1100024 (S 1046 0)) (S 1100025 (S 1046 0)) (S 1100007 (S 1100023 (S 1046 0))) (S 1100007 (S 1100025 (S 1046 0))) (S 1100023 (S 1100023 (S 1046 0))) (S 1100025 (S 1100025 (S 1046 0))) (S 1046 0) (S 1100033 0) (S 1032 0) (S 1007 0) (S 21 (0 : Int)) (S 1056 0) ((S 1100007 (S 1046 0)) + sm_dl (17 : Int) ((0 : Int))) (sm_nt (17 : Int) (S 1046 0) (S 1100023 (S 1046 0)) (S 1100023 (S 1100023 (S 1046 0)))) (sm_nl (17 : Int) (S 1046 0) (S 1100007 (S 1046 0)) (S 1100025 (S 1046 0)) (S 1100007 (S 1100025 (S 1046 0))) (S 1100025 (S 1100025 (S 1046 0)))) (S 1100009 (0 : Int)) (S 1100027 (0 : Int)) (S 1100028 (0 : Int)) ∧ ((21 ≤ (17 : Int) ∧ (17 : Int) ≤ 24) ∨ (17 : Int) = 27 ∨ (17 : Int) = 30 → 0 ≤ (0 : Int) ∧ (0 : Int) < (S 1053 0) ∧ (S 1100026 (0 : Int)) = (S 1056 0)) ∧ ((17 : Int) = 1 ∨ (17 : Int) = 2 → sm_vv (S 21) (S 32) (S 33) (S 1056 0) (0 : Int) (0 : Int)))) ∧ (1 + 1 ≤ ((S 1100002 p1) + (600 - (S 1046 0)) + 8)) ∧ (∀ g87 : sv_S, (0 ≤ (g87 1047 0) ∧ (g87 1047 0) ≤ 1 ∧ 1 ≤ (g87 1046 0) ∧ (S 1046 0) ≤ (g87 1046 0) ∧ (g87 1046 0) ≤ (S 1046 0) + 1 ∧ (g87 1046 0) ≤ 600 ∧ ((S 1047 0) = 1 → (g87 1047 0) = 1) ∧ ((g87 1047 0) = 1 → (S 1047 0) = 1 ∨ (S 1046 0) = 600) ∧ sm_F1 (S 26) (g87 26) (S 1046 0) ∧ sm_F1 (S 27) (g87 27) (S 1046 0) ∧ sm_F1 (S 28) (g87 28) (S 1046 0) ∧ sm_F1 (S 29) (g87 29) (S 1046 0) ∧ sm_F1 (S 1100007) (g87 1100007) ((S 1046 0) + 1) ∧ sm_F1 (S 1100023) (g87 1100023) ((S 1046 0) + 1) ∧ sm_F1 (S 1100024) (g87 1100024) ((S 1046 0) + 1) ∧ sm_F1 (S 1100025) (g87 1100025) ((S 1046 0) + 1) ∧ ((g87 1047 0) = 0 → (S 1047 0) = 0 ∧ (g87 1046 0) = (S 1046 0) + 1 ∧ sm_KC (g87 26) (g87 27) (g87 28) (g87 29) (g87 1100007) (g87 1100023) (g87 1100024) (g87 1100025) (S 31) (S 1100009) (S 1100027) (S 1100028) (S 1100026) (S 1100030) (S 21) (S 32) (S 33) (g87 1046 0) (S 1053 0) (S 1056 0) (S 1032 0) (S 1007 0) (S 1100033 0) ∧ sm_MB (S 31) (S 1100030) (S 1053 0) (g87 1046 0) ∧ (g87 26 (S 1046 0)) = (17 : Int) ∧ (g87 29 (S 1046 0)) = (S 1056 0) ∧ (g87 1100007 (g87 1046 0)) = ((S 1100007 (S 1046 0)) + sm_dl (17 : Int) ((0 : Int))) ∧ (g87 1100023 (g87 1046 0)) = (sm_nt (17 : Int) (S 1046 0) (S 1100023 (S 1046 0)) (S 1100023 (S 1100023 (S 1046 0)))) ∧ (g87 1100024 (g87 1046 0)) = (sm_nd (17 : Int) (S 1100024 (S 1046 0))) ∧ (g87 1100025 (g87 1046 0)) = (sm_nl (17 : Int) (S 1046 0) (S 1100007 (S 1046 0)) (S 1100025 (S 1046 0)) (S 1100007 (S 1100025 (S 1046 0))) (S 1100025 (S 1100025 (S 1046 0)))) ∧ (g87 1100007 (g87 1100023 (g87 1046 0))) = sm_nt (17 : Int) (S 1100007 (S 1046 0)) (S 1100007 (S 1100023 (S 1046 0))) (S 1100007 (S 1100023 (S 1100023 (S 1046 0)))) ∧ ((17 : Int) = 29 → (g87 1100007 (g87 1100025 (g87 1046 0))) = (S 1100007 (S 1046 0))) ∧ ((17 : Int) = 17 → 0 ≤ (S 1100025 (S 1046 0)) → (S 1100007 (S 1100025 (S 1046 0))) = (S 1100007 (S 1046 0)) → (g87 1100007 (g87 1100025 (g87 1046 0))) = (S 1100007 (S 1100025 (S 1100025 (S 1046 0))))) ∧ (¬ (17 : Int) = 29 → ((17 : Int) = 17 → 0 ≤ (S 1100025 (S 1046 0)) → (S 1100007 (S 1100025 (S 1046 0))) < (S 1100007 (S 1046 0))) → (g87 1100007 (g87 1100025 (g87 1046 0))) = (S 1100007 (S 1100025 (S 1046 0)))))) → (sm_WF (S 11) (S 12) (S 13) (S 1100001) (S 1100002) (S 1100005) (S 1100003) (S 1100004) (S 1024 0) (S 1007 0) (S 1009 0) (sm_fn (S 1032 0) (S 21) (S 1056 0)) ∧ (S 1009 0) = 0 ∧ 0 ≤ (S 1007 0) ∧ (S 1007 0) ≤ 90 ∧ 0 ≤ (S 1024 0) ∧ (S 1024 0) ≤ 12000 ∧ 1 ≤ (S 1032 0) ∧ (S 1032 0) ≤ 11 ∧ 0 ≤ (S 1056 0) ∧ (S 1056 0) < (S 1032 0) ∧ sm_VB (S 33) (S 21) (S 1032 0) ∧ 0 ≤ (g87 1046 0) ∧ (g87 1046 0) ≤ 600 ∧ 0 ≤ (g87 1047 0) ∧ (g87 1047 0) ≤ 1 ∧ 0 ≤ (S 1053 0) ∧ 0 ≤ (S 1066 0) ∧ 0 ≤ x11 ∧ x11 < (S 1024 0) ∧ (S 1100001 x11) = 1 ∧ sm_LF (S 39) (S 1100002) (S 1066 0) (S 1024 0) (12001 * (S 1100002 x11) + x11) ∧ ((g87 1047 0) = 0 → sm_KC (g87 26) (g87 27) (g87 28) (g87 29) (g87 1100007) (g87 1100023) (g87 1100024) (g87 1100025) (S 31) (S 1100009) (S 1100027) (S 1100028) (S 1100026) (S 1100030) (S 21) (S 32) (S 33) (g87 1046 0) (S 1053 0) (S 1056 0) (S 1032 0) (S 1007 0) (S 1100033 0) ∧ (S 1100033 0) = (S 1055 0) ∧ 0 ≤ (S 1055 0) ∧ (S 1055 0) ≤ (g87 1046 0) ∧ (0 ≤ (g87 1100023 (g87 1046 0)) → (g87 1100007 (g87 1100023 (g87 1046 0))) ≤ (g87 1100007 (g87 1046 0))) ∧ (0 ≤ (g87 1100025 (g87 1046 0)) → (g87 1100007 (g87 1100025 (g87 1046 0))) ≤ (g87 1100007 (g87 1046 0))) ∧ (g87 1100007 (g87 1046 0)) ≤ (g87 1046 0) ∧ (S 1053 0) + 3 * (600 - (g87 1046 0)) + (S 1100002 x11) ≤ 8000)) ∧ (0 ≤ ((if (g87 1047 0) = 0 then (S 1100002 x11) + (600 - (g87 1046 0)) + 8 else 4)) ∧ ((if (g87 1047 0) = 0 then (S 1100002 x11) + (600 - (g87 1046 0)) + 8 else 4)) < d) ∧ (0 ≤ ((if (g87 1047 0) = 0 then (S 1100002 x11) + (600 - (g87 1046 0)) + 8 else 4)) ∧ ((if (g87 1047 0) = 0 then (S 1100002 x11) + (600 - (g87 1046 0)) + 8 else 4)) + 1 ≤ ((S 1100002 p1) + (600 - (S 1046 0)) + 8)) ∧ (∀ g95 : sv_S, (0 ≤ (g95 1046 0) ∧ (g95 1046 0) ≤ 600 ∧ 0 ≤ (g95 1047 0) ∧ (g95 1047 0) ≤ 1 ∧ 0 ≤ (g95 1053 0) ∧ 0 ≤ (g95 1066 0) ∧ (g87 1046 0) ≤ (g95 1046 0) ∧ ((g87 1047 0) = 1 → (g95 1047 0) = 1) ∧ sm_F1 (g87 26) (g95 26) (g87 1046 0) ∧ sm_F1 (g87 27) (g95 27) (g87 1046 0) ∧ sm_F1 (g87 28) (g95 28) (g87 1046 0) ∧ sm_F1 (g87 29) (g95 29) (g87 1046 0) ∧ sm_F1 (g87 1100007) (g95 1100007) ((g87 1046 0) + 1) ∧ sm_F1 (g87 1100023) (g95 1100023) ((g87 1046 0) + 1) ∧ sm_F1 (g87 1100024) (g95 1100024) ((g87 1046 0) + 1) ∧ sm_F1 (g87 1100025) (g95 1100025) ((g87 1046 0) + 1) ∧ sm_F1 (S 1100009) (g95 1100009) (S 1053 0) ∧ sm_F1 (S 1100027) (g95 1100027) (S 1053 0) ∧ sm_F1 (S 1100028) (g95 1100028) (S 1053 0) ∧ sm_F1 (S 1100026) (g95 1100026) (S 1053 0) ∧ sm_F1 (S 1100030) (g95 1100030) (S 1053 0) ∧ sm_F1 (S 31) (g95 31) (S 1053 0) ∧ (S 1053 0) ≤ (g95 1053 0) ∧ (g95 1066 0) = (S 1066 0) ∧ sm_F1 (S 39) (g95 39) (S 1066 0) ∧ ((g87 1047 0) = 1 → (g95 1053 0) = (S 1053 0)) ∧ ((g87 1047 0) = 0 → (g95 1053 0) ≤ (S 1053 0) + 3 * (600 - (g87 1046 0)) + (S 1100002 x11)) ∧ ((g95 1047 0) = 0 → (g87 1047 0) = 0 ∧ sm_KC (g95 26) (g95 27) (g95 28) (g95 29) (g95 1100007) (g95 1100023) (g95 1100024) (g95 1100025) (g95 31) (g95 1100009) (g95 1100027) (g95 1100028) (g95 1100026) (g95 1100030) (S 21) (S 32) (S 33) (g95 1046 0) (g95 1053 0) (S 1056 0) (S 1032 0) (S 1007 0) (g95 1100033 0) ∧ (g95 1100033 0) = (g95 1055 0) ∧ 0 ≤ (g95 1055 0) ∧ (g95 1055 0) ≤ (g95 1046 0) ∧ (g87 1046 0) + 1 ≤ (g95 1046 0) ∧ sm_FC (g95 29) (g87 1046 0) (g95 1046 0) (S 1056 0) ∧ (g95 1100007 (g95 1046 0)) = (g87 1100007 (g87 1046 0)) + 1 ∧ (g95 1100023 (g95 1046 0)) = (g87 1100023 (g87 1046 0)) ∧ (g95 1100024 (g95 1046 0)) = (g87 1100024 (g87 1046 0)) ∧ (g95 1100025 (g95 1046 0)) = (g87 1100025 (g87 1046 0)) ∧ (g95 1100007 (g95 1100023 (g95 1046 0))) = (g87 1100007 (g87 1100023 (g87 1046 0))) ∧ (g95 1100007 (g95 1100025 (g95 1046 0))) = (g87 1100007 (g87 1100025 (g87 1046 0))) ∧ sm_AP (g95 1100030) (S 1053 0) (g95 1053 0) ∧ sm_HB (g95 1100007) (g87 1046 0) (g95 1046 0) (2 * (g87 1100007 (g87 1046 0)) + ((g95 1046 0) - (g87 1046 0)) + 8 * (S 1100005 x11) + 10) ∧ (g95 1053 0) ≤ (S 1053 0) + 3 * ((g95 1046 0) - (g87 1046 0)) ∧ True)) → (0 ≤ (g95 1046 0) ∧ (g95 1046 0) ≤ 600 ∧ 0 ≤ (g95 1047 0) ∧ (g95 1047 0) ≤ 1 ∧ 0 ≤ (g95 1053 0) ∧ 0 ≤ (g95 1066 0) ∧ (S 1046 0) ≤ (g95 1046 0) ∧ ((S 1047 0) = 1 → (g95 1047 0) = 1) ∧ sm_F1 (S 26) (g95 26) (S 1046 0) ∧ sm_F1 (S 27) (g95 27) (S 1046 0) ∧ sm_F1 (S 28) (g95 28) (S 1046 0) ∧ sm_F1 (S 29) (g95 29) (S 1046 0) ∧ sm_F1 (S 1100007) (g95 1100007) ((S 1046 0) + 1) ∧ sm_F1 (S 1100023) (g95 1100023) ((S 1046 0) + 1) ∧ sm_F1 (S 1100024) (g95 1100024) ((S 1046 0) + 1) ∧ sm_F1 (S 1100025) (g95 1100025) ((S 1046 0) + 1) ∧ sm_F1 (S 1100009) (g95 1100009) (S 1053 0) ∧ sm_F1 (S 1100027) (g95 1100027) (S 1053 0) ∧ sm_F1 (S 1100028) (g95 1100028) (S 1053 0) ∧ sm_F1 (S 1100026) (g95 1100026) (S 1053 0) ∧ sm_F1 (S 1100030) (g95 1100030) (S 1053 0) ∧ sm_F1 (S 31) (g95 31) (S 1053 0) ∧ (S 1053 0) ≤ (g95 1053 0) ∧ (g95 1066 0) = (S 1066 0) ∧ sm_F1 (S 39) (g95 39) (S 1066 0) ∧ ((S 1047 0) = 1 → (g95 1053 0) = (S 1053 0)) ∧ ((S 1047 0) = 0 → (g95 1053 0) ≤ (S 1053 0) + 3 * (600 - (S 1046 0)) + (S 1100002 p1)) ∧ ((g95 1047 0) = 0 → (S 1047 0) = 0 ∧ sm_KC (g95 26) (g95 27) (g95 28) (g95 29) (g95 1100007) (g95 1100023) (g95 1100024) (g95 1100025) (g95 31) (g95 1100009) (g95 1100027) (g95 1100028) (g95 1100026) (g95 1100030) (S 21) (S 32) (S 33) (g95 1046 0) (g95 1053 0) (S 1056 0) (S 1032 0) (S 1007 0) (g95 1100033 0) ∧ (g95 1100033 0) = (g95 1055 0) ∧ 0 ≤ (g95 1055 0) ∧ (g95 1055 0) ≤ (g95 1046 0) ∧ (S 1046 0) + 1 ≤ (g95 1046 0) ∧ sm_FC (g95 29) (S 1046 0) (g95 1046 0) (S 1056 0) ∧ (g95 1100007 (g95 1046 0)) = (S 1100007 (S 1046 0)) + (0 - sm_cd (S 11) (S 12) (S 14) (p1)) ∧ (g95 1100023 (g95 1046 0)) = (S 1100023 (S 1046 0)) ∧ (g95 1100024 (g95 1046 0)) = (S 1100024 (S 1046 0)) ∧ (g95 1100025 (g95 1046 0)) = (S 1100025 (S 1046 0)) ∧ (g95 1100007 (g95 1100023 (g95 1046 0))) = (S 1100007 (S 1100023 (S 1046 0))) ∧ (g95 1100007 (g95 1100025 (g95 1046 0))) = (S 1100007 (S 1100025 (S 1046 0))) ∧ sm_AP (g95 1100030) (S 1053 0) (g95 1053 0) ∧ sm_HB (g95 1100007) (S 1046 0) (g95 1046 0) (2 * ((S 1100007 (S 1046 0)) - (1 + sm_cd (S 11) (S 12) (S 14) (p1))) + (1 + sm_cd (S 11) (S 12) (S 14) (p1)) + ((g95 1046 0) - (S 1046 0)) + 8 * (S 1100005 p1) + 10) ∧ (g95 1053 0) ≤ (S 1053 0) + 3 * ((g95 1046 0) - (S 1046 0)) ∧ True)))))))) ∧ (((S 11 p1) = (7 : Int)) → ((x11 = (S 12 (5 * p1 + 1)) → sm_WF (S 11) (S 12) (S 13) (S 1100001) (S 1100002) (S 1100005) (S 1100003) (S 1100004) (S 1024 0) (S 1007 0) (S 1009 0) (sm_fn (S 1032 0) (S 21) (S 1056 0)) → 0 ≤ p1 → p1 < (S 1024 0) → (S 1100001 p1) = 1 → (S 11 p1) = 7 → sm_ex (S 1100001) (S 1100002) (S 1100005) (S 1024 0) 1 ((S 12 (5 * (p1)))) ((S 1100002 (p1))) ((S 1100005 (p1))) ∧ (S 12 (5 * (p1))) < (p1) ∧ sm_ex (S 1100001) (S 1100002) (S 1100005) (S 1024 0) 1 (x11) (((S 1100002 (p1))) - 1) ((S 1100005 (p1))) ∧ x11 < (p1)) → ((sm_WF (S 11) (S 12) (S 13) (S 1100001) (S 1100002) (S 1100005) (S 1100003) (S 1100004) (S 1024 0) (S 1007 0) (S 1009 0) (sm_fn (S 1032 0) (S 21) (S 1056 0)) → 0 ≤ x11 → x11 < (S 1024 0) → ((S 1100001 (x11)) = 1 → 0 ≤ (S 1100002 (x11)) ∧ ((S 11 (x11)) = 3 → (S 12 (5 * (x11) + 1)) < (x11)) ∧ ((S 11 (x11)) = 4 ∨ (S 11 (x11)) = 5 ∨ (S 11 (x11)) = 8 ∨ (S 11 (x11)) = 9 → 17 * (S 1100005 (x11)) + 2 ≤ (S 1100002 (x11))) ∧ 0 ≤ (S 1100005 (x11))) ∧ ((S 1100001 (x11)) = 2 → 0 ≤ (S 1100005 (x11)) ∧ (S 1100002 (x11)) ≤ 17 * (S 1100005 (x11)) + 5 ∧ ((S 11 (x11)) = 33 → 1 ≤ (S 1100005 (x11)))) ∧ ((S 1100001 (x11)) = 6 → 0 ≤ (S 1100002 (x11)) ∧ 1 ≤ (S 1100004 (x11)) ∧ ((S 12 (5 * (x11))) = - 1 → (S 1100004 (x11)) = 2)) ∧ ((S 1100001 (x11)) = 3 → 1 ≤ (S 1100002 (x11)))) → (sm_WF (S 11) (S 12) (S 13) (S 1100001) (S 1100002) (S 1100005) (S 1100003) (S 1100004) (S 1024 0) (S 1007 0) (S 1009 0) (sm_fn (S 1032 0) (S 21) (S 1056 0)) ∧ (S 1009 0) = 0 ∧ 0 ≤ (S 1007 0) ∧ (S 1007 0) ≤ 90 ∧ 0 ≤ (S 1024 0) ∧ (S 1024 0) ≤ 12000 ∧ 1 ≤ (S 1032 0) ∧ (S 1032 0) ≤ 11 ∧ 0 ≤ (S 1056 0) ∧ (S 1056 0) < (S 1032 0) ∧ sm_VB (S 33) (S 21) (S 1032 0) ∧ 0 ≤ (S 1046 0) ∧ (S 1046 0) ≤ 600 ∧ 0 ≤ (S 1047 0) ∧ (S 1047 0) ≤ 1 ∧ 0 ≤ (S 1053 0) ∧ 0 ≤ (S 1066 0) ∧ 0 ≤ x11 ∧ x11 < (S 1024 0) ∧ (S 1100001 x11) = 1 ∧ sm_LF (S 39) (S 1100002) (S 1066 0) (S 1024 0) (12001 * (S 1100002 x11) + x11) ∧ ((S 1047 0) = 0 → sm_KC (S 26) (S 27) (S 28) (S 29) (S 1100007) (S 1100023) (S 1100024) (S 1100025) (S 31) (S 1100009) (S 1100027) (S 1100028) (S 1100026) (S 1100030) (S 21) (S 32) (S 33) (S 1046 0) (S 1053 0) (S 1056 0) (S 1032 0) (S 1007 0) (S 1100033 0) ∧ (S 1100033 0) = (S 1055 0) ∧ 0 ≤ (S 1055 0) ∧ (S 1055 0) ≤ (S 1046 0) ∧ (0 ≤ (S 1100023 (S 1046 0)) → (S 1100007 (S 1100023 (S 1046 0))) ≤ (S 1100007 (S 1046 0))) ∧ (0 ≤ (S 1100025 (S 1046 0)) → (S 1100007 (S 1100025 (S 1046 0))) ≤ (S 1100007 (S 1046 0))) ∧ (S 1100007 (S 1046 0)) ≤ (S 1046 0) ∧ (S 1053 0) + 3 * (600 - (S 1046 0)) + (S 1100002 x11) ≤ 8000)) ∧ (0 ≤ ((if (S 1047 0) = 0 then (S 1100002 x11) + (600 - (S 1046 0)) + 8 else 4)) ∧ ((if (S 1047 0) = 0 then (S 1100002 x11) + (600 - (S 1046 0)) + 8 else 4)) < d) ∧ (0 ≤ ((if (S 1047 0) = 0 then (S 1100002 x11) + (600 - (S 1046 0)) + 8 else 4)) ∧ ((if (S 1047 0) = 0 then (S 1100002 x11) + (600 - (S 1046 0)) + 8 else 4)) + 1 ≤ ((S 1100002 p1) + (600 - (S 1046 0)) + 8)) ∧ (∀ g105 : sv_S, (0 ≤ (g105 1046 0) ∧ (g105 1046 0) ≤ 600 ∧ 0 ≤ (g105 1047 0) ∧ (g105 1047 0) ≤ 1 ∧ 0 ≤ (g105 1053 0) ∧ 0 ≤ (g105 1066 0) ∧ (S 1046 0) ≤ (g105 1046 0) ∧ ((S 1047 0) = 1 → (g105 1047 0) = 1) ∧ sm_F1 (S 26) (g105 26) (S 1046 0) ∧ sm_F1 (S 27) (g105 27) (S 1046 0) ∧ sm_F1 (S 28) (g105 28) (S 1046 0) ∧ sm_F1 (S 29) (g105 29) (S 1046 0) ∧ sm_F1 (S 1100007) (g105 1100007) ((S 1046 0) + 1) ∧ sm_F1 (S 1100023) (g105 1100023) ((S 1046 0) + 1) ∧ sm_F1 (S 1100024) (g105 1100024) ((S 1046 0) + 1) ∧ sm_F1 (S 1100025) (g105 1100025) ((S 1046 0) + 1) ∧ sm_F1 (S 1100009) (g105 1100009) (S 1053 0) ∧ sm_F1 (S 1100027) (g105 1100027) (S 1053 0) ∧ sm_F1 (S 1100028) (g105 1100028) (S 1053 0) ∧ sm_F1 (S 1100026) (g105 1100026) (S 1053 0) ∧ sm_F1 (S 1100030) (g105 1100030) (S 1053 0) ∧ sm_F1 (S 31) (g105 31) (S 1053 0) ∧ (S 1053 0) ≤ (g105 1053 0) ∧ (g105 1066 0) = (S 1066 0) ∧ sm_F1 (S 39) (g105 39) (S 1066 0) ∧ ((S 1047 0) = 1 → (g105 1053 0) = (S 1053 0)) ∧ ((S 1047 0) = 0 → (g105 1053 0) ≤ (S 1053 0) + 3 * (600 - (S 1046 0)) + (S 1100002 x11)) ∧ ((g105 1047 0) = 0 → (S 1047 0) = 0 ∧ sm_KC (g105 26) (g105 27) (g105 28) (g105 29) (g105 1100007) (g105 1100023) (g105 1100024) (g105 1100025) (g105 31) (g105 1100009) (g105 1100027) (g105 1100028) (g105 1100026) (g105 1100030) (S 21) (S 32) (S 33) (g105 1046 0) (g105 1053 0) (S 1056 0) (S 1032 0) (S 1007 0) (g105 1100033 0) ∧ (g105 1100033 0) = (g105 1055 0) ∧ 0 ≤ (g105 1055 0) ∧ (g105 1055 0) ≤ (g105 1046 0) ∧ (S 1046 0) + 1 ≤ (g105 1046 0) ∧ sm_FC (g105 29) (S 1046 0) (g105 1046 0) (S 1056 0) ∧ (g105 1100007 (g105 1046 0)) = (S 1100007 (S 1046 0)) + 1 ∧ (g105 1100023 (g105 1046 0)) = (S 1100023 (S 1046 0)) ∧ (g105 1100024 (g105 1046 0)) = (S 1100024 (S 1046 0)) ∧ (g105 1100025 (g105 1046 0)) = (S 1100025 (S 1046 0)) ∧ (g105 1100007 (g105 1100023 (g105 1046 0))) = (S 1100007 (S 1100023 (S 1046 0))) ∧ (g105 1100007 (g105 1100025 (g105 1046 0))) = (S 1100007 (S 1100025 (S 1046 0))) ∧ sm_AP (g105 1100030) (S 1053 0) (g105 1053 0) ∧ sm_HB (g105 1100007) (S 1046 0) (g105 1046 0) (2 * (S 1100007 (S 1046 0)) + ((g105 1046 0) - (S 1046 0)) + 8 * (S 1100005 x11) + 10) ∧ (g105 1053 0) ≤ (S 1053 0) + 3 * ((g105 1046 0) - (S 1046 0)) ∧ True)) → (0 ≤ (g105 1046 0) ∧ (g105 1046 0) ≤ 600 ∧ 0 ≤ (g105 1047 0) ∧ (g105 1047 0) ≤ 1 ∧ ((g105 1047 0) = 0 → sm_KC (g105 26) (g105 27) (g105 28) (g105 29) (g105 1100007) (g105 1100023) (g105 1100024) (g105 1100025) (g105 31) (g105 1100009) (g105 1100027) (g105 1100028) (g105 1100026) (g105 1100030) (S 21) (S 32) (S 33) (g105 1046 0) (g105 1053 0) (S 1056 0) (S 1032 0) (S 1007 0) (g105 1100033 0) ∧ 0 ≤ (10 : Int) ∧ (10 : Int) ≤ 30 ∧ sm_ci (10 : Int) ((0 : Int)) ((0 : Int)) (g105 1100007 (g105 1046 0)) (g105 1100023 (g105 1046 0)) (g105 1100024 (g105 1046 0)) (g105 1100025 (g105 1046 0)) (g105 1100007 (g105 1100023 (g105 1046 0))) (g105 1100007 (g105 1100025 (g105 1046 0))) (g105 1100023 (g105 1100023 (g105 1046 0))) (g105 1100025 (g105 1100025 (g105 1046 0))) (g105 1046 0) (g105 1100033 0) (S 1032 0) (S 1007 0) (S 21 (0 : Int)) (S 1056 0) ((g105 1100007 (g105 1046 0)) + sm_dl (10 : Int) ((0 : Int))) (sm_nt (10 : Int) (g105 1046 0) (g105 1100023 (g105 1046 0)) (g105 1100023 (g105 1100023 (g105 1046 0)))) (sm_nl (10 : Int) (g105 1046 0) (g105 1100007 (g105 1046 0)) (g105 1100025 (g105 1046 0)) (g105 1100007 (g105 1100025 (g105 1046 0))) (g105 1100025 (g105 1100025 (g105 1046 0)))) (g105 1100009 (0 : Int)) (g105 1100027 (0 : Int)) (g105 1100028 (0 : Int)) ∧ ((21 ≤ (10 : Int) ∧ (10 : Int) ≤ 24) ∨ (10 : Int) = 27 ∨ (10 : Int) = 30 → 0 ≤ (0 : Int) ∧ (0 : Int) < (g105 1053 0) ∧ (g105 1100026 (0 : Int)) = (S 1056 0)) ∧ ((10 : Int) = 1 ∨ (10 : Int) = 2 → sm_vv (S 21) (S 32) (S 33) (S 1056 0) (0 : Int) (0 : Int)))) ∧ (1 + 1 ≤ ((S 1100002 p1) + (600 - (S 1046 0)) + 8)) ∧ (∀ g112 : sv_S, (0 ≤ (g112 1047 0) ∧ (g112 1047 0) ≤ 1 ∧ 1 ≤ (g112 1046 0) ∧ (g105 1046 0) ≤ (g112 1046 0) ∧ (g112 1046 0) ≤ (g105 1046 0) + 1 ∧ (g112 1046 0) ≤ 600 ∧ ((g105 1047 0) = 1 → (g112 1047 0) = 1) ∧ ((g112 1047 0) = 1 → (g105 1047 0) = 1 ∨ (g105 1046 0) = 600) ∧ sm_F1 (g105 26) (g112 26) (g105 1046 0) ∧ sm_F1 (g105 27) (g112 27) (g105 1046 0) ∧ sm_F1 (g105 28) (g112 28) (g105 1046 0) ∧ sm_F1 (g105 29) (g112 29) (g105 1046 0) ∧ sm_F1 (g105 1100007) (g112 1100007) ((g105 1046 0) + 1) ∧ sm_F1 (g105 1100023) (g112 1100023) ((g105 1046 0) + 1) ∧ sm_F1 (g105 1100024) (g112 1100024) ((g105 1046 0) + 1) ∧ sm_F1 (g105 1100025) (g112 1100025) ((g105 1046 0) + 1) ∧ ((g112 1047 0) = 0 → (g105 1047 0) = 0 ∧ (g112 1046 0) = (g105 1046 0) + 1 ∧ sm_KC (g112 26) (g112 27) (g112 28) (g112 29) (g112 1100007) (g112 1100023) (g112 1100024) (g112 1100025) (g105 31) (g105 1100009) (g105 1100027) (g105 1100028) (g105 1100026) (g105 1100030) (S 21) (S 32) (S 33) (g112 1046 0) (g105 1053 0) (S 1056 0) (S 1032 0) (S 1007 0) (g105 1100033 0) ∧ sm_MB (g105 31) (g105 1100030) (g105 1053 0) (g112 1046 0) ∧ (g112 26 (g105 1046 0)) = (10 : Int) ∧ (g112 29 (g105 1046 0)) = (S 1056 0) ∧ (g112 1100007 (g112 1046 0)) = ((g105 1100007 (g105 1046 0)) + sm_dl (10 : Int) ((0 : Int))) ∧ (g112 1100023 (g112 1046 0)) = (sm_nt (10 : Int) (g105 1046 0) (g105 1100023 (g105 1046 0)) (g105 1100023 (g105 1100023 (g105 1046 0)))) ∧ (g112 1100024 (g112 1046 0)) = (sm_nd (10 : Int) (g105 1100024 (g105 1046 0))) ∧ (g112 1100025 (g112 1046 0)) = (sm_nl (10 : Int) (g105 1046 0) (g105 1100007 (g105 1046 0)) (g105 1100025 (g105 1046 0)) (g105 1100007 (g105 1100025 (g105 1046 0))) (g105 1100025 (g105 1100025 (g105 1046 0)))) ∧ (g112 1100007 (g112 1100023 (g112 1046 0))) = sm_nt (10 : Int) (g105 1100007 (g105 1046 0)) (g105 1100007 (g105 1100023 (g105 1046 0))) (g105 1100007 (g105 1100023 (g105 1100023 (g105 1046 0)))) ∧ ((10 : Int) = 29 → (g112 1100007 (g112 1100025 (g112 1046 0))) = (g105 1100007 (g105 1046 0))) ∧ ((10 : Int) = 17 → 0 ≤ (g105 1100025 (g105 1046 0)) → (g105 1100007 (g105 1100025 (g105 1046 0))) = (g105 1100007 (g105 1046 0)) → (g112 1100007 (g112 1100025 (g112 1046 0))) = (g105 1100007 (g105 1100025 (g105 1100025 (g105 1046 0))))) ∧ (¬ (10 : Int) = 29 → ((10 : Int) = 17 → 0 ≤ (g105 1100025 (g105 1046 0)) → (g105 1100007 (g105 1100025 (g105 1046 0))) < (g105 1100007 (g105 1046 0))) → (g112 1100007 (g112 1100025 (g112 1046 0))) = (g105 1100007 (g105 1100025 (g105 1046 0)))))) → (0 ≤ (g112 1046 0) ∧ (g112 1046 0) ≤ 600 ∧ 0 ≤ (g112 1047 0) ∧ (g112 1047 0) ≤ 1 ∧ 0 ≤ (g105 1053 0) ∧ 0 ≤ (g105 1066 0) ∧ (S 1046 0) ≤ (g112 1046 0) ∧ ((S 1047 0) = 1 → (g112 1047 0) = 1) ∧ sm_F1 (S 26) (g112 26) (S 1046 0) ∧ sm_F1 (S 27) (g112 27) (S 1046 0) ∧ sm_F1 (S 28) (g112 28) (S 1046 0) ∧ sm_F1 (S 29) (g112 29) (S 1046 0) ∧ sm_F1 (S 1100007) (g112 1100007) ((S 1046 0) + 1) ∧ sm_F1 (S 1100023) (g112 1100023) ((S 1046 0) + 1) ∧ sm_F1 (S 1100024) (g112 1100024) ((S 1046 0) + 1) ∧ sm_F1 (S 1100025) (g112 1100025) ((S 1046 0) + 1) ∧ sm_F1 (S 1100009) (g105 1100009) (S 1053 0) ∧ sm_F1 (S 1100027) (g105 1100027) (S 1053 0) ∧ sm_F1 (S 1100028) (g105 1100028) (S 1053 0) ∧ sm_F1 (S 1100026) (g105 1100026) (S 1053 0) ∧ sm_F1 (S 1100030) (g105 1100030) (S 1053 0) ∧ sm_F1 (S 31) (g105 31) (S 1053 0) ∧ (S 1053 0) ≤ (g105 1053 0) ∧ (g105 1066 0) = (S 1066 0) ∧ sm_F1 (S 39) (g105 39) (S 1066 0) ∧ ((S 1047 0) = 1 → (g105 1053 0) = (S 1053 0)) ∧ ((S 1047 0) = 0 → (g105 1053 0) ≤ (S 1053 0) + 3 * (600 - (S 1046 0)) + (S 1100002 p1)) ∧ ((g112 1047 0) = 0 → (S 1047 0) = 0 ∧ sm_KC (g112 26) (g112 27) (g112 28) (g112 29) (g112 1100007) (g112 1100023) (g112 1100024) (g112 1100025) (g105 31) (g105 1100009) (g105 1100027) (g105 1100028) (g105 1100026) (g105 1100030) (S 21) (S 32) (S 33) (g112 1046 0) (g105 1053 0) (S 1056 0) (S 1032 0) (S 1007 0) (g105 1100033 0) ∧ (g105 1100033 0) = (g105 1055 0) ∧ 0 ≤ (g105 1055 0) ∧ (g105 1055 0) ≤ (g112 1046 0) ∧ (S 1046 0) + 1 ≤ (g112 1046 0) ∧ sm_FC (g112 29) (S 1046 0) (g112 1046 0) (S 1056 0) ∧ (g112 1100007 (g112 1046 0)) = (S 1100007 (S 1046 0)) + (0 - sm_cd (S 11) (S 12) (S 14) (p1)) ∧ (g112 1100023 (g112 1046 0)) = (S 1100023 (S 1046 0)) ∧ (g112 1100024 (g112 1046 0)) = (S 1100024 (S 1046 0)) ∧ (g112 1100025 (g112 1046 0)) = (S 1100025 (S 1046 0)) ∧ (g112 1100007 (g112 1100023 (g112 1046 0))) = (S 1100007 (S 1100023 (S 1046 0))) ∧ (g112 1100007 (g112 1100025 (g112 1046 0))) = (S 1100007 (S 1100025 (S 1046 0))) ∧ sm_AP (g105 1100030) (S 1053 0) (g105 1053 0) ∧ sm_HB (g112 1100007) (S 1046 0) (g112 1046 0) (2 * ((S 1100007 (S 1046 0)) - (1 + sm_cd (S 11) (S 12) (S 14) (p1))) + (1 + sm_cd (S 11) (S 12) (S 14) (p1)) + ((g112 1046 0) - (S 1046 0)) + 8 * (S 1100005 p1) + 10) ∧ (g105 1053 0) ≤ (S 1053 0) + 3 * ((g112 1046 0) - (S 1046 0)) ∧ True))))))) ∧ (((S 11 p1) = (11 : Int)) → ((sm_WF (S 11) (S 12) (S 13) (S 1100001) (S 1100002) (S 1100005) (S 1100003) (S 1100004) (S 1024 0) (S 1007 0) (S 1009 0) (sm_fn (S 1032 0) (S 21) (S 1056 0)) → 0 ≤ p1 → p1 < (S 1024 0) → (S 1100001 p1) = 1 → (S 11 p1) = 11 → sm_ex (S 1100001) (S 1100002) (S 1100005) (S 1024 0) 1 ((S 12 (5 * (p1) + 1))) ((S 1100002 (p1))) ((S 1100005 (p1))) ∧ (S 12 (5 * (p1) + 1)) < (p1) ∧ sm_ex (S 1100001) (S 1100002) (S 1100005) (S 1024 0) 1 ((S 12 (5 * (p1) + 2))) (((S 1100002 (p1))) - 1) ((S 1100005 (p1))) ∧ 0 ≤ (S 12 (5 * (p1))) ∧ (S 12 (5 * (p1))) ≤ 20) → ((x8 = (S 12 (5 * p1 + 0)) → sm_WF (S 11) (S 12) (S 13) (S 1100001) (S 1100002) (S 1100005) (S 1100003) (S 1100004) (S 1024 0) (S 1007 0) (S 1009 0) (sm_fn (S 1032 0) (S 21) (S 1056 0)) → 0 ≤ p1 → p1 < (S 1024 0) → (S 1100001 p1) = 1 → (S 11 p1) = 11 → sm_ex (S 1100001) (S 1100002) (S 1100005) (S 1024 0) 1 ((S 12 (5 * (p1) + 1))) ((S 1100002 (p1))) ((S 1100005 (p1))) ∧ (S 12 (5 * (p1) + 1)) < (p1) ∧ sm_ex (S 1100001) (S 1100002) (S 1100005) (S 1024 0) 1 ((S 12 (5 * (p1) + 2))) (((S 1100002 (p1))) - 1) ((S 1100005 (p1))) ∧ 0 ≤ x8 ∧ x8 ≤ 20) → ((sm_WF (S 11) (S 12) (S 13) (S 1100001) (S 1100002) (S 1100005) (S 1100003) (S 1100004) (S 1024 0) (S 1007 0) (S 1009 0) (sm_fn (S 1032 0) (S 21) (S 1056 0)) → 0 ≤ (S 12 (5 * p1 + 2)) → (S 12 (5 * p1 + 2)) < (S 1024 0) → ((S 1100001 ((S 12 (5 * p1 + 2)))) = 1 → 0 ≤ (S 1100002 ((S 12 (5 * p1 + 2)))) ∧ ((S 11 ((S 12 (5 * p1 + 2)))) = 3 → (S 12 (5 * ((S 12 (5 * p1 + 2))) + 1)) < ((S 12 (5 * p1 + 2)))) ∧ ((S 11 ((S 12 (5 * p1 + 2)))) = 4 ∨ (S 11 ((S 12 (5 * p1 + 2)))) = 5 ∨ (S 11 ((S 12 (5 * p1 + 2)))) = 8 ∨ (S 11 ((S 12 (5 * p1 + 2)))) = 9 → 17 * (S 1100005 ((S 12 (5 * p1 + 2)))) + 2 ≤ (S 1100002 ((S 12 (5 * p1 + 2))))) ∧ 0 ≤ (S 1100005 ((S 12 (5 * p1 + 2))))) ∧ ((S 1100001 ((S 12 (5 * p1 + 2)))) = 2 → 0 ≤ (S 1100005 ((S 12 (5 * p1 + 2)))) ∧ (S 1100002 ((S 12 (5 * p1 + 2)))) ≤ 17 * (S 1100005 ((S 12 (5 * p1 + 2)))) + 5 ∧ ((S 11 ((S 12 (5 * p1 + 2)))) = 33 → 1 ≤ (S 1100005 ((S 12 (5 * p1 + 2)))))) ∧ ((S 1100001 ((S 12 (5 * p1 + 2)))) = 6 → 0 ≤ (S 1100002 ((S 12 (5 * p1 + 2)))) ∧ 1 ≤ (S 1100004 ((S 12 (5 * p1 + 2)))) ∧ ((S 12 (5 * ((S 12 (5 * p1 + 2))))) = - 1 → (S 1100004 ((S 12 (5 * p1 + 2)))) = 2)) ∧ ((S 1100001 ((S 12 (5 * p1 + 2)))) = 3 → 1 ≤ (S 1100002 ((S 12 (5 * p1 + 2)))))) → (0 ≤ p1 ∧ p1 < 12000 ∧ 0 ≤ (2 : Int) ∧ (2 : Int) ≤ 4) ∧ (sm_WF (S 11) (S 12) (S 13) (S 1100001) (S 1100002) (S 1100005) (S 1100003) (S 1100004) (S 1024 0) (S 1007 0) (S 1009 0) (sm_fn (S 1032 0) (S 21) (S 1056 0)) ∧ (S 1009 0) = 0 ∧ 0 ≤ (S 1007 0) ∧ (S 1007 0) ≤ 90 ∧ 0 ≤ (S 1024 0) ∧ (S 1024 0) ≤ 12000 ∧ 1 ≤ (S 1032 0) ∧ (S 1032 0) ≤ 11 ∧ 0 ≤ (S 1056 0) ∧ (S 1056 0) < (S 1032 0) ∧ sm_VB (S 33) (S 21) (S 1032 0) ∧ 0 ≤ (S 1046 0) ∧ (S 1046 0) ≤ 600 ∧ 0 ≤ (S 1047 0) ∧ (S 1047 0) ≤ 1 ∧ 0 ≤ (S 1053 0) ∧ 0 ≤ (S 1066 0) ∧ 0 ≤ ((S 12 (5 * p1 + (2 : Int)))) ∧ ((S 12 (5 * p1 + (2 : Int)))) < (S 1024 0) ∧ (S 1100001 ((S 12 (5 * p1 + (2 : Int))))) = 1 ∧ sm_LF (S 39) (S 1100002) (S 1066 0) (S 1024 0) (12001 * (S 1100002 ((S 12 (5 * p1 + (2 : Int))))) + ((S 12 (5 * p1 + (2 : Int))))) ∧ ((S 1047 0) = 0 → sm_KC (S 26) (S 27) (S 28) (S 29) (S 1100007) (S 1100023) (S 1100024) (S 1100025) (S 31) (S 1100009) (S 1100027) (S 1100028) (S 1100026) (S 1100030) (S 21) (S 32) (S 33) (S 1046 0) (S 1053 0) (S 1056 0) (S 1032 0) (S 1007 0) (S 1100033 0) ∧ (S 1100033 0) = (S 1055 0) ∧ 0 ≤ (S 1055 0) ∧ (S 1055 0) ≤ (S 1046 0) ∧ (0 ≤ (S 1100023 (S 1046 0)) → (S 1100007 (S 1100023 (S 1046 0))) ≤ (S 1100007 (S 1046 0))) ∧ (0 ≤ (S 1100025 (S 1046 0)) → (S 1100007 (S 1100025 (S 1046 0))) ≤ (S 1100007 (S 1046 0))) ∧ (S 1100007 (S 1046 0)) ≤ (S 1046 0) ∧ (S 1053 0) + 3 * (600 - (S 1046 0)) + (S 1100002 ((S 12 (5 * p1 + (2 : Int))))) ≤ 8000)) ∧ (0 ≤ ((if (S 1047 0) = 0 then (S 1100002 ((S 12 (5 * p1 + (2 : Int))))) + (600 - (S 1046 0)) + 8 else 4)) ∧ ((if (S 1047 0) = 0 then (S 1100002 ((S 12 (5 * p1 + (2 : Int))))) + (600 - (S 1046 0)) + 8 else 4)) < d) ∧ (0 ≤ ((if (S 1047 0) = 0 then (S 1100002 ((S 12 (5 * p1 + (2 : Int))))) + (600 - (S 1046 0)) + 8 else 4)) ∧ ((if (S 1047 0) = 0 then (S 1100002 ((S 12 (5 * p1 + (2 : Int))))) + (600 - (S 1046 0)) + 8 else 4)) + 1 ≤ ((S 1100002 p1) + (600 - (S 1046 0)) + 8)) ∧ (∀ g124 : sv_S, (0 ≤ (g124 1046 0) ∧ (g124 1046 0) ≤ 600 ∧ 0 ≤ (g124 1047 0) ∧ (g124 1047 0) ≤ 1 ∧ 0 ≤ (g124 1053 0) ∧ 0 ≤ (g124 1066 0) ∧ (S 1046 0) ≤ (g124 1046 0) ∧ ((S 1047 0) = 1 → (g124 1047 0) = 1) ∧ sm_F1 (S 26) (g124 26) (S 1046 0) ∧ sm_F1 (S 27) (g124 27) (S 1046 0) ∧ sm_F1 (S 28) (g124 28) (S 1046 0) ∧ sm_F1 (S 29) (g124 29) (S 1046 0) ∧ sm_F1 (S 1100007) (g124 1100007) ((S 1046 0) + 1) ∧ sm_F1 (S 1100023) (g124 1100023) ((S 1046 0) + 1) ∧ sm_F1 (S 1100024) (g124 1100024) ((S 1046 0) + 1) ∧ sm_F1 (S 1100025) (g124 1100025) ((S 1046 0) + 1) ∧ sm_F1 (S 1100009) (g124 1100009) (S 1053 0) ∧ sm_F1 (S 1100027) (g124 1100027) (S 1053 0) ∧ sm_F1 (S 1100028) (g124 1100028) (S 1053 0) ∧ sm_F1 (S 1100026) (g124 1100026) (S 1053 0) ∧ sm_F1 (S 1100030) (g124 1100030) (S 1053 0) ∧ sm_F1 (S 31) (g124 31) (S 1053 0) ∧ (S 1053 0) ≤ (g124 1053 0) ∧ (g124 1066 0) = (S 1066 0) ∧ sm_F1 (S 39) (g124 39) (S 1066 0) ∧ ((S 1047 0) = 1 → (g124 1053 0) = (S 1053 0)) ∧ ((S 1047 0) = 0 → (g124 1053 0) ≤ (S 1053 0) + 3 * (600 - (S 1046 0)) + (S 1100002 ((S 12 (5 * p1 + (2 : Int)))))) ∧ ((g124 1047 0) = 0 → (S 1047 0) = 0 ∧ sm_KC (g124 26) (g124 27) (g124 28) (g124 29) (g124 1100007) (g124 1100023) (g124 1100024) (g124 1100025) (g124 31) (g124 1100009) (g124 1100027) (g124 1100028) (g124 1100026) (g124 1100030) (S 21) (S 32) (S 33) (g124 1046 0) (g124 1053 0) (S 1056 0) (S 1032 0) (S 1007 0) (g124 1100033 0) ∧ (g124 1100033 0) = (g124 1055 0) ∧ 0 ≤ (g124 1055 0) ∧ (g124 1055 0) ≤ (g124 1046 0) ∧ (S 1046 0) + 1 ≤ (g124 1046 0) ∧ sm_FC (g124 29) (S 1046 0) (g124 1046 0) (S 1056 0) ∧ (g124 1100007 (g124 1046 0)) = (S 1100007 (S 1046 0)) + 1 ∧ (g124 1100023 (g124 1046 0)) = (S 1100023 (S 1046 0)) ∧ (g124 1100024 (g124 1046 0)) = (S 1100024 (S 1046 0)) ∧ (g124 1100025 (g124 1046 0)) = (S 1100025 (S 1046 0)) ∧ (g124 1100007 (g124 1100023 (g124 1046 0))) = (S 1100007 (S 1100023 (S 1046 0))) ∧ (g124 1100007 (g124 1100025 (g124 1046 0))) = (S 1100007 (S 1100025 (S 1046 0))) ∧ sm_AP (g124 1100030) (S 1053 0) (g124 1053 0) ∧ sm_HB (g124 1100007) (S 1046 0) (g124 1046 0) (2 * (S 1100007 (S 1046 0)) + ((g124 1046 0) - (S 1046 0)) + 8 * (S 1100005 ((S 12 (5 * p1 + (2 : Int))))) + 10) ∧ (g124 1053 0) ≤ (S 1053 0) + 3 * ((g124 1046 0) - (S 1046 0)) ∧ True)) → (0 ≤ (g124 1046 0) ∧ (g124 1046 0) ≤ 600 ∧ 0 ≤ (g124 1047 0) ∧ (g124 1047 0) ≤ 1 ∧ ((g124 1047 0) = 0 → sm_KC (g124 26) (g124 27) (g124 28) (g124 29) (g124 1100007) (g124 1100023) (g124 1100024) (g124 1100025) (g124 31) (g124 1100009) (g124 1100027) (g124 1100028) (g124 1100026) (g124 1100030) (S 21) (S 32) (S 33) (g124 1046 0) (g124 1053 0) (S 1056 0) (S 1032 0) (S 1007 0) (g124 1100033 0) ∧ 0 ≤ (14 : Int) ∧ (14 : Int) ≤ 30 ∧ sm_ci (14 : Int) (x8) ((0 : Int)) (g124 1100007 (g124 1046 0)) (g124 1100023 (g124 1046 0)) (g124 1100024 (g124 1046 0)) (g124 1100025 (g124 1046 0)) (g124 1100007 (g124 1100023 (g124 1046 0))) (g124 1100007 (g124 1100025 (g124 1046 0))) (g124 1100023 (g124 1100023 (g124 1046 0))) (g124 1100025 (g124 1100025 (g124 1046 0))) (g124 1046 0) (g124 1100033 0) (S 1032 0) (S 1007 0) (S 21 x8) (S 1056 0) ((g124 1100007 (g124 1046 0)) + sm_dl (14 : Int) (x8)) (sm_nt (14 : Int) (g124 1046 0) (g124 1100023 (g124 1046 0)) (g124 1100023 (g124 1100023 (g124 1046 0)))) (sm_nl (14 : Int) (g124 1046 0) (g124 1100007 (g124 1046 0)) (g124 1100025 (g124 1046 0)) (g124 1100007 (g124 1100025 (g124 1046 0))) (g124 1100025 (g124 1100025 (g124 1046 0)))) (g124 1100009 x8) (g124 1100027 x8) (g124 1100028 x8) ∧ ((21 ≤ (14 : Int) ∧ (14 : Int) ≤ 24) ∨ (14 : Int) = 27 ∨ (14 : Int) = 30 → 0 ≤ x8 ∧ x8 < (g124 1053 0) ∧ (g124 1100026 x8) = (S 1056 0)) ∧ ((14 : Int) = 1 ∨ (14 : Int) = 2 → sm_vv (S 21) (S 32) (S 33) (S 1056 0) x8 (0 : Int)))) ∧ (∀ g130 : sv_S, (0 ≤ (g130 1047 0) ∧ (g130 1047 0) ≤ 1 ∧ 1 ≤ (g130 1046 0) ∧ (g124 1046 0) ≤ (g130 1046 0) ∧ (g130 1046 0) ≤ (g124 1046 0) + 1 ∧ (g130 1046 0) ≤ 600 ∧ ((g124 1047 0) = 1 → (g130 1047 0) = 1) ∧ ((g130 1047 0) = 1 → (g124 1047 0) = 1 ∨ (g124 1046 0) = 600) ∧ sm_F1 (g124 26) (g130 26) (g124 1046 0) ∧ sm_F1 (g124 27) (g130 27) (g124 1046 0) ∧ sm_F1 (g124 28) (g130 28) (g124 1046 0) ∧ sm_F1 (g124 29) (g130 29) (g124 1046 0) ∧ sm_F1 (g124 1100007) (g130 1100007) ((g124 1046 0) + 1) ∧ sm_F1 (g124 1100023) (g130 1100023) ((g124 1046 0) + 1) ∧ sm_F1 (g124 1100024) (g130 1100024) ((g124 1046 0) + 1) ∧ sm_F1 (g124 1100025) (g130 1100025) ((g124 1046 0) + 1) ∧ ((g130 1047 0) = 0 → (g124 1047 0) = 0 ∧ (g130 1046 0) = (g124 1046 0) + 1 ∧ sm_KC (g130 26) (g130 27) (g130 28) (g130 29) (g130 1100007) (g130 1100023) (g130 1100024) (g130 1100025) (g124 31) (g124 1100009) (g124 1100027) (g124 1100028) (g124 1100026) (g124 1100030) (S 21) (S 32) (S 33) (g130 1046 0) (g124 1053 0) (S 1056 0) (S 1032 0) (S 1007 0) (g124 1100033 0) ∧ sm_MB (g124 31) (g124 1100030) (g124 1053 0) (g130 1046 0) ∧ (g130 26 (g124 1046 0)) = (14 : Int) ∧ (g130 29 (g124 1046 0)) = (S 1056 0) ∧ (g130 1100007 (g130 1046 0)) = ((g124 1100007 (g124 1046 0)) + sm_dl (14 : Int) (x8)) ∧ (g130 1100023 (g130 1046 0)) = (sm_nt (14 : Int) (g124 1046 0) (g124 1100023 (g124 1046 0)) (g124 1100023 (g124 1100023 (g124 1046 0)))) ∧ (g130 1100024 (g130 1046 0)) = (sm_nd (14 : Int) (g124 1100024 (g124 1046 0))) ∧ (g130 1100025 (g130 1046 0)) = (sm_nl (14 : Int) (g124 1046 0) (g124 1100007 (g124 1046 0)) (g124 1100025 (g124 1046 0)) (g124 1100007 (g124 1100025 (g124 1046 0))) (g124 1100025 (g124 1100025 (g124 1046 0)))) ∧ (g130 1100007 (g130 1100023 (g130 1046 0))) = sm_nt (14 : Int) (g124 1100007 (g124 1046 0)) (g124 1100007 (g124 1100023 (g124 1046 0))) (g124 1100007 (g124 1100023 (g124 1100023 (g124 1046 0)))) ∧ ((14 : Int) = 29 → (g130 1100007 (g130 1100025 (g130 1046 0))) = (g124 1100007 (g124 1046 0))) ∧ ((14 : Int) = 17 → 0 ≤ (g124 1100025 (g124 1046 0)) → (g124 1100007 (g124 1100025 (g124 1046 0))) = (g124 1100007 (g124 1046 0)) → (g130 1100007 (g130 1100025 (g130 1046 0))) = (g124 1100007 (g124 1100025 (g124 1100025 (g124 1046 0))))) ∧ (¬ (14 : Int) = 29 → ((14 : Int) = 17 → 0 ≤ (g124 1100025 (g124 1046 0)) → (g124 1100007 (g124 1100025 (g124 1046 0))) < (g124 1100007 (g124 1046 0))) → (g130 1100007 (g130 1100025 (g130 1046 0))) = (g124 1100007 (g124 1100025 (g124 1046 0)))))) → (0 ≤ (g130 1046 0) ∧ (g130 1046 0) ≤ 600 ∧ 0 ≤ (g130 1047 0) ∧ (g130 1047 0) ≤ 1 ∧ 0 ≤ (g124 1053 0) ∧ 0 ≤ (g124 1066 0) ∧ (S 1046 0) ≤ (g130 1046 0) ∧ ((S 1047 0) = 1 → (g130 1047 0) = 1) ∧ sm_F1 (S 26) (g130 26) (S 1046 0) ∧ sm_F1 (S 27) (g130 27) (S 1046 0) ∧ sm_F1 (S 28) (g130 28) (S 1046 0) ∧ sm_F1 (S 29) (g130 29) (S 1046 0) ∧ sm_F1 (S 1100007) (g130 1100007) ((S 1046 0) + 1) ∧ sm_F1 (S 1100023) (g130 1100023) ((S 1046 0) + 1) ∧ sm_F1 (S 1100024) (g130 1100024) ((S 1046 0) + 1) ∧ sm_F1 (S 1100025) (g130 1100025) ((S 1046 0) + 1) ∧ sm_F1 (S 1100009) (g124 1100009) (S 1053 0) ∧ sm_F1 (S 1100027) (g124 1100027) (S 1053 0) ∧ sm_F1 (S 1100028) (g124 1100028) (S 1053 0) ∧ sm_F1 (S 1100026) (g124 1100026) (S 1053 0) ∧ sm_F1 (S 1100030) (g124 1100030) (S 1053 0) ∧ sm_F1 (S 31) (g124 31) (S 1053 0) ∧ (S 1053 0) ≤ (g124 1053 0) ∧ (g124 1066 0) = (S 1066 0) ∧ sm_F1 (S 39) (g124 39) (S 1066 0) ∧ ((S 1047 0) = 1 → (g124 1053 0) = (S 1053 0)) ∧ ((S 1047 0) = 0 → (g124 1053 0) ≤ (S 1053 0) + 3 * (600 - (S 1046 0)) + (S 1100002 p1)) ∧ ((g130 1047 0) = 0 → (S 1047 0) = 0 ∧ sm_KC (g130 26) (g130 27) (g130 28) (g130 29) (g130 1100007) (g130 1100023) (g130 1100024) (g130 1100025) (g124 31) (g124 1100009) (g124 1100027) (g124 1100028) (g124 1100026) (g124 1100030) (S 21) (S 32) (S 33) (g130 1046 0) (g124 1053 0) (S 1056 0) (S 1032 0) (S 1007 0) (g124 1100033 0) ∧ (g124 1100033 0) = (g124 1055 0) ∧ 0 ≤ (g124 1055 0) ∧ (g124 1055 0) ≤ (g130 1046 0) ∧ (S 1046 0) + 1 ≤ (g130 1046 0) ∧ sm_FC (g130 29) (S 1046 0) (g130 1046 0) (S 1056 0) ∧ (g130 1100007 (g130 1046 0)) = (S 1100007 (S 1046 0)) + (0 - sm_cd (S 11) (S 12) (S 14) (p1)) ∧ (g130 1100023 (g130 1046 0)) = (S 1100023 (S 1046 0)) ∧ (g130 1100024 (g130 1046 0)) = (S 1100024 (S 1046 0)) ∧ (g130 1100025 (g130 1046 0)) = (S 1100025 (S 1046 0)) ∧ (g130 1100007 (g130 1100023 (g130 1046 0))) = (S 1100007 (S 1100023 (S 1046 0))) ∧ (g130 1100007 (g130 1100025 (g130 1046 0))) = (S 1100007 (S 1100025 (S 1046 0))) ∧ sm_AP (g124 1100030) (S 1053 0) (g124 1053 0) ∧ sm_HB (g130 1100007) (S 1046 0) (g130 1046 0) (2 * ((S 1100007 (S 1046 0)) - (1 + sm_cd (S 11) (S 12) (S 14) (p1))) + (1 + sm_cd (S 11) (S 12) (S 14) (p1)) + ((g130 1046 0) - (S 1046 0)) + 8 * (S 1100005 p1) + 10) ∧ (g124 1053 0) ≤ (S 1053 0) + 3 * ((g130 1046 0) - (S 1046 0)) ∧ True)))))))) ∧ (((S 11 p1) = (8 : Int)) → ((x11 = (S 12 (5 * p1 + 1)) → sm_WF (S 11) (S 12) (S 13) (S 1100001) (S 1100002) (S 1100005) (S 1100003) (S 1100004) (S 1024 0) (S 1007 0) (S 1009 0) (sm_fn (S 1032 0) (S 21) (S 1056 0)) → 0 ≤ p1 → p1 < (S 1024 0) → (S 1100001 p1) = 1 → (S 11 p1) = 8 → -1 ≤ x11) → ((sm_WF (S 11) (S 12) (S 13) (S 1100001) (S 1100002) (S 1100005) (S 1100003) (S 1100004) (S 1024 0) (S 1007 0) (S 1009 0) (sm_fn (S 1032 0) (S 21) (S 1056 0)) → 0 ≤ x11 → x11 < (S 1024 0) → (S 1100001 x11) = 3 → 0 ≤ (S 1100002 x11) ∧ 0 ≤ (S 1100005 x11)) → ((x8 = (S 12 (5 * p1 + 0)) → x11 = (S 12 (5 * p1 + 1)) → sm_WF (S 11) (S 12) (S 13) (S 1100001) (S 1100002) (S 1100005) (S 1100003) (S 1100004) (S 1024 0) (S 1007 0) (S 1009 0) (sm_fn (S 1032 0) (S 21) (S 1056 0)) → 0 ≤ p1 → p1 < (S 1024 0) → (S 1100001 p1) = 1 → (S 11 p1) = 8 → sm_ex (S 1100001) (S 1100002) (S 1100005) (S 1024 0) 1 (x8) ((S 1100002 (p1))) ((S 1100005 (p1))) ∧ x8 < (p1) ∧ sm_li (S 1100001) (S 1100002) (S 1100005) (S 1024 0) 3 (x11) 8 (((S 1100005 (p1))) - 1)) → ((sm_WF (S 11) (S 12) (S 13) (S 1100001) (S 1100002) (S 1100005) (S 1100003) (S 1100004) (S 1024 0) (S 1007 0) (S 1009 0) (sm_fn (S 1032 0) (S 21) (S 1056 0)) → 0 ≤ p1 → p1 < (S 1024 0) → ((S 1100001 (p1)) = 1 → 0 ≤ (S 1100002 (p1)) ∧ ((S 11 (p1)) = 3 → (S 12 (5 * (p1) + 1)) < (p1)) ∧ ((S 11 (p1)) = 4 ∨ (S 11 (p1)) = 5 ∨ (S 11 (p1)) = 8 ∨ (S 11 (p1)) = 9 → 17 * (S 1100005 (p1)) + 2 ≤ (S 1100002 (p1))) ∧ 0 ≤ (S 1100005 (p1))) ∧ ((S 1100001 (p1)) = 2 → 0 ≤ (S 1100005 (p1)) ∧ (S 1100002 (p1)) ≤ 17 * (S 1100005 (p1)) + 5 ∧ ((S 11 (p1)) = 33 → 1 ≤ (S 1100005 (p1)))) ∧ ((S 1100001 (p1)) = 6 → 0 ≤ (S 1100002 (p1)) ∧ 1 ≤ (S 1100004 (p1)) ∧ ((S 12 (5 * (p1))) = - 1 → (S 1100004 (p1)) = 2)) ∧ ((S 1100001 (p1)) = 3 → 1 ≤ (S 1100002 (p1)))) → ((sm_WF (S 11) (S 12) (S 13) (S 1100001) (S 1100002) (S 1100005) (S 1100003) (S 1100004) (S 1024 0) (S 1007 0) (S 1009 0) (sm_fn (S 1032 0) (S 21) (S 1056 0)) → 0 ≤ x11 → x11 < (S 1024 0) → ((S 1100001 (x11)) = 1 → 0 ≤ (S 1100002 (x11)) ∧ ((S 11 (x11)) = 3 → (S 12 (5 * (x11) + 1)) < (x11)) ∧ ((S 11 (x11)) = 4 ∨ (S 11 (x11)) = 5 ∨ (S 11 (x11)) = 8 ∨ (S 11 (x11)) = 9 → 17 * (S 1100005 (x11)) + 2 ≤ (S 1100002 (x11))) ∧ 0 ≤ (S 1100005 (x11))) ∧ ((S 1100001 (x11)) = 2 → 0 ≤ (S 1100005 (x11)) ∧ (S 1100002 (x11)) ≤ 17 * (S 1100005 (x11)) + 5 ∧ ((S 11 (x11)) = 33 → 1 ≤ (S 1100005 (x11)))) ∧ ((S 1100001 (x11)) = 6 → 0 ≤ (S 1100002 (x11)) ∧ 1 ≤ (S 1100004 (x11)) ∧ ((S 12 (5 * (x11))) = - 1 → (S 1100004 (x11)) = 2)) ∧ ((S 1100001 (x11)) = 3 → 1 ≤ (S 1100002 (x11)))) → (0 ≤ p1 ∧ p1 < 12000 ∧ 0 ≤ (S 12 (5 * p1)) ∧ (S 12 (5 * p1)) < 12000) ∧ (1 + 1 ≤ ((S 1100002 p1) + (600 - (S 1046 0)) + 8)) ∧ (((¬ (((S 11 (S 12 (5 * p1))) = 7 ∧ (S 14 (S 12 (5 * p1))) = 0))) → (sm_WF (S 11) (S 12) (S 13) (S 1100001) (S 1100002) (S 1100005) (S 1100003) (S 1100004) (S 1024 0) (S 1007 0) (S 1009 0) (sm_fn (S 1032 0) (S 21) (S 1056 0)) ∧ (S 1009 0) = 0 ∧ 0 ≤ (S 1007 0) ∧ (S 1007 0) ≤ 90 ∧ 0 ≤ (S 1024 0) ∧ (S 1024 0) ≤ 12000 ∧ 1 ≤ (S 1032 0) ∧ (S 1032 0) ≤ 11 ∧ 0 ≤ (S 1056 0) ∧ (S 1056 0) < (S 1032 0) ∧ sm_VB (S 33) (S 21) (S 1032 0) ∧ 0 ≤ (S 1046 0) ∧ (S 1046 0) ≤ 600 ∧ 0 ≤ (S 1047 0) ∧ (S 1047 0) ≤ 1 ∧ 0 ≤ (S 1053 0) ∧ 0 ≤ (S 1066 0) ∧ -1 ≤ x11 ∧ (¬ x11 = -1 → 0 ≤ x11 ∧ x11 < (S 1024 0) ∧ (S 1100001 x11) = 3 ∧ 0 ≤ (S 1100002 x11) ∧ (S 1100002 x11) ≤ 8 ∧ 0 ≤ (S 1100005 x11) ∧ sm_LF (S 39) (S 1100002) (S 1066 0) (S 1024 0) (12001 * (17 * (S 1100005 x11) + 18))) ∧ 0 ≤ (S 1066 0) ∧ ((S 1047 0) = 0 → sm_KC (S 26) (S 27) (S 28) (S 29) (S 1100007) (S 1100023) (S 1100024) (S 1100025) (S 31) (S 1100009) (S 1100027) (S 1100028) (S 1100026) (S 1100030) (S 21) (S 32) (S 33) (S 1046 0) (S 1053 0) (S 1056 0) (S 1032 0) (S 1007 0) (S 1100033 0) ∧ (S 1100033 0) = (S 1055 0) ∧ 0 ≤ (S 1055 0) ∧ (S 1055 0) ≤ (S 1046 0) ∧ (0 ≤ (S 1100023 (S 1046 0)) → (S 1100007 (S 1100023 (S 1046 0))) ≤ (S 1100007 (S 1046 0))) ∧ (0 ≤ (S 1100025 (S 1046 0)) → (S 1100007 (S 1100025 (S 1046 0))) ≤ (S 1100007 (S 1046 0))) ∧ (S 1100007 (S 1046 0)) ≤ (S 1046 0) ∧ (S 1053 0) + 3 * (600 - (S 1046 0)) + (if x11 = -1 then 0 else 17 * (S 1100005 x11) + 17) ≤ 8000)) ∧ (0 ≤ ((if (S 1047 0) = 0 then (if x11 = -1 then 0 else 17 * (S 1100005 x11) + 17) + (600 - (S 1046 0)) + 9 else 5)) ∧ ((if (S 1047 0) = 0 then (if x11 = -1 then 0 else 17 * (S 1100005 x11) + 17) + (600 - (S 1046 0)) + 9 else 5)) < d) ∧ (0 ≤ ((if (S 1047 0) = 0 then (if x11 = -1 then 0 else 17 * (S 1100005 x11) + 17) + (600 - (S 1046 0)) + 9 else 5)) ∧ ((if (S 1047 0) = 0 then (if x11 = -1 then 0 else 17 * (S 1100005 x11) + 17) + (600 - (S 1046 0)) + 9 else 5)) + 1 ≤ ((S 1100002 p1) + (600 - (S 1046 0)) + 8)) ∧ (∀ r149 : Int, sv_R r149 → ∀ g145 : sv_S, (0 ≤ r149 ∧ r149 ≤ 8 ∧ 0 ≤ (g145 1046 0) ∧ (g145 1046 0) ≤ 600 ∧ 0 ≤ (g145 1047 0) ∧ (g145 1047 0) ≤ 1 ∧ 0 ≤ (g145 1053 0) ∧ 0 ≤ (g145 1066 0) ∧ (S 1046 0) ≤ (g145 1046 0) ∧ ((S 1047 0) = 1 → (g145 1047 0) = 1) ∧ sm_F1 (S 26) (g145 26) (S 1046 0) ∧ sm_F1 (S 27) (g145 27) (S 1046 0) ∧ sm_F1 (S 28) (g145 28) (S 1046 0) ∧ sm_F1 (S 29) (g145 29) (S 1046 0) ∧ sm_F1 (S 1100007) (g145 1100007) ((S 1046 0) + 1) ∧ sm_F1 (S 1100023) (g145 1100023) ((S 1046 0) + 1) ∧ sm_F1 (S 1100024) (g145 1100024) ((S 1046 0) + 1) ∧ sm_F1 (S 1100025) (g145 1100025) ((S 1046 0) + 1) ∧ sm_F1 (S 1100009) (g145 1100009) (S 1053 0) ∧ sm_F1 (S 1100027) (g145 1100027) (S 1053 0) ∧ sm_F1 (S 1100028) (g145 1100028) (S 1053 0) ∧ sm_F1 (S 1100026) (g145 1100026) (S 1053 0) ∧ sm_F1 (S 1100030) (g145 1100030) (S 1053 0) ∧ sm_F1 (S 31) (g145 31) (S 1053 0) ∧ (S 1053 0) ≤ (g145 1053 0) ∧ (g145 1066 0) = (S 1066 0) ∧ sm_F1 (S 39) (g145 39) (S 1066 0) ∧ ((S 1047 0) = 1 → (g145 1053 0) = (S 1053 0)) ∧ ((S 1047 0) = 0 → (g145 1053 0) ≤ (S 1053 0) + 3 * (600 - (S 1046 0)) + (if x11 = -1 then 0 else 17 * (S 1100005 x11) + 17)) ∧ ((g145 1047 0) = 0 → (S 1047 0) = 0 ∧ sm_KC (g145 26) (g145 27) (g145 28) (g145 29) (g145 1100007) (g145 1100023) (g145 1100024) (g145 1100025) (g145 31) (g145 1100009) (g145 1100027) (g145 1100028) (g145 1100026) (g145 1100030) (S 21) (S 32) (S 33) (g145 1046 0) (g145 1053 0) (S 1056 0) (S 1032 0) (S 1007 0) (g145 1100033 0) ∧ (g145 1100033 0) = (g145 1055 0) ∧ 0 ≤ (g145 1055 0) ∧ (g145 1055 0) ≤ (g145 1046 0) ∧ (S 1046 0) + r149 ≤ (g145 1046 0) ∧ sm_FC (g145 29) (S 1046 0) (g145 1046 0) (S 1056 0) ∧ (g145 1100007 (g145 1046 0)) = (S 1100007 (S 1046 0)) + r149 ∧ (g145 1100023 (g145 1046 0)) = (S 1100023 (S 1046 0)) ∧ (g145 1100024 (g145 1046 0)) = (S 1100024 (S 1046 0)) ∧ (g145 1100025 (g145 1046 0)) = (S 1100025 (S 1046 0)) ∧ (g145 1100007 (g145 1100023 (g145 1046 0))) = (S 1100007 (S 1100023 (S 1046 0))) ∧ (g145 1100007 (g145 1100025 (g145 1046 0))) = (S 1100007 (S 1100025 (S 1046 0))) ∧ sm_AP (g145 1100030) (S 1053 0) (g145 1053 0) ∧ sm_HB (g145 1100007) (S 1046 0) (g145 1046 0) (2 * (S 1100007 (S 1046 0)) + ((g145 1046 0) - (S 1046 0)) + (if x11 = -1 then 0 else 8 * (S 1100005 x11) + 17)) ∧ (g145 1053 0) ≤ (S 1053 0) + 3 * ((g145 1046 0) - (S 1046 0)) ∧ True)) → (((¬ x11 = -1 → (S 1100005 x11) ≤ (S 1100005 p1) - 1) → 0 ≤ (S 1100005 p1) → (if x11 = -1 then 0 else 8 * (S 1100005 x11) + 17) ≤ 8 * (S 1100005 p1) + 9) → (0 ≤ (g145 1046 0) ∧ (g145 1046 0) ≤ 600 ∧ 0 ≤ (g145 1047 0) ∧ (g145 1047 0) ≤ 1 ∧ ((g145 1047 0) = 0 → sm_KC (g145 26) (g145 27) (g145 28) (g145 29) (g145 1100007) (g145 1100023) (g145 1100024) (g145 1100025) (g145 31) (g145 1100009) (g145 1100027) (g145 1100028) (g145 1100026) (g145 1100030) (S 21) (S 32) (S 33) (g145 1046 0) (g145 1053 0) (S 1056 0) (S 1032 0) (S 1007 0) (g145 1100033 0) ∧ 0 ≤ (15 : Int) ∧ (15 : Int) ≤ 30 ∧ sm_ci (15 : Int) (r149) ((0 : Int)) (g145 1100007 (g145 1046 0)) (g145 1100023 (g145 1046 0)) (g145 1100024 (g145 1046 0)) (g145 1100025 (g145 1046 0)) (g145 1100007 (g145 1100023 (g145 1046 0))) (g145 1100007 (g145 1100025 (g145 1046 0))) (g145 1100023 (g145 1100023 (g145 1046 0))) (g145 1100025 (g145 1100025 (g145 1046 0))) (g145 1046 0) (g145 1100033 0) (S 1032 0) (S 1007 0) (S 21 r149) (S 1056 0) ((g145 1100007 (g145 1046 0)) + sm_dl (15 : Int) (r149)) (sm_nt (15 : Int) (g145 1046 0) (g145 1100023 (g145 1046 0)) (g145 1100023 (g145 1100023 (g145 1046 0)))) (sm_nl (15 : Int) (g145 1046 0) (g145 1100007 (g145 1046 0)) (g145 1100025 (g145 1046 0)) (g145 1100007 (g145 1100025 (g145 1046 0))) (g145 1100025 (g145 1100025 (g145 1046 0)))) (g145 1100009 r149) (g145 1100027 r149) (g145 1100028 r149) ∧ ((21 ≤ (15 : Int) ∧ (15 : Int) ≤ 24) ∨ (15 : Int) = 27 ∨ (15 : Int) = 30 → 0 ≤ r149 ∧ r149 < (g145 1053 0) ∧ (g145 1100026 r149) = (S 1056 0)) ∧ ((15 : Int) = 1 ∨ (15 : Int) = 2 → sm_vv (S 21) (S 32) (S 33) (S 1056 0) r149 (0 : Int)))) ∧ (∀ g153 : sv_S, (0 ≤ (g153 1047 0) ∧ (g153 1047 0) ≤ 1 ∧ 1 ≤ (g153 1046 0) ∧ (g145 1046 0) ≤ (g153 1046 0) ∧ (g153 1046 0) ≤ (g145 1046 0) + 1 ∧ (g153 1046 0) ≤ 600 ∧ ((g145 1047 0) = 1 → (g153 1047 0) = 1) ∧ ((g153 1047 0) = 1 → (g145 1047 0) = 1 ∨ (g145 1046 0) = 600) ∧ sm_F1 (g145 26) (g153 26) (g145 1046 0) ∧ sm_F1 (g145 27) (g153 27) (g145 1046 0) ∧ sm_F1 (g145 28) (g153 28) (g145 1046 0) ∧ sm_F1 (g145 29) (g153 29) (g145 1046 0) ∧ sm_F1 (g145 1100007) (g153 1100007) ((g145 1046 0) + 1) ∧ sm_F1 (g145 1100023) (g153 1100023) ((g145 1046 0) + 1) ∧ sm_F1 (g145 1100024) (g153 1100024) ((g145 1046 0) + 1) ∧ sm_F1 (g145 1100025) (g153 1100025) ((g145 1046 0) + 1) ∧ ((g153 1047 0) = 0 → (g145 1047 0) = 0 ∧ (g153 1046 0) = (g145 1046 0) + 1 ∧ sm_KC (g153 26) (g153 27) (g153 28) (g153 29) (g153 1100007) (g153 1100023) (g153 1100024) (g153 1100025) (g145 31) (g145 1100009) (g145 1100027) (g145 1100028) (g145 1100026) (g145 1100030) (S 21) (S 32) (S 33) (g153 1046 0) (g145 1053 0) (S 1056 0) (S 1032 0) (S 1007 0) (g145 1100033 0) ∧ sm_MB (g145 31) (g145 1100030) (g145 1053 0) (g153 1046 0) ∧ (g153 26 (g145 1046 0)) = (15 : Int) ∧ (g153 29 (g145 1046 0)) = (S 1056 0) ∧ (g153 1100007 (g153 1046 0)) = ((g145 1100007 (g145 1046 0)) + sm_dl (15 : Int) (r149)) ∧ (g153 1100023 (g153 1046 0)) = (sm_nt (15 : Int) (g145 1046 0) (g145 1100023 (g145 1046 0)) (g145 1100023 (g145 1100023 (g145 1046 0)))) ∧ (g153 1100024 (g153 1046 0)) = (sm_nd (15 : Int) (g145 1100024 (g145 1046 0))) ∧ (g153 1100025 (g153 1046 0)) = (sm_nl (15 : Int) (g145 1046 0) (g145 1100007 (g145 1046 0)) (g145 1100025 (g145 1046 0)) (g145 1100007 (g145 1100025 (g145 1046 0))) (g145 1100025 (g145 1100025 (g145 1046 0)))) ∧ (g153 1100007 (g153 1100023 (g153 1046 0))) = sm_nt (15 : Int) (g145 1100007 (g145 1046 0)) (g145 1100007 (g145 1100023 (g145 1046 0))) (g145 1100007 (g145 1100023 (g145 1100023 (g145 1046 0)))) ∧ ((15 : Int) = 29 → (g153 1100007 (g153 1100025 (g153 1046 0))) = (g145 1100007 (g145 1046 0))) ∧ ((15 : Int) = 17 → 0 ≤ (g145 1100025 (g145 1046 0)) → (g145 1100007 (g145 1100025 (g145 1046 0))) = (g145 1100007 (g145 1046 0)) → (g153 1100007 (g153 1100025 (g153 1046 0))) = (g145 1100007 (g145 1100025 (g145 1100025 (g145 1046 0))))) ∧ (¬ (15 : Int) = 29 → ((15 : Int) = 17 → 0 ≤ (g145 1100025 (g145 1046 0)) → (g145 1100007 (g145 1100025 (g145 1046 0))) < (g145 1100007 (g145 1046 0))) → (g153 1100007 (g153 1100025 (g153 1046 0))) = (g145 1100007 (g145 1100025 (g145 1046 0)))))) → (0 ≤ (g153 1046 0) ∧ (g153 1046 0) ≤ 600 ∧ 0 ≤ (g153 1047 0) ∧ (g153 1047 0) ≤ 1 ∧ 0 ≤ (g145 1053 0) ∧ 0 ≤ (g145 1066 0) ∧ (S 1046 0) ≤ (g153 1046 0) ∧ ((S 1047 0) = 1 → (g153 1047 0) = 1) ∧ sm_F1 (S 26) (g153 26) (S 1046 0) ∧ sm_F1 (S 27) (g153 27) (S 1046 0) ∧ sm_F1 (S 28) (g153 28) (S 1046 0) ∧ sm_F1 (S 29) (g153 29) (S 1046 0) ∧ sm_F1 (S 1100007) (g153 1100007) ((S 1046 0) + 1) ∧ sm_F1 (S 1100023) (g153 1100023) ((S 1046 0) + 1) ∧ sm_F1 (S 1100024) (g153 1100024) ((S 1046 0) + 1) ∧ sm_F1 (S 1100025) (g153 1100025) ((S 1046 0) + 1) ∧ sm_F1 (S 1100009) (g145 1100009) (S 1053 0) ∧ sm_F1 (S 1100027) (g145 1100027) (S 1053 0) ∧ sm_F1 (S 1100028) (g145 1100028) (S 1053 0) ∧ sm_F1 (S 1100026) (g145 1100026) (S 1053 0) ∧ sm_F1 (S 1100030) (g145 1100030) (S 1053 0) ∧ sm_F1 (S 31) (g145 31) (S 1053 0) ∧ (S 1053 0) ≤ (g145 1053 0) ∧ (g145 1066 0) = (S 1066 0) ∧ sm_F1 (S 39) (g145 39) (S 1066 0) ∧ ((S 1047 0) = 1 → (g145 1053 0) = (S 1053 0)) ∧ ((S 1047 0) = 0 → (g145 1053 0) ≤ (S 1053 0) + 3 * (600 - (S 1046 0)) + (S 1100002 p1)) ∧ ((g153 1047 0) = 0 → (S 1047 0) = 0 ∧ sm_KC (g153 26) (g153 27) (g153 28) (g153 29) (g153 1100007) (g153 1100023) (g153 1100024) (g153 1100025) (g145 31) (g145 1100009) (g145 1100027) (g145 1100028) (g145 1100026) (g145 1100030) (S 21) (S 32) (S 33) (g153 1046 0) (g145 1053 0) (S 1056 0) (S 1032 0) (S 1007 0) (g145 1100033 0) ∧ (g145 1100033 0) = (g145 1055 0) ∧ 0 ≤ (g145 1055 0) ∧ (g145 1055 0) ≤ (g153 1046 0) ∧ (S 1046 0) + 1 ≤ (g153 1046 0) ∧ sm_FC (g153 29) (S 1046 0) (g153 1046 0) (S 1056 0) ∧ (g153 1100007 (g153 1046 0)) = (S 1100007 (S 1046 0)) + (0 - sm_cd (S 11) (S 12) (S 14) (p1)) ∧ (g153 1100023 (g153 1046 0)) = (S 1100023 (S 1046 0)) ∧ (g153 1100024 (g153 1046 0)) = (S 1100024 (S 1046 0)) ∧ (g153 1100025 (g153 1046 0)) = (S 1100025 (S 1046 0)) ∧ (g153 1100007 (g153 1100023 (g153 1046 0))) = (S 1100007 (S 1100023 (S 1046 0))) ∧ (g153 1100007 (g153 1100025 (g153 1046 0))) = (S 1100007 (S 1100025 (S 1046 0))) ∧ sm_AP (g145 1100030) (S 1053 0) (g145 1053 0) ∧ sm_HB (g153 1100007) (S 1046 0) (g153 1046 0) (2 * ((S 1100007 (S 1046 0)) - (1 + sm_cd (S 11) (S 12) (S 14) (p1))) + (1 + sm_cd (S 11) (S 12) (S 14) (p1)) + ((g153 1046 0) - (S 1046 0)) + 8 * (S 1100005 p1) + 10) ∧ (g145 1053 0) ≤ (S 1053 0) + 3 * ((g153 1046 0) - (S 1046 0)) ∧ True)))))) ∧ ((((S 11 (S 12 (5 * p1))) = 7 ∧ (S 14 (S 12 (5 * p1))) = 0)) → ((x8 = (S 12 (5 * p1 + 0)) → (S 11 (S 12 (5 * p1))) = 7 ∧ (S 14 (S 12 (5 * p1))) = 0 → (S 11 x8) = 7) → ((sm_WF (S 11) (S 12) (S 13) (S 1100001) (S 1100002) (S 1100005) (S 1100003) (S 1100004) (S 1024 0) (S 1007 0) (S 1009 0) (sm_fn (S 1032 0) (S 21) (S 1056 0)) → 0 ≤ x8 → x8 < (S 1024 0) → (S 1100001 x8) = 1 → (S 11 x8) = 7 → sm_ex (S 1100001) (S 1100002) (S 1100005) (S 1024 0) 1 ((S 12 (5 * (x8)))) ((S 1100002 (x8))) ((S 1100005 (x8))) ∧ (S 12 (5 * (x8))) < (x8) ∧ sm_ex (S 1100001) (S 1100002) (S 1100005) (S 1024 0) 1 ((S 12 (5 * (x8) + 1))) (((S 1100002 (x8))) - 1) ((S 1100005 (x8))) ∧ (S 12 (5 * (x8) + 1)) < (x8)) → ((sm_WF (S 11) (S 12) (S 13) (S 1100001) (S 1100002) (S 1100005) (S 1100003) (S 1100004) (S 1024 0) (S 1007 0) (S 1009 0) (sm_fn (S 1032 0) (S 21) (S 1056 0)) → 0 ≤ (S 12 (5 * x8 + 1)) → (S 12 (5 * x8 + 1)) < (S 1024 0) → ((S 1100001 ((S 12 (5 * x8 + 1)))) = 1 → 0 ≤ (S 1100002 ((S 12 (5 * x8 + 1)))) ∧ ((S 11 ((S 12 (5 * x8 + 1)))) = 3 → (S 12 (5 * ((S 12 (5 * x8 + 1))) + 1)) < ((S 12 (5 * x8 + 1)))) ∧ ((S 11 ((S 12 (5 * x8 + 1)))) = 4 ∨ (S 11 ((S 12 (5 * x8 + 1)))) = 5 ∨ (S 11 ((S 12 (5 * x8 + 1)))) = 8 ∨ (S 11 ((S 12 (5 * x8 + 1)))) = 9 → 17 * (S 1100005 ((S 12 (5 * x8 + 1)))) + 2 ≤ (S 1100002 ((S 12 (5 * x8 + 1))))) ∧ 0 ≤ (S 1100005 ((S 12 (5 * x8 + 1))))) ∧ ((S 1100001 ((S 12 (5 * x8 + 1)))) = 2 → 0 ≤ (S 1100005 ((S 12 (5 * x8 + 1)))) ∧ (S 1100002 ((S 12 (5 * x8 + 1)))) ≤ 17 * (S 1100005 ((S 12 (5 * x8 + 1)))) + 5 ∧ ((S 11 ((S 12 (5 * x8 + 1)))) = 33 → 1 ≤ (S 1100005 ((S 12 (5 * x8 + 1)))))) ∧ ((S 1100001 ((S 12 (5 * x8 + 1)))) = 6 → 0 ≤ (S 1100002 ((S 12 (5 * x8 + 1)))) ∧ 1 ≤ (S 1100004 ((S 12 (5 * x8 + 1)))) ∧ ((S 12 (5 * ((S 12 (5 * x8 + 1))))) = - 1 → (S 1100004 ((S 12 (5 * x8 + 1)))) = 2)) ∧ ((S 1100001 ((S 12 (5 * x8 + 1)))) = 3 → 1 ≤ (S 1100002 ((S 12 (5 * x8 + 1)))))) → (0 ≤ (S 1046 0) ∧ (S 1046 0) ≤ 600 ∧ 0 ≤ (S 1047 0) ∧ (S 1047 0) ≤ 1 ∧ ((S 1047 0) = 0 → sm_KC (S 26) (S 27) (S 28) (S 29) (S 1100007) (S 1100023) (S 1100024) (S 1100025) (S 31) (S 1100009) (S 1100027) (S 1100028) (S 1100026) (S 1100030) (S 21) (S 32) (S 33) (S 1046 0) (S 1053 0) (S 1056 0) (S 1032 0) (S 1007 0) (S 1100033 0) ∧ 0 ≤ (18 : Int) ∧ (18 : Int) ≤ 30 ∧ sm_ci (18 : Int) ((0 : Int)) ((0 : Int)) (S 1100007 (S 1046 0)) (S 1100023 (S 1046 0)) (S 1100024 (S 1046 0)) (S 1100025 (S 1046 0)) (S 1100007 (S 1100023 (S 1046 0))) (S 1100007 (S 1100025 (S 1046 0))) (S 1100023 (S 1100023 (S 1046 0))) (S 1100025 (S 1100025 (S 1046 0))) (S 1046 0) (S 1100033 0) (S 1032 0) (S 1007 0) (S 21 (0 : Int)) (S 1056 0) ((S 1100007 (S 1046 0)) + sm_dl (18 : Int) ((0 : Int))) (sm_nt (18 : Int) (S 1046 0) (S 1100023 (S 1046 0)) (S 1100023 (S 1100023 (S 1046 0)))) (sm_nl (18 : Int) (S 1046 0) (S 1100007 (S 1046 0)) (S 1100025 (S 1046 0)) (S 1100007 (S 1100025 (S 1046 0))) (S 1100025 (S 1100025 (S 1046 0)))) (S 1100009 (0 : Int)) (S 1100027 (0 : Int)) (S 1100028 (0 : Int)) ∧ ((21 ≤ (18 : Int) ∧ (18 : Int) ≤ 24) ∨ (18 : Int) = 27 ∨ (18 : Int) = 30 → 0 ≤ (0 : Int) ∧ (0 : Int) < (S 1053 0) ∧ (S 1100026 (0 : Int)) = (S 1056 0)) ∧ ((18 : Int) = 1 ∨ (18 : Int) = 2 → sm_vv (S 21) (S 32) (S 33) (S 1056 0) (0 : Int) (0 : Int)))) ∧ (∀ g162 : sv_S, (0 ≤ (g162 1047 0) ∧ (g162 1047 0) ≤ 1 ∧ 1 ≤ (g162 1046 0) ∧ (S 1046 0) ≤ (g162 1046 0) ∧ (g162 1046 0) ≤ (S 1046 0) + 1 ∧ (g162 1046 0) ≤ 600 ∧ ((S 1047 0) = 1 → (g162 1047 0) = 1) ∧ ((g162 1047 0) = 1 → (S 1047 0) = 1 ∨ (S 1046 0) = 600) ∧ sm_F1 (S 26) (g162 26) (S 1046 0) ∧ sm_F1 (S 27) (g162 27) (S 1046 0) ∧ sm_F1 (S 28) (g162 28) (S 1046 0) ∧ sm_F1 (S 29) (g162 29) (S 1046 0) ∧ sm_F1 (S 1100007) (g162 1100007) ((S 1046 0) + 1) ∧ sm_F1 (S 1100023) (g162 1100023) ((S 1046 0) + 1) ∧ sm_F1 (S 1100024) (g162 1100024) ((S 1046 0) + 1) ∧ sm_F1 (S 1100025) (g162 1100025) ((S 1046 0) + 1) ∧ ((g162 1047 0) = 0 → (S 1047 0) = 0 ∧ (g162 1046 0) = (S 1046 0) + 1 ∧ sm_KC (g162 26) (g162 27) (g162 28) (g162 29) (g162 1100007) (g162 1100023) (g162 1100024) (g162 1100025) (S 31) (S 1100009) (S 1100027) (S 1100028) (S 1100026) (S 1100030) (S 21) (S 32) (S 33) (g162 1046 0) (S 1053 0) (S 1056 0) (S 1032 0) (S 1007 0) (S 1100033 0) ∧ sm_MB (S 31) (S 1100030) (S 1053 0) (g162 1046 0) ∧ (g162 26 (S 1046 0)) = (18 : Int) ∧ (g162 29 (S 1046 0)) = (S 1056 0) ∧ (g162 1100007 (g162 1046 0)) = ((S 1100007 (S 1046 0)) + sm_dl (18 : Int) ((0 : Int))) ∧ (g162 1100023 (g162 1046 0)) = (sm_nt (18 : Int) (S 1046 0) (S 1100023 (S 1046 0)) (S 1100023 (S 1100023 (S 1046 0)))) ∧ (g162 1100024 (g162 1046 0)) = (sm_nd (18 : Int) (S 1100024 (S 1046 0))) ∧ (g162 1100025 (g162 1046 0)) = (sm_nl (18 : Int) (S 1046 0) (S 1100007 (S 1046 0)) (S 1100025 (S 1046 0)) (S 1100007 (S 1100025 (S 1046 0))) (S 1100025 (S 1100025 (S 1046 0)))) ∧ (g162 1100007 (g162 1100023 (g162 1046 0))) = sm_nt (18 : Int) (S 1100007 (S 1046 0)) (S 1100007 (S 1100023 (S 1046 0))) (S 1100007 (S 1100023 (S 1100023 (S 1046 0)))) ∧ ((18 : Int) = 29 → (g162 1100007 (g162 1100025 (g162 1046 0))) = (S 1100007 (S 1046 0))) ∧ ((18 : Int) = 17 → 0 ≤ (S 1100025 (S 1046 0)) → (S 1100007 (S 1100025 (S 1046 0))) = (S 1100007 (S 1046 0)) → (g162 1100007 (g162 1100025 (g162 1046 0))) = (S 1100007 (S 1100025 (S 1100025 (S 1046 0))))) ∧ (¬ (18 : Int) = 29 → ((18 : Int) = 17 → 0 ≤ (S 1100025 (S 1046 0)) → (S 1100007 (S 1100025 (S 1046 0))) < (S 1100007 (S 1046 0))) → (g162 1100007 (g162 1100025 (g162 1046 0))) = (S 1100007 (S 1100025 (S 1046 0)))))) → (0 ≤ x8 ∧ x8 < 12000 ∧ 0 ≤ (1 : Int) ∧ (1 : Int) ≤ 4) ∧ (sm_WF (S 11) (S 12) (S 13) (S 1100001) (S 1100002) (S 1100005) (S 1100003) (S 1100004) (S 1024 0) (S 1007 0) (S 1009 0) (sm_fn (S 1032 0) (S 21) (S 1056 0)) ∧ (S 1009 0) = 0 ∧ 0 ≤ (S 1007 0) ∧ (S 1007 0) ≤ 90 ∧ 0 ≤ (S 1024 0) ∧ (S 1024 0) ≤ 12000 ∧ 1 ≤ (S 1032 0) ∧ (S 1032 0) ≤ 11 ∧ 0 ≤ (S 1056 0) ∧ (S 1056 0) < (S 1032 0) ∧ sm_VB (S 33) (S 21) (S 1032 0) ∧ 0 ≤ (g162 1046 0) ∧ (g162 1046 0) ≤ 600 ∧ 0 ≤ (g162 1047 0) ∧ (g162 1047 0) ≤ 1 ∧ 0 ≤ (S 1053 0) ∧ 0 ≤ (S 1066 0) ∧ 0 ≤ ((S 12 (5 * x8 + (1 : Int)))) ∧ ((S 12 (5 * x8 + (1 : Int)))) < (S 1024 0) ∧ (S 1100001 ((S 12 (5 * x8 + (1 : Int))))) = 1 ∧ sm_LF (S 39) (S 1100002) (S 1066 0) (S 1024 0) (12001 * (S 1100002 ((S 12 (5 * x8 + (1 : Int))))) + ((S 12 (5 * x8 + (1 : Int))))) ∧ ((g162 1047 0) = 0 → sm_KC (g162 26) (g162 27) (g162 28) (g162 29) (g162 1100007) (g162 1100023) (g162 1100024) (g162 1100025) (S 31) (S 1100009) (S 1100027) (S 1100028) (S 1100026) (S 1100030) (S 21) (S 32) (S 33) (g162 1046 0) (S 1053 0) (S 1056 0) (S 1032 0) (S 1007 0) (S 1100033 0) ∧ (S 1100033 0) = (S 1055 0) ∧ 0 ≤ (S 1055 0) ∧ (S 1055 0) ≤ (g162 1046 0) ∧ (0 ≤ (g162 1100023 (g162 1046 0)) → (g162 1100007 (g162 1100023 (g162 1046 0))) ≤ (g162 1100007 (g162 1046 0))) ∧ (0 ≤ (g162 1100025 (g162 1046 0)) → (g162 1100007 (g162 1100025 (g162 1046 0))) ≤ (g162 1100007 (g162 1046 0))) ∧ (g162 1100007 (g162 1046 0)) ≤ (g162 1046 0) ∧ (S 1053 0) + 3 * (600 - (g162 1046 0)) + (S 1100002 ((S 12 (5 * x8 + (1 : Int))))) ≤ 8000)) ∧ (0 ≤ ((if (g162 1047 0) = 0 then (S 1100002 ((S 12 (5 * x8 + (1 : Int))))) + (600 - (g162 1046 0)) + 8 else 4)) ∧ ((if (g162 1047 0) = 0 then (S 1100002 ((S 12 (5 * x8 + (1 : Int))))) + (600 - (g162 1046 0)) + 8 else 4)) < d) ∧ (0 ≤ ((if (g162 1047 0) = 0 then (S 1100002 ((S 12 (5 * x8 + (1 : Int))))) + (600 - (g162 1046 0)) + 8 else 4)) ∧ ((if (g162 1047 0) = 0 then (S 1100002 ((S 12 (5 * x8 + (1 : Int))))) + (600 - (g162 1046 0)) + 8 else 4)) + 1 ≤ ((S 1100002 p1) + (600 - (S 1046 0)) + 8)) ∧ (∀ g171 : sv_S, (0 ≤ (g171 1046 0) ∧ (g171 1046 0) ≤ 600 ∧ 0 ≤ (g171 1047 0) ∧ (g171 1047 0) ≤ 1 ∧ 0 ≤ (g171 1053 0) ∧ 0 ≤ (g171 1066 0) ∧ (g162 1046 0) ≤ (g171 1046 0) ∧ ((g162 1047 0) = 1 → (g171 1047 0) = 1) ∧ sm_F1 (g162 26) (g171 26) (g162 1046 0) ∧ sm_F1 (g162 27) (g171 27) (g162 1046 0) ∧ sm_F1 (g162 28) (g171 28) (g162 1046 0) ∧ sm_F1 (g162 29) (g171 29) (g162 1046 0) ∧ sm_F1 (g162 1100007) (g171 1100007) ((g162 1046 0) + 1) ∧ sm_F1 (g162 1100023) (g171 1100023) ((g162 1046 0) + 1) ∧ sm_F1 (g162 1100024) (g171 1100024) ((g162 1046 0) + 1) ∧ sm_F1 (g162 1100025) (g171 1100025) ((g162 1046 0) + 1) ∧ sm_F1 (S 1100009) (g171 1100009) (S 1053 0) ∧ sm_F1 (S 1100027) (g171 1100027) (S 1053 0) ∧ sm_F1 (S 1100028) (g171 1100028) (S 1053 0) ∧ sm_F1 (S 1100026) (g171 1100026) (S 1053 0) ∧ sm_F1 (S 1100030) (g171 1100030) (S 1053 0) ∧ sm_F1 (S 31) (g171 31) (S 1053 0) ∧ (S 1053 0) ≤ (g171 1053 0) ∧ (g171 1066 0) = (S 1066 0) ∧ sm_F1 (S 39) (g171 39) (S 1066 0) ∧ ((g162 1047 0) = 1 → (g171 1053 0) = (S 1053 0)) ∧ ((g162 1047 0) = 0 → (g171 1053 0) ≤ (S 1053 0) + 3 * (600 - (g162 1046 0)) + (S 1100002 ((S 12 (5 * x8 + (1 : Int)))))) ∧ ((g171 1047 0) = 0 → (g162 1047 0) = 0 ∧ sm_KC (g171 26) (g171 27) (g171 28) (g171 29) (g171 1100007) (g171 1100023) (g171 1100024) (g171 1100025) (g171 31) (g171 1100009) (g171 1100027) (g171 1100028) (g171 1100026) (g171 1100030) (S 21) (S 32) (S 33) (g171 1046 0) (g171 1053 0) (S 1056 0) (S 1032 0) (S 1007 0) (g171 1100033 0) ∧ (g171 1100033 0) = (g171 1055 0) ∧ 0 ≤ (g171 1055 0) ∧ (g171 1055 0) ≤ (g171 1046 0) ∧ (g162 1046 0) + 1 ≤ (g171 1046 0) ∧ sm_FC (g171 29) (g162 1046 0) (g171 1046 0) (S 1056 0) ∧ (g171 1100007 (g171 1046 0)) = (g162 1100007 (g162 1046 0)) + 1 ∧ (g171 1100023 (g171 1046 0)) = (g162 1100023 (g162 1046 0)) ∧ (g171 1100024 (g171 1046 0)) = (g162 1100024 (g162 1046 0)) ∧ (g171 1100025 (g171 1046 0)) = (g162 1100025 (g162 1046 0)) ∧ (g171 1100007 (g171 1100023 (g171 1046 0))) = (g162 1100007 (g162 1100023 (g162 1046 0))) ∧ (g171 1100007 (g171 1100025 (g171 1046 0))) = (g162 1100007 (g162 1100025 (g162 1046 0))) ∧ sm_AP (g171 1100030) (S 1053 0) (g171 1053 0) ∧ sm_HB (g171 1100007) (g162 1046 0) (g171 1046 0) (2 * (g162 1100007 (g162 1046 0)) + ((g171 1046 0) - (g162 1046 0)) + 8 * (S 1100005 ((S 12 (5 * x8 + (1 : Int))))) + 10) ∧ (g171 1053 0) ≤ (S 1053 0) + 3 * ((g171 1046 0) - (g162 1046 0)) ∧ True)) → (0 ≤ (g171 1046 0) ∧ (g171 1046 0) ≤ 600 ∧ 0 ≤ (g171 1047 0) ∧ (g171 1047 0) ≤ 1 ∧ ((g171 1047 0) = 0 → sm_KC (g171 26) (g171 27) (g171 28) (g171 29) (g171 1100007) (g171 1100023) (g171 1100024) (g171 1100025) (g171 31) (g171 1100009) (g171 1100027) (g171 1100028) (g171 1100026) (g171 1100030) (S 21) (S 32) (S 33) (g171 1046 0) (g171 1053 0) (S 1056 0) (S 1032 0) (S 1007 0) (g171 1100033 0) ∧ 0 ≤ (10 : Int) ∧ (10 : Int) ≤ 30 ∧ sm_ci (10 : Int) ((0 : Int)) ((0 : Int)) (g171 1100007 (g171 1046 0)) (g171 1100023 (g171 1046 0)) (g171 1100024 (g171 1046 0)) (g171 1100025 (g171 1046 0)) (g171 1100007 (g171 1100023 (g171 1046 0))) (g171 1100007 (g171 1100025 (g171 1046 0))) (g171 1100023 (g171 1100023 (g171 1046 0))) (g171 1100025 (g171 1100025 (g171 1046 0))) (g171 1046 0) (g171 1100033 0) (S 1032 0) (S 1007 0) (S 21 (0 : Int)) (S 1056 0) ((g171 1100007 (g171 1046 0)) + sm_dl (10 : Int) ((0 : Int))) (sm_nt (10 : Int) (g171 1046 0) (g171 1100023 (g171 1046 0)) (g171 1100023 (g171 1100023 (g171 1046 0)))) (sm_nl (10 : Int) (g171 1046 0) (g171 1100007 (g171 1046 0)) (g171 1100025 (g171 1046 0)) (g171 1100007 (g171 1100025 (g171 1046 0))) (g171 1100025 (g171 1100025 (g171 1046 0)))) (g171 1100009 (0 : Int)) (g171 1100027 (0 : Int)) (g171 1100028 (0 : Int)) ∧ ((21 ≤ (10 : Int) ∧ (10 : Int) ≤ 24) ∨ (10 : Int) = 27 ∨ (10 : Int) = 30 → 0 ≤ (0 : Int) ∧ (0 : Int) < (g171 1053 0) ∧ (g171 1100026 (0 : Int)) = (S 1056 0)) ∧ ((10 : Int) = 1 ∨ (10 : Int) = 2 → sm_vv (S 21) (S 32) (S 33) (S 1056 0) (0 : Int) (0 : Int)))) ∧ (∀ g177 : sv_S, (0 ≤ (g177 1047 0) ∧ (g177 1047 0) ≤ 1 ∧ 1 ≤ (g177 1046 0) ∧ (g171 1046 0) ≤ (g177 1046 0) ∧ (g177 1046 0) ≤ (g171 1046 0) + 1 ∧ (g177 1046 0) ≤ 600 ∧ ((g171 1047 0) = 1 → (g177 1047 0) = 1) ∧ ((g177 1047 0) = 1 → (g171 1047 0) = 1 ∨ (g171 1046 0) = 600) ∧ sm_F1 (g171 26) (g177 26) (g171 1046 0) ∧ sm_F1 (g171 27) (g177 27) (g171 1046 0) ∧ sm_F1 (g171 28) (g177 28) (g171 1046 0) ∧ sm_F1 (g171 29) (g177 29) (g171 1046 0) ∧ sm_F1 (g171 1100007) (g177 1100007) ((g171 1046 0) + 1) ∧ sm_F1 (g171 1100023) (g177 1100023) ((g171 1046 0) + 1) ∧ sm_F1 (g171 1100024) (g177 1100024) ((g171 1046 0) + 1) ∧ sm_F1 (g171 1100025) (g177 1100025) ((g171 1046 0) + 1) ∧ ((g177 1047 0) = 0 → (g171 1047 0) = 0 ∧ (g177 1046 0) = (g171 1046 0) + 1 ∧ sm_KC (g177 26) (g177 27) (g177 28) (g177 29) (g177 1100007) (g177 1100023) (g177 1100024) (g177 1100025) (g171 31) (g171 1100009) (g171 1100027) (g171 1100028) (g171 1100026) (g171 1100030) (S 21) (S 32) (S 33) (g177 1046 0) (g171 1053 0) (S 1056 0) (S 1032 0) (S 1007 0) (g171 1100033 0) ∧ sm_MB (g171 31) (g171 1100030) (g171 1053 0) (g177 1046 0) ∧ (g177 26 (g171 1046 0)) = (10 : Int) ∧ (g177 29 (g171 1046 0)) = (S 1056 0) ∧ (g177 1100007 (g177 1046 0)) = ((g171 1100007 (g171 1046 0)) + sm_dl (10 : Int) ((0 : Int))) ∧ (g177 1100023 (g177 1046 0)) = (sm_nt (10 : Int) (g171 1046 0) (g171 1100023 (g171 1046 0)) (g171 1100023 (g171 1100023 (g171 1046 0)))) ∧ (g177 1100024 (g177 1046 0)) = (sm_nd (10 : Int) (g171 1100024 (g171 1046 0))) ∧ (g177 1100025 (g177 1046 0)) = (sm_nl (10 : Int) (g171 1046 0) (g171 1100007 (g171 1046 0)) (g171 1100025 (g171 1046 0)) (g171 1100007 (g171 1100025 (g171 1046 0))) (g171 1100025 (g171 1100025 (g171 1046 0)))) ∧ (g177 1100007 (g177 1100023 (g177 1046 0))) = sm_nt (10 : Int) (g171 1100007 (g171 1046 0)) (g171 1100007 (g171 1100023 (g171 1046 0))) (g171 1100007 (g171 1100023 (g171 1100023 (g171 1046 0)))) ∧ ((10 : Int) = 29 → (g177 1100007 (g177 1100025 (g177 1046 0))) = (g171 1100007 (g171 1046 0))) ∧ ((10 : Int) = 17 → 0 ≤ (g171 1100025 (g171 1046 0)) → (g171 1100007 (g171 1100025 (g171 1046 0))) = (g171 1100007 (g171 1046 0)) → (g177 1100007 (g177 1100025 (g177 1046 0))) = (g171 1100007 (g171 1100025 (g171 1100025 (g171 1046 0))))) ∧ (¬ (10 : Int) = 29 → ((10 : Int) = 17 → 0 ≤ (g171 1100025 (g171 1046 0)) → (g171 1100007 (g171 1100025 (g171 1046 0))) < (g171 1100007 (g171 1046 0))) → (g177 1100007 (g177 1100025 (g177 1046 0))) = (g171 1100007 (g171 1100025 (g171 1046 0)))))) → (sm_WF (S 11) (S 12) (S 13) (S 1100001) (S 1100002) (S 1100005) (S 1100003) (S 1100004) (S 1024 0) (S 1007 0) (S 1009 0) (sm_fn (S 1032 0) (S 21) (S 1056 0)) ∧ (S 1009 0) = 0 ∧ 0 ≤ (S 1007 0) ∧ (S 1007 0) ≤ 90 ∧ 0 ≤ (S 1024 0) ∧ (S 1024 0) ≤ 12000 ∧ 1 ≤ (S 1032 0) ∧ (S 1032 0) ≤ 11 ∧ 0 ≤ (S 1056 0) ∧ (S 1056 0) < (S 1032 0) ∧ sm_VB (S 33) (S 21) (S 1032 0) ∧ 0 ≤ (g177 1046 0) ∧ (g177 1046 0) ≤ 600 ∧ 0 ≤ (g177 1047 0) ∧ (g177 1047 0) ≤ 1 ∧ 0 ≤ (g171 1053 0) ∧ 0 ≤ (g171 1066 0) ∧ -1 ≤ x11 ∧ (¬ x11 = -1 → 0 ≤ x11 ∧ x11 < (S 1024 0) ∧ (S 1100001 x11) = 3 ∧ 0 ≤ (S 1100002 x11) ∧ (S 1100002 x11) ≤ 8 ∧ 0 ≤ (S 1100005 x11) ∧ sm_LF (g171 39) (S 1100002) (g171 1066 0) (S 1024 0) (12001 * (17 * (S 1100005 x11) + 18))) ∧ 0 ≤ (g171 1066 0) ∧ ((g177 1047 0) = 0 → sm_KC (g177 26) (g177 27) (g177 28) (g177 29) (g177 1100007) (g177 1100023) (g177 1100024) (g177 1100025) (g171 31) (g171 1100009) (g171 1100027) (g171 1100028) (g171 1100026) (g171 1100030) (S 21) (S 32) (S 33) (g177 1046 0) (g171 1053 0) (S 1056 0) (S 1032 0) (S 1007 0) (g171 1100033 0) ∧ (g171 1100033 0) = (g171 1055 0) ∧ 0 ≤ (g171 1055 0) ∧ (g171 1055 0) ≤ (g177 1046 0) ∧ (0 ≤ (g177 1100023 (g177 1046 0)) → (g177 1100007 (g177 1100023 (g177 1046 0))) ≤ (g177 1100007 (g177 1046 0))) ∧ (0 ≤ (g177 1100025 (g177 1046 0)) → (g177 1100007 (g177 1100025 (g177 1046 0))) ≤ (g177 1100007 (g177 1046 0))) ∧ (g177 1100007 (g177 1046 0)) ≤ (g177 1046 0) ∧ (g171 1053 0) + 3 * (600 - (g177 1046 0)) + (if x11 = -1 then 0 else 17 * (S 1100005 x11) + 17) ≤ 8000)) ∧ (0 ≤ ((if (g177 1047 0) = 0 then (if x11 = -1 then 0 else 17 * (S 1100005 x11) + 17) + (600 - (g177 1046 0)) + 9 else 5)) ∧ ((if (g177 1047 0) = 0 then (if x11 = -1 then 0 else 17 * (S 1100005 x11) + 17) + (600 - (g177 1046 0)) + 9 else 5)) < d) ∧ (0 ≤ ((if (g177 1047 0) = 0 then (if x11 = -1 then 0 else 17 * (S 1100005 x11) + 17) + (600 - (g177 1046 0)) + 9 else 5)) ∧ ((if (g177 1047 0) = 0 then (if x11 = -1 then 0 else 17 * (S 1100005 x11) + 17) + (600 - (g177 1046 0)) + 9 else 5)) + 1 ≤ ((S 1100002 p1) + (600 - (S 1046 0)) + 8)) ∧ (∀ r189 : Int, sv_R r189 → ∀ g185 : sv_S, (0 ≤ r189 ∧ r189 ≤ 8 ∧ 0 ≤ (g185 1046 0) ∧ (g185 1046 0) ≤ 600 ∧ 0 ≤ (g185 1047 0) ∧ (g185 1047 0) ≤ 1 ∧ 0 ≤ (g185 1053 0) ∧ 0 ≤ (g185 1066 0) ∧ (g177 1046 0) ≤ (g185 1046 0) ∧ ((g177 1047 0) = 1 → (g185 1047 0) = 1) ∧ sm_F1 (g177 26) (g185 26) (g177 1046 0) ∧ sm_F1 (g177 27) (g185 27) (g177 1046 0) ∧ sm_F1 (g177 28) (g185 28) (g177 1046 0) ∧ sm_F1 (g177 29) (g185 29) (g177 1046 0) ∧ sm_F1 (g177 1100007) (g185 1100007) ((g177 1046 0) + 1) ∧ sm_F1 (g177 1100023) (g185 1100023) ((g177 1046 0) + 1) ∧ sm_F1 (g177 1100024) (g185 1100024) ((g177 1046 0) + 1) ∧ sm_F1 (g177 1100025) (g185 1100025) ((g177 1046 0) + 1) ∧ sm_F1 (g171 1100009) (g185 1100009) (g171 1053 0) ∧ sm_F1 (g171 1100027) (g185 1100027) (g171 1053 0) ∧ sm_F1 (g171 1100028) (g185 1100028) (g171 1053 0) ∧ sm_F1 (g171 1100026) (g185 1100026) (g171 1053 0) ∧ sm_F1 (g171 1100030) (g185 1100030) (g171 1053 0) ∧ sm_F1 (g171 31) (g185 31) (g171 1053 0) ∧ (g171 1053 0) ≤ (g185 1053 0) ∧ (g185 1066 0) = (g171 1066 0) ∧ sm_F1 (g171 39) (g185 39) (g171 1066 0) ∧ ((g177 1047 0) = 1 → (g185 1053 0) = (g171 1053 0)) ∧ ((g177 1047 0) = 0 → (g185 1053 0) ≤ (g171 1053 0) + 3 * (600 - (g177 1046 0)) + (if x11 = -1 then 0 else 17 * (S 1100005 x11) + 17)) ∧ ((g185 1047 0) = 0 → (g177 1047 0) = 0 ∧ sm_KC (g185 26) (g185 27) (g185 28) (g185 29) (g185 1100007) (g185 1100023) (g185 1100024) (g185 1100025) (g185 31) (g185 1100009) (g185 1100027) (g185 1100028) (g185 1100026) (g185 1100030) (S 21) (S 32) (S 33) (g185 1046 0) (g185 1053 0) (S 1056 0) (S 1032 0) (S 1007 0) (g185 1100033 0) ∧ (g185 1100033 0) = (g185 1055 0) ∧ 0 ≤ (g185 1055 0) ∧ (g185 1055 0) ≤ (g185 1046 0) ∧ (g177 1046 0) + r189 ≤ (g185 1046 0) ∧ sm_FC (g185 29) (g177 1046 0) (g185 1046 0) (S 1056 0) ∧ (g185 1100007 (g185 1046 0)) = (g177 1100007 (g177 1046 0)) + r189 ∧ (g185 1100023 (g185 1046 0)) = (g177 1100023 (g177 1046 0)) ∧ (g185 1100024 (g185 1046 0)) = (g177 1100024 (g177 1046 0)) ∧ (g185 1100025 (g185 1046 0)) = (g177 1100025 (g177 1046 0)) ∧ (g185 1100007 (g185 1100023 (g185 1046 0))) = (g177 1100007 (g177 1100023 (g177 1046 0))) ∧ (g185 1100007 (g185 1100025 (g185 1046 0))) = (g177 1100007 (g177 1100025 (g177 1046 0))) ∧ sm_AP (g185 1100030) (g171 1053 0) (g185 1053 0) ∧ sm_HB (g185 1100007) (g177 1046 0) (g185 1046 0) (2 * (g177 1100007 (g177 1046 0)) + ((g185 1046 0) - (g177 1046 0)) + (if x11 = -1 then 0 else 8 * (S 1100005 x11) + 17)) ∧ (g185 1053 0) ≤ (g171 1053 0) + 3 * ((g185 1046 0) - (g177 1046 0)) ∧ True)) → (((¬ x11 = -1 → (S 1100005 x11) ≤ (S 1100005 p1) - 1) → 0 ≤ (S 1100005 p1) → (if x11 = -1 then 0 else 8 * (S 1100005 x11) + 17) ≤ 8 * (S 1100005 p1) + 9) → (0 ≤ (g185 1046 0) ∧ (g185 1046 0) ≤ 600 ∧ 0 ≤ (g185 1047 0) ∧ (g185 1047 0) ≤ 1 ∧ ((g185 1047 0) = 0 → sm_KC (g185 26) (g185 27) (g185 28) (g185 29) (g185 1100007) (g185 1100023) (g185 1100024) (g185 1100025) (g185 31) (g185 1100009) (g185 1100027) (g185 1100028) (g185 1100026) (g185 1100030) (S 21) (S 32) (S 33) (g185 1046 0) (g185 1053 0) (S 1056 0) (S 1032 0) (S 1007 0) (g185 1100033 0) ∧ 0 ≤ (15 : Int) ∧ (15 : Int) ≤ 30 ∧ sm_ci (15 : Int) (r189) ((0 : Int)) (g185 1100007 (g185 1046 0)) (g185 1100023 (g185 1046 0)) (g185 1100024 (g185 1046 0)) (g185 1100025 (g185 1046 0)) (g185 1100007 (g185 1100023 (g185 1046 0))) (g185 1100007 (g185 1100025 (g185 1046 0))) (g185 1100023 (g185 1100023 (g185 1046 0))) (g185 1100025 (g185 1100025 (g185 1046 0))) (g185 1046 0) (g185 1100033 0) (S 1032 0) (S 1007 0) (S 21 r189) (S 1056 0) ((g185 1100007 (g185 1046 0)) + sm_dl (15 : Int) (r189)) (sm_nt (15 : Int) (g185 1046 0) (g185 1100023 (g185 1046 0)) (g185 1100023 (g185 1100023 (g185 1046 0)))) (sm_nl (15 : Int) (g185 1046 0) (g185 1100007 (g185 1046 0)) (g185 1100025 (g185 1046 0)) (g185 1100007 (g185 1100025 (g185 1046 0))) (g185 1100025 (g185 1100025 (g185 1046 0)))) (g185 1100009 r189) (g185 1100027 r189) (g185 1100028 r189) ∧ ((21 ≤ (15 : Int) ∧ (15 : Int) ≤ 24) ∨ (15 : Int) = 27 ∨ (15 : Int) = 30 → 0 ≤ r189 ∧ r189 < (g185 1053 0) ∧ (g185 1100026 r189) = (S 1056 0)) ∧ ((15 : Int) = 1 ∨ (15 : Int) = 2 → sm_vv (S 21) (S 32) (S 33) (S 1056 0) r189 (0 : Int)))) ∧ (∀ g193 : sv_S, (0 ≤ (g193 1047 0) ∧ (g193 1047 0) ≤ 1 ∧ 1 ≤ (g193 1046 0) ∧ (g185 1046 0) ≤ (g193 1046 0) ∧ (g193 1046 0) ≤ (g185 1046 0) + 1 ∧ (g193 1046 0) ≤ 600 ∧ ((g185 1047 0) = 1 → (g193 1047 0) = 1) ∧ ((g193 1047 0) = 1 → (g185 1047 0) = 1 ∨ (g185 1046 0) = 600) ∧ sm_F1 (g185 26) (g193 26) (g185 1046 0) ∧ sm_F1 (g185 27) (g193 27) (g185 1046 0) ∧ sm_F1 (g185 28) (g193 28) (g185 1046 0) ∧ sm_F1 (g185 29) (g193 29) (g185 1046 0) ∧ sm_F1 (g185 1100007) (g193 1100007) ((g185 1046 0) + 1) ∧ sm_F1 (g185 1100023) (g193 1100023) ((g185 1046 0) + 1) ∧ sm_F1 (g185 1100024) (g193 1100024) ((g185 1046 0) + 1) ∧ sm_F1 (g185 1100025) (g193 1100025) ((g185 1046 0) + 1) ∧ ((g193 1047 0) = 0 → (g185 1047 0) = 0 ∧ (g193 1046 0) = (g185 1046 0) + 1 ∧ sm_KC (g193 26) (g193 27) (g193 28) (g193 29) (g193 1100007) (g193 1100023) (g193 1100024) (g193 1100025) (g185 31) (g185 1100009) (g185 1100027) (g185 1100028) (g185 1100026) (g185 1100030) (S 21) (S 32) (S 33) (g193 1046 0) (g185 1053 0) (S 1056 0) (S 1032 0) (S 1007 0) (g185 1100033 0) ∧ sm_MB (g185 31) (g185 1100030) (g185 1053 0) (g193 1046 0) ∧ (g193 26 (g185 1046 0)) = (15 : Int) ∧ (g193 29 (g185 1046 0)) = (S 1056 0) ∧ (g193 1100007 (g193 1046 0)) = ((g185 1100007 (g185 1046 0)) + sm_dl (15 : Int) (r189)) ∧ (g193 1100023 (g193 1046 0)) = (sm_nt (15 : Int) (g185 1046 0) (g185 1100023 (g185 1046 0)) (g185 1100023 (g185 1100023 (g185 1046 0)))) ∧ (g193 1100024 (g193 1046 0)) = (sm_nd (15 : Int) (g185 1100024 (g185 1046 0))) ∧ (g193 1100025 (g193 1046 0)) = (sm_nl (15 : Int) (g185 1046 0) (g185 1100007 (g185 1046 0)) (g185 1100025 (g185 1046 0)) (g185 1100007 (g185 1100025 (g185 1046 0))) (g185 1100025 (g185 1100025 (g185 1046 0)))) ∧ (g193 1100007 (g193 1100023 (g193 1046 0))) = sm_nt (15 : Int) (g185 1100007 (g185 1046 0)) (g185 1100007 (g185 1100023 (g185 1046 0))) (g185 1100007 (g185 1100023 (g185 1100023 (g185 1046 0)))) ∧ ((15 : Int) = 29 → (g193 1100007 (g193 1100025 (g193 1046 0))) = (g185 1100007 (g185 1046 0))) ∧ ((15 : Int) = 17 → 0 ≤ (g185 1100025 (g185 1046 0)) → (g185 1100007 (g185 1100025 (g185 1046 0))) = (g185 1100007 (g185 1046 0)) → (g193 1100007 (g193 1100025 (g193 1046 0))) = (g185 1100007 (g185 1100025 (g185 1100025 (g185 1046 0))))) ∧ (¬ (15 : Int) = 29 → ((15 : Int) = 17 → 0 ≤ (g185 1100025 (g185 1046 0)) → (g185 1100007 (g185 1100025 (g185 1046 0))) < (g185 1100007 (g185 1046 0))) → (g193 1100007 (g193 1100025 (g193 1046 0))) = (g185 1100007 (g185 1100025 (g185 1046 0)))))) → (0 ≤ (g193 1046 0) ∧ (g193 1046 0) ≤ 600 ∧ 0 ≤ (g193 1047 0) ∧ (g193 1047 0) ≤ 1 ∧ 0 ≤ (g185 1053 0) ∧ 0 ≤ (g185 1066 0) ∧ (S 1046 0) ≤ (g193 1046 0) ∧ ((S 1047 0) = 1 → (g193 1047 0) = 1) ∧ sm_F1 (S 26) (g193 26) (S 1046 0) ∧ sm_F1 (S 27) (g193 27) (S 1046 0) ∧ sm_F1 (S 28) (g193 28) (S 1046 0) ∧ sm_F1 (S 29) (g193 29) (S 1046 0) ∧ sm_F1 (S 1100007) (g193 1100007) ((S 1046 0) + 1) ∧ sm_F1 (S 1100023) (g193 1100023) ((S 1046 0) + 1) ∧ sm_F1 (S 1100024) (g193 1100024) ((S 1046 0) + 1) ∧ sm_F1 (S 1100025) (g193 1100025) ((S 1046 0) + 1) ∧ sm_F1 (S 1100009) (g185 1100009) (S 1053 0) ∧ sm_F1 (S 1100027) (g185 1100027) (S 1053 0) ∧ sm_F1 (S 1100028) (g185 1100028) (S 1053 0) ∧ sm_F1 (S 1100026) (g185 1100026) (S 1053 0) ∧ sm_F1 (S 1100030) (g185 1100030) (S 1053 0) ∧ sm_F1 (S 31) (g185 31) (S 1053 0) ∧ (S 1053 0) ≤ (g185 1053 0) ∧ (g185 1066 0) = (S 1066 0) ∧ sm_F1 (S 39) (g185 39) (S 1066 0) ∧ ((S 1047 0) = 1 → (g185 1053 0) = (S 1053 0)) ∧ ((S 1047 0) = 0 → (g185 1053 0) ≤ (S 1053 0) + 3 * (600 - (S 1046 0)) + (S 1100002 p1)) ∧ ((g193 1047 0) = 0 → (S 1047 0) = 0 ∧ sm_KC (g193 26) (g193 27) (g193 28) (g193 29) (g193 1100007) (g193 1100023) (g193 1100024) (g193 1100025) (g185 31) (g185 1100009) (g185 1100027) (g185 1100028) (g185 1100026) (g185 1100030) (S 21) (S 32) (S 33) (g193 1046 0) (g185 1053 0) (S 1056 0) (S 1032 0) (S 1007 0) (g185 1100033 0) ∧ (g185 1100033 0) = (g185 1055 0) ∧ 0 ≤ (g185 1055 0) ∧ (g185 1055 0) ≤ (g193 1046 0) ∧ (S 1046 0) + 1 ≤ (g193 1046 0) ∧ sm_FC (g193 29) (S 1046 0) (g193 1046 0) (S 1056 0) ∧ (g193 1100007 (g193 1046 0)) = (S 1100007 (S 1046 0)) + (0 - sm_cd (S 11) (S 12) (S 14) (p1)) ∧ (g193 1100023 (g193 1046 0)) = (S 1100023 (S 1046 0)) ∧ (g193 1100024 (g193 1046 0)) = (S 1100024 (S 1046 0)) ∧ (g193 1100025 (g193 1046 0)) = (S 1100025 (S 1046 0)) ∧ (g193 1100007 (g193 1100023 (g193 1046 0))) = (S 1100007 (S 1100023 (S 1046 0))) ∧ (g193 1100007 (g193 1100025 (g193 1046 0))) = (S 1100007 (S 1100025 (S 1046 0))) ∧ sm_AP (g185 1100030) (S 1053 0) (g185 1053 0) ∧ sm_HB (g193 1100007) (S 1046 0) (g193 1046 0) (2 * ((S 1100007 (S 1046 0)) - (1 + sm_cd (S 11) (S 12) (S 14) (p1))) + (1 + sm_cd (S 11) (S 12) (S 14) (p1)) + ((g193 1046 0) - (S 1046 0)) + 8 * (S 1100005 p1) + 10) ∧ (g185 1053 0) ≤ (S 1053 0) + 3 * ((g193 1046 0) - (S 1046 0)) ∧ True)))))))))))))))))))))))))))) := by
  intro d
  intro p1
  intro S
  intro h1_
  intro h2_
  rintro ⟨h3_, ⟨h4_, ⟨h5_, ⟨h6_, ⟨h7_, ⟨h8_, ⟨h9_, ⟨h10_, ⟨h11_, ⟨h12_, ⟨h13_, ⟨h14_, ⟨h15_, ⟨h16_, ⟨h17_, ⟨h18_, ⟨h19_, ⟨h20_, ⟨h21_, ⟨h22_, ⟨h23_, ⟨h24_, ⟨h25_, ⟨h26_, ⟨h27_, ⟨h28_, ⟨h29_, ⟨h30_, ⟨h31_, ⟨h32_, ⟨h33_, ⟨h34_, h35_⟩⟩⟩⟩⟩⟩⟩⟩⟩⟩⟩⟩⟩⟩⟩⟩⟩⟩⟩⟩⟩⟩⟩⟩⟩⟩⟩⟩⟩⟩⟩⟩
  intro h36_
  intro h37_
  intro h38_
  intro h39_
  rintro ⟨h40_, h41_⟩
  intro h42_
  have h43_ := (h42_ h3_)
  have h44_ := (h43_ h20_)
  obtain ⟨h45_, ⟨h46_, ⟨h47_, h48_⟩⟩⟩ := (h44_ h21_)
  obtain ⟨h49_, ⟨h50_, ⟨h51_, h52_⟩⟩⟩ := (h45_ h22_)
  refine ⟨(la_behind_3 h8_ h20_ h21_), ?_⟩
  refine ⟨(la_behind_4 h15_ h49_), ?_⟩
  intro x8
  intro h53_
  refine ⟨(la_behind_5 h8_ h20_ h21_), ?_⟩
  intro x11
  intro h54_
  refine ⟨(la_behind_6 h8_ h20_ h21_), ?_⟩
  intro h55_
  refine ⟨?_, ?_⟩
  · skip
    intro h56_
    intro h57_
    have h58_ := (h57_ h3_)
    have h59_ := (h58_ h20_)
    have h60_ := (h59_ h21_)
    obtain ⟨h61_, h62_⟩ := (h60_ h22_)
    intro h63_
    have h64_ := (h63_ h23_)
    have h65_ := (h56_.resolve_left (la_behind_7 h64_))
    intro h66_
    have h67_ := (h66_ h23_)
    have h68_ := (h67_ h65_)
    intro h69_
    have h70_ := (h69_ (la_behind_8 h54_))
    have h71_ := (h70_ h3_)
    have h72_ := (h71_ h20_)
    have h73_ := (h72_ h21_)
    have h74_ := (h73_ h22_)
    obtain ⟨h75_, ⟨h76_, h77_⟩⟩ := (h74_ h68_)
    intro h78_
    have h79_ := (h78_ h3_)
    have h80_ := (h79_ (sm_ex_e h77_).1)
    obtain ⟨h81_, ⟨h82_, ⟨h83_, h84_⟩⟩⟩ := (h80_ (sm_ex_e h77_).2.1)
    obtain ⟨h85_, ⟨h86_, ⟨h87_, h88_⟩⟩⟩ := (h81_ (sm_ex_e h77_).2.2.1)
    refine ⟨(la_behind_9 h15_ h18_ h35_ h49_), ?_⟩
    intro r25
    intro h89_
    intro g21
    rintro ⟨h90_, h91_⟩
    refine ⟨(la_behind_10 h15_ (sm_KC_n h28_).2.1.1 h34_), ?_⟩
    refine ⟨(la_behind_11 h15_ (sm_KC_n h28_).2.1.2.2.1 (sm_KC_n h28_).2.1.2.2.2.1), ?_⟩
    refine ⟨(la_behind_11 h15_ (sm_KC_n h28_).2.1.2.2.2.2.2.2.1 (sm_KC_n h28_).2.1.2.2.2.2.2.2.2), ?_⟩
    refine ⟨(la_behind_12 h10_ h11_ h12_), ?_⟩
    intro h92_
    have h93_ := (h92_ h25_)
    have h94_ := (h93_ (sm_KC_e h28_ rfl h90_ rfl rfl rfl (Int.le_refl _)))
    have h95_ := (h94_ h91_)
    refine ⟨?_, ?_⟩
    · skip
      intro h96_
      have h97_ := (h68_.resolve_left h96_)
      have h98_ := (h23_.resolve_left (la_behind_15 h97_))
      have h99_ := (h38_ (la_behind_16 h97_))
      have h100_ := (h65_.resolve_right (la_behind_18 h97_))
      have h101_ := (h98_.resolve_left (la_behind_19 h97_))
      have h102_ := (h101_.resolve_left (la_behind_16 h97_))
      have h103_ := (h102_.resolve_left (la_behind_20 h97_))
      refine ⟨?_, ?_⟩
      · skip
        refine ⟨h14_, ?_⟩
        refine ⟨h15_, ?_⟩
        refine ⟨h16_, ?_⟩
        refine ⟨h17_, ?_⟩
        intro h104_
        refine ⟨h95_, ?_⟩
        refine ⟨la_behind_21, ?_⟩
        refine ⟨la_behind_22, ?_⟩
        refine ⟨?_, ?_⟩
        · skip
          have e105_ : (if r25 = r25 then S 1100007 (S 1046 0) else S 1100009 r25 : Int) = S 1100007 (S 1046 0) := if_pos la_behind_25
          have e106_ : (if r25 = r25 then S 1100023 (S 1046 0) else S 1100027 r25 : Int) = S 1100023 (S 1046 0) := if_pos la_behind_25
          have e107_ : (if r25 = r25 then S 1100025 (S 1046 0) else S 1100028 r25 : Int) = S 1100025 (S 1046 0) := if_pos la_behind_25
          have e108_ : S 12 (5 * p1 + 0) = S 12 (5 * p1) := congrArg ((S 12)) la_behind_26
          exact (sm_ci_24 (la_behind_27 h26_ h32_ h33_ h40_ (sm_dl_24 : sm_dl 24 r25 = (-1)) (sm_nt_24 : sm_nt 24 (S 1046 0) (S 1100023 (S 1046 0)) (S 1100023 (S 1100023 (S 1046 0))) = S 1100023 (S 1046 0)) (sm_nl_24 : sm_nl 24 (S 1046 0) (S 1100007 (S 1046 0)) (S 1100025 (S 1046 0)) (S 1100007 (S 1100025 (S 1046 0))) (S 1100025 (S 1100025 (S 1046 0))) = S 1100025 (S 1046 0)) e105_ e106_ e107_))
        refine ⟨?_, ?_⟩
        · skip
          intro h109_
          obtain ⟨h110_, h111_⟩ := (h109_.resolve_right la_behind_28)
          refine ⟨(la_behind_29 h18_ h90_), ?_⟩
          refine ⟨(la_behind_30 h91_), ?_⟩
          have e112_ : (if r25 = r25 then S 1056 0 else S 1100026 r25 : Int) = S 1056 0 := if_pos la_behind_25
          have e113_ : S 12 (5 * p1 + 0) = S 12 (5 * p1) := congrArg ((S 12)) la_behind_26
          exact e112_
        intro h114_
        have h115_ := (h114_.resolve_left la_behind_31)
        have e116_ : S 11 p1 = S 11 (S 12 (5 * p1)) := congrArg ((S 11)) (la_behind_32 h115_)
        have e117_ : S 11 x11 = S 11 (S 12 (5 * p1)) := congrArg ((S 11)) (la_behind_32 h115_)
        have e118_ : S 11 x11 = S 11 p1 := congrArg ((S 11)) (la_behind_32 h115_)
        have e119_ : S 1100001 p1 = S 1100001 (S 12 (5 * p1)) := congrArg ((S 1100001)) (la_behind_32 h115_)
        have e120_ : S 1100001 x11 = S 1100001 (S 12 (5 * p1)) := congrArg ((S 1100001)) (la_behind_32 h115_)
        have e121_ : S 1100001 x11 = S 1100001 p1 := congrArg ((S 1100001)) (la_behind_32 h115_)
        have e122_ : S 1100002 p1 = S 1100002 (S 12 (5 * p1)) := congrArg ((S 1100002)) (la_behind_32 h115_)
        have e123_ : S 1100002 x11 = S 1100002 (S 12 (5 * p1)) := congrArg ((S 1100002)) (la_behind_32 h115_)
        have e124_ : S 1100002 x11 = S 1100002 p1 := congrArg ((S 1100002)) (la_behind_32 h115_)
        have e125_ : S 1100005 p1 = S 1100005 (S 12 (5 * p1)) := congrArg ((S 1100005)) (la_behind_32 h115_)
        have e126_ : S 1100005 x11 = S 1100005 (S 12 (5 * p1)) := congrArg ((S 1100005)) (la_behind_32 h115_)
        have e127_ : S 1100005 x11 = S 1100005 p1 := congrArg ((S 1100005)) (la_behind_32 h115_)
        have e128_ : S 1100007 (S 1100023 (S 1046 0)) = S 1100007 (S 1046 0) := congrArg ((S 1100007)) (la_behind_32 h115_)
        have e129_ : S 1100007 (S 1100025 (S 1046 0)) = S 1100007 (S 1046 0) := congrArg ((S 1100007)) (la_behind_32 h115_)
        have e130_ : S 1100007 (S 1100025 (S 1046 0)) = S 1100007 (S 1100023 (S 1046 0)) := congrArg ((S 1100007)) (la_behind_32 h115_)
        have e131_ : S 1100023 (S 1100023 (S 1046 0)) = S 1100023 (S 1046 0) := congrArg ((S 1100023)) (la_behind_32 h115_)
        have e132_ : S 1100025 (S 1100025 (S 1046 0)) = S 1100025 (S 1046 0) := congrArg ((S 1100025)) (la_behind_32 h115_)
        have e133_ : S 12 (5 * p1 + 0) = S 12 (5 * p1) := congrArg ((S 12)) la_behind_26
        have e134_ : S 12 (5 * p1 + 1) = S 12 (5 * p1) := congrArg ((S 12)) (la_behind_33 h115_)
        have e135_ : S 12 (5 * p1 + 1) = S 12 (5 * p1 + 0) := congrArg ((S 12)) (la_behind_34 h115_)
        have e136_ : S 12 (5 * x11 + 1) = S 12 (5 * p1) := congrArg ((S 12)) (la_behind_35 h115_)
        have e137_ : S 12 (5 * x11 + 1) = S 12 (5 * p1 + 0) := congrArg ((S 12)) (la_behind_36 h115_)
        have e138_ : S 12 (5 * x11 + 1) = S 12 (5 * p1 + 1) := congrArg ((S 12)) (la_behind_37 h115_)
        have h139_ := (h32_ (la_behind_38 h115_))
        have h140_ := (h33_ (la_behind_38 h115_))
        have h141_ := (h39_ (la_behind_39 h115_))
        have h142_ := (h86_ (la_behind_40 h115_))
        have h143_ := (h87_ (la_behind_41 h115_))
        exact ((la_behind_42 h115_)).elim
      intro g43
      rintro ⟨h144_, ⟨h145_, ⟨h146_, ⟨h147_, ⟨h148_, ⟨h149_, ⟨h150_, ⟨h151_, ⟨h152_, ⟨h153_, ⟨h154_, ⟨h155_, ⟨h156_, ⟨h157_, ⟨h158_, ⟨h159_, h160_⟩⟩⟩⟩⟩⟩⟩⟩⟩⟩⟩⟩⟩⟩⟩⟩
      refine ⟨?_, ?_⟩
      · skip
        refine ⟨h3_, ?_⟩
        refine ⟨h4_, ?_⟩
        refine ⟨h5_, ?_⟩
        refine ⟨h6_, ?_⟩
        refine ⟨h7_, ?_⟩
        refine ⟨h8_, ?_⟩
        refine ⟨h9_, ?_⟩
        refine ⟨h10_, ?_⟩
        refine ⟨h11_, ?_⟩
        refine ⟨h12_, ?_⟩
        refine ⟨h13_, ?_⟩
        refine ⟨(la_behind_44 h146_), ?_⟩
        refine ⟨h149_, ?_⟩
        refine ⟨h144_, ?_⟩
        refine ⟨h145_, ?_⟩
        refine ⟨(sm_KC_n h95_).1.2.2.2.2, ?_⟩
        refine ⟨h19_, ?_⟩
        refine ⟨(sm_ex_e h77_).1, ?_⟩
        refine ⟨(sm_ex_e h77_).2.1, ?_⟩
        refine ⟨(sm_ex_e h77_).2.2.1, ?_⟩
        refine ⟨(sm_LF_w h24_ sm_F1_rf (Int.le_refl _) (Int.le_refl _) h19_ (la_behind_45 h8_ (sm_ex_e h75_).1 h76_ (sm_ex_e h77_).2.1 (sm_ex_e h77_).2.2.2.1)), ?_⟩
        intro h161_
        obtain ⟨h162_, ⟨h163_, ⟨h164_, ⟨h165_, ⟨h166_, ⟨h167_, ⟨h168_, ⟨h169_, ⟨h170_, ⟨h171_, ⟨h172_, ⟨h173_, ⟨h174_, h175_⟩⟩⟩⟩⟩⟩⟩⟩⟩⟩⟩⟩⟩ := (h160_ h161_)
        have h176_ := (h175_ la_behind_46)
        have h177_ := (h176_ la_behind_48)
        refine ⟨h164_, ?_⟩
        refine ⟨h29_, ?_⟩
        refine ⟨h30_, ?_⟩
        refine ⟨(la_behind_49 h31_ h163_), ?_⟩
        refine ⟨(la_behind_50 h32_ h40_ h168_ (sm_dl_24 : sm_dl 24 r25 = (-1)) h169_ (sm_nt_24 : sm_nt 24 (S 1046 0) (S 1100023 (S 1046 0)) (S 1100023 (S 1100023 (S 1046 0))) = S 1100023 (S 1046 0)) h172_ (sm_nt_24 : sm_nt 24 (S 1100007 (S 1046 0)) (S 1100007 (S 1100023 (S 1046 0))) (S 1100007 (S 1100023 (S 1100023 (S 1046 0)))) = S 1100007 (S 1100023 (S 1046 0)))), ?_⟩
        refine ⟨(la_behind_51 h33_ h40_ h168_ (sm_dl_24 : sm_dl 24 r25 = (-1)) h171_ (sm_nl_24 : sm_nl 24 (S 1046 0) (S 1100007 (S 1046 0)) (S 1100025 (S 1046 0)) (S 1100007 (S 1100025 (S 1046 0))) (S 1100025 (S 1100025 (S 1046 0))) = S 1100025 (S 1046 0)) h177_), ?_⟩
        refine ⟨(la_behind_52 h34_ h163_ h168_ (sm_dl_24 : sm_dl 24 r25 = (-1))), ?_⟩
        exact (la_behind_53 h35_ (sm_ex_e h77_).2.2.2.1 h90_ h91_ h163_)
      refine ⟨?_, ?_⟩
      · skip
        refine ⟨?_, ?_⟩
        · skip
          have e178_ : S 12 (5 * p1 + 0) = S 12 (5 * p1) := congrArg ((S 12)) la_behind_26
          by_cases c179_ : g43 1047 0 = 0
          · skip
            have e180_ : (if g43 1047 0 = 0 then S 1100002 x11 + (600 - g43 1046 0) + 8 else 4 : Int) = S 1100002 x11 + (600 - g43 1046 0) + 8 := if_pos c179_
            obtain ⟨h181_, ⟨h182_, ⟨h183_, ⟨h184_, ⟨h185_, ⟨h186_, ⟨h187_, ⟨h188_, ⟨h189_, ⟨h190_, ⟨h191_, ⟨h192_, ⟨h193_, h194_⟩⟩⟩⟩⟩⟩⟩⟩⟩⟩⟩⟩⟩ := (h160_ c179_)
            have h195_ := (h194_ la_behind_46)
            have h196_ := (h195_ la_behind_48)
            exact (la_behind_54 h85_ h149_ e180_)
          · skip
            have e197_ : (if g43 1047 0 = 0 then S 1100002 x11 + (600 - g43 1046 0) + 8 else 4 : Int) = 4 := if_neg c179_
            have h198_ := (h151_ (la_behind_56 h145_ (la_behind_55 h144_ c179_)))
            have h199_ := (h198_.resolve_left (la_behind_43 h25_))
            exact (la_behind_57 e197_)
        have e200_ : S 12 (5 * p1 + 0) = S 12 (5 * p1) := congrArg ((S 12)) la_behind_26
        by_cases c201_ : g43 1047 0 = 1
        · skip
          have e202_ : (if g43 1047 0 = 0 then S 1100002 x11 + (600 - g43 1046 0) + 8 else 4 : Int) = 4 := if_neg (la_behind_58 c201_)
          have h203_ := (h151_ c201_)
          have h204_ := (h203_.resolve_left (la_behind_43 h25_))
          exact (la_behind_59 h36_ (sm_ex_e h77_).2.2.2.1 h85_ e202_ h204_)
        · skip
          obtain ⟨h205_, ⟨h206_, ⟨h207_, ⟨h208_, ⟨h209_, ⟨h210_, ⟨h211_, ⟨h212_, ⟨h213_, ⟨h214_, ⟨h215_, ⟨h216_, ⟨h217_, h218_⟩⟩⟩⟩⟩⟩⟩⟩⟩⟩⟩⟩⟩ := (h160_ (la_behind_61 h144_ (la_behind_60 h145_ c201_)))
          have e219_ : (if g43 1047 0 = 0 then S 1100002 x11 + (600 - g43 1046 0) + 8 else 4 : Int) = S 1100002 x11 + (600 - g43 1046 0) + 8 := if_pos (la_behind_61 h144_ (la_behind_60 h145_ c201_))
          have h220_ := (h218_ la_behind_46)
          have h221_ := (h220_ la_behind_48)
          exact (la_behind_62 h36_ (sm_ex_e h77_).2.2.2.1 h206_ e219_)
      refine ⟨?_, ?_⟩
      · skip
        refine ⟨?_, ?_⟩
        · skip
          have e222_ : S 12 (5 * p1 + 0) = S 12 (5 * p1) := congrArg ((S 12)) la_behind_26
          by_cases c223_ : g43 1047 0 = 0
          · skip
            have e224_ : (if g43 1047 0 = 0 then S 1100002 x11 + (600 - g43 1046 0) + 8 else 4 : Int) = S 1100002 x11 + (600 - g43 1046 0) + 8 := if_pos c223_
            obtain ⟨h225_, ⟨h226_, ⟨h227_, ⟨h228_, ⟨h229_, ⟨h230_, ⟨h231_, ⟨h232_, ⟨h233_, ⟨h234_, ⟨h235_, ⟨h236_, ⟨h237_, h238_⟩⟩⟩⟩⟩⟩⟩⟩⟩⟩⟩⟩⟩ := (h160_ c223_)
            have h239_ := (h238_ la_behind_46)
            have h240_ := (h239_ la_behind_48)
            exact (la_behind_54 h85_ h149_ e224_)
          · skip
            have e241_ : (if g43 1047 0 = 0 then S 1100002 x11 + (600 - g43 1046 0) + 8 else 4 : Int) = 4 := if_neg c223_
            have h242_ := (h151_ (la_behind_56 h145_ (la_behind_55 h144_ c223_)))
            have h243_ := (h242_.resolve_left (la_behind_43 h25_))
            exact (la_behind_57 e241_)
        have e244_ : S 12 (5 * p1 + 0) = S 12 (5 * p1) := congrArg ((S 12)) la_behind_26
        by_cases c245_ : g43 1047 0 = 1
        · skip
          have e246_ : (if g43 1047 0 = 0 then S 1100002 x11 + (600 - g43 1046 0) + 8 else 4 : Int) = 4 := if_neg (la_behind_58 c245_)
          have h247_ := (h151_ c245_)
          have h248_ := (h247_.resolve_left (la_behind_43 h25_))
          exact (la_behind_63 h49_ e246_ h248_)
        · skip
          obtain ⟨h249_, ⟨h250_, ⟨h251_, ⟨h252_, ⟨h253_, ⟨h254_, ⟨h255_, ⟨h256_, ⟨h257_, ⟨h258_, ⟨h259_, ⟨h260_, ⟨h261_, h262_⟩⟩⟩⟩⟩⟩⟩⟩⟩⟩⟩⟩⟩ := (h160_ (la_behind_61 h144_ (la_behind_60 h145_ c245_)))
          have e263_ : (if g43 1047 0 = 0 then S 1100002 x11 + (600 - g43 1046 0) + 8 else 4 : Int) = S 1100002 x11 + (600 - g43 1046 0) + 8 := if_pos (la_behind_61 h144_ (la_behind_60 h145_ c245_))
          have h264_ := (h262_ la_behind_46)
          have h265_ := (h264_ la_behind_48)
          exact (la_behind_64 (sm_ex_e h77_).2.2.2.1 h250_ e263_)
      intro g51
      rintro ⟨h266_, ⟨h267_, ⟨h268_, ⟨h269_, ⟨h270_, ⟨h271_, ⟨h272_, ⟨h273_, ⟨h274_, ⟨h275_, ⟨h276_, ⟨h277_, ⟨h278_, ⟨h279_, ⟨h280_, ⟨h281_, ⟨h282_, ⟨h283_, ⟨h284_, ⟨h285_, ⟨h286_, ⟨h287_, ⟨h288_, ⟨h289_, ⟨h290_, ⟨h291_, ⟨h292_, h293_⟩⟩⟩⟩⟩⟩⟩⟩⟩⟩⟩⟩⟩⟩⟩⟩⟩⟩⟩⟩⟩⟩⟩⟩⟩⟩⟩
      refine ⟨?_, ?_⟩
      · skip
        refine ⟨(la_behind_29 h18_ h90_), ?_⟩
        refine ⟨(la_behind_65 h15_ h35_ (sm_ex_e h77_).2.2.2.1 h85_ h90_), ?_⟩
        intro h294_
        have h295_ : ¬ (g43 1047 0 = 1) := fun q_ => (la_behind_43 h294_) (h273_ q_)
        obtain ⟨h296_, ⟨h297_, ⟨h298_, ⟨h299_, ⟨h300_, ⟨h301_, ⟨h302_, ⟨h303_, ⟨h304_, ⟨h305_, ⟨h306_, ⟨h307_, ⟨h308_, ⟨h309_, ⟨h310_, ⟨h311_, -⟩⟩⟩⟩⟩⟩⟩⟩⟩⟩⟩⟩⟩⟩⟩⟩ := (h293_ h294_)
        have h312_ := (h292_ h296_)
        obtain ⟨h313_, ⟨h314_, ⟨h315_, ⟨h316_, ⟨h317_, ⟨h318_, ⟨h319_, ⟨h320_, ⟨h321_, ⟨h322_, ⟨h323_, ⟨h324_, ⟨h325_, h326_⟩⟩⟩⟩⟩⟩⟩⟩⟩⟩⟩⟩⟩ := (h160_ h296_)
        have h327_ := (h326_ la_behind_46)
        have h328_ := (h327_ la_behind_48)
        refine ⟨h297_, ?_⟩
        refine ⟨(la_behind_66 h91_ h288_), ?_⟩
        refine ⟨?_, ?_⟩
        · skip
          have e329_ : g51 1100009 r25 = (if r25 = r25 then S 1100007 (S 1046 0) else S 1100009 r25) := (sm_F1_at h282_ r25 (la_behind_30 h91_))
          have e330_ : (if r25 = r25 then S 1100007 (S 1046 0) else S 1100009 r25 : Int) = S 1100007 (S 1046 0) := if_pos la_behind_25
          have e331_ : S 1100007 (g43 1100023 (g43 1046 0)) = S 1100007 (S 1100023 (S 1046 0)) := congrArg ((S 1100007)) (la_behind_70 h320_ (sm_nt_24 : sm_nt 24 (S 1046 0) (S 1100023 (S 1046 0)) (S 1100023 (S 1100023 (S 1046 0))) = S 1100023 (S 1046 0)))
          have e332_ : S 1100007 (g43 1100025 (g43 1046 0)) = S 1100007 (S 1100025 (S 1046 0)) := congrArg ((S 1100007)) (la_behind_70 h322_ (sm_nl_24 : sm_nl 24 (S 1046 0) (S 1100007 (S 1046 0)) (S 1100025 (S 1046 0)) (S 1100007 (S 1100025 (S 1046 0))) (S 1100025 (S 1100025 (S 1046 0))) = S 1100025 (S 1046 0)))
          have e333_ : S 1100007 (g51 1100023 (g51 1046 0)) = S 1100007 (S 1100023 (S 1046 0)) := congrArg ((S 1100007)) (la_behind_71 h304_ h320_ (sm_nt_24 : sm_nt 24 (S 1046 0) (S 1100023 (S 1046 0)) (S 1100023 (S 1100023 (S 1046 0))) = S 1100023 (S 1046 0)))
          have e334_ : S 1100007 (g51 1100023 (g51 1046 0)) = S 1100007 (g43 1100023 (g43 1046 0)) := congrArg ((S 1100007)) h304_
          have e335_ : S 1100007 (g51 1100025 (g51 1046 0)) = S 1100007 (S 1100025 (S 1046 0)) := congrArg ((S 1100007)) (la_behind_71 h306_ h322_ (sm_nl_24 : sm_nl 24 (S 1046 0) (S 1100007 (S 1046 0)) (S 1100025 (S 1046 0)) (S 1100007 (S 1100025 (S 1046 0))) (S 1100025 (S 1100025 (S 1046 0))) = S 1100025 (S 1046 0)))
          have e336_ : S 1100007 (g51 1100025 (g51 1046 0)) = S 1100007 (g43 1100025 (g43 1046 0)) := congrArg ((S 1100007)) h306_
          have e337_ : S 12 (5 * p1 + 0) = S 12 (5 * p1) := congrArg ((S 12)) la_behind_26
          have e338_ : g43 1100007 (g51 1100023 (g51 1046 0)) = g43 1100007 (g43 1100023 (g43 1046 0)) := congrArg ((g43 1100007)) h304_
          have e339_ : g43 1100007 (g51 1100025 (g51 1046 0)) = g43 1100007 (g43 1100025 (g43 1046 0)) := congrArg ((g43 1100007)) h306_
          exact (la_behind_72 h303_ h319_ (sm_dl_24 : sm_dl 24 r25 = (-1)) e329_ e330_)
        refine ⟨?_, ?_⟩
        · skip
          have e340_ : g51 1100027 r25 = (if r25 = r25 then S 1100023 (S 1046 0) else S 1100027 r25) := (sm_F1_at h283_ r25 (la_behind_30 h91_))
          have e341_ : (if r25 = r25 then S 1100023 (S 1046 0) else S 1100027 r25 : Int) = S 1100023 (S 1046 0) := if_pos la_behind_25
          have e342_ : S 1100007 (g43 1100023 (g43 1046 0)) = S 1100007 (S 1100023 (S 1046 0)) := congrArg ((S 1100007)) (la_behind_70 h320_ (sm_nt_24 : sm_nt 24 (S 1046 0) (S 1100023 (S 1046 0)) (S 1100023 (S 1100023 (S 1046 0))) = S 1100023 (S 1046 0)))
          have e343_ : S 1100007 (g43 1100025 (g43 1046 0)) = S 1100007 (S 1100025 (S 1046 0)) := congrArg ((S 1100007)) (la_behind_70 h322_ (sm_nl_24 : sm_nl 24 (S 1046 0) (S 1100007 (S 1046 0)) (S 1100025 (S 1046 0)) (S 1100007 (S 1100025 (S 1046 0))) (S 1100025 (S 1100025 (S 1046 0))) = S 1100025 (S 1046 0)))
          have e344_ : S 1100007 (g51 1100023 (g51 1046 0)) = S 1100007 (S 1100023 (S 1046 0)) := congrArg ((S 1100007)) (la_behind_71 h304_ h320_ (sm_nt_24 : sm_nt 24 (S 1046 0) (S 1100023 (S 1046 0)) (S 1100023 (S 1100023 (S 1046 0))) = S 1100023 (S 1046 0)))
          have e345_ : S 1100007 (g51 1100023 (g51 1046 0)) = S 1100007 (g43 1100023 (g43 1046 0)) := congrArg ((S 1100007)) h304_
          have e346_ : S 1100007 (g51 1100025 (g51 1046 0)) = S 1100007 (S 1100025 (S 1046 0)) := congrArg ((S 1100007)) (la_behind_71 h306_ h322_ (sm_nl_24 : sm_nl 24 (S 1046 0) (S 1100007 (S 1046 0)) (S 1100025 (S 1046 0)) (S 1100007 (S 1100025 (S 1046 0))) (S 1100025 (S 1100025 (S 1046 0))) = S 1100025 (S 1046 0)))
          have e347_ : S 1100007 (g51 1100025 (g51 1046 0)) = S 1100007 (g43 1100025 (g43 1046 0)) := congrArg ((S 1100007)) h306_
          have e348_ : S 12 (5 * p1 + 0) = S 12 (5 * p1) := congrArg ((S 12)) la_behind_26
          have e349_ : g43 1100007 (g51 1100023 (g51 1046 0)) = g43 1100007 (g43 1100023 (g43 1046 0)) := congrArg ((g43 1100007)) h304_
          have e350_ : g43 1100007 (g51 1100025 (g51 1046 0)) = g43 1100007 (g43 1100025 (g43 1046 0)) := congrArg ((g43 1100007)) h306_
          exact (la_behind_73 h304_ h320_ (sm_nt_24 : sm_nt 24 (S 1046 0) (S 1100023 (S 1046 0)) (S 1100023 (S 1100023 (S 1046 0))) = S 1100023 (S 1046 0)) e340_ e341_)
        refine ⟨?_, ?_⟩
        · skip
          have e351_ : g51 1100028 r25 = (if r25 = r25 then S 1100025 (S 1046 0) else S 1100028 r25) := (sm_F1_at h284_ r25 (la_behind_30 h91_))
          have e352_ : (if r25 = r25 then S 1100025 (S 1046 0) else S 1100028 r25 : Int) = S 1100025 (S 1046 0) := if_pos la_behind_25
          have e353_ : S 1100007 (g43 1100023 (g43 1046 0)) = S 1100007 (S 1100023 (S 1046 0)) := congrArg ((S 1100007)) (la_behind_70 h320_ (sm_nt_24 : sm_nt 24 (S 1046 0) (S 1100023 (S 1046 0)) (S 1100023 (S 1100023 (S 1046 0))) = S 1100023 (S 1046 0)))
          have e354_ : S 1100007 (g43 1100025 (g43 1046 0)) = S 1100007 (S 1100025 (S 1046 0)) := congrArg ((S 1100007)) (la_behind_70 h322_ (sm_nl_24 : sm_nl 24 (S 1046 0) (S 1100007 (S 1046 0)) (S 1100025 (S 1046 0)) (S 1100007 (S 1100025 (S 1046 0))) (S 1100025 (S 1100025 (S 1046 0))) = S 1100025 (S 1046 0)))
          have e355_ : S 1100007 (g51 1100023 (g51 1046 0)) = S 1100007 (S 1100023 (S 1046 0)) := congrArg ((S 1100007)) (la_behind_71 h304_ h320_ (sm_nt_24 : sm_nt 24 (S 1046 0) (S 1100023 (S 1046 0)) (S 1100023 (S 1100023 (S 1046 0))) = S 1100023 (S 1046 0)))
          have e356_ : S 1100007 (g51 1100023 (g51 1046 0)) = S 1100007 (g43 1100023 (g43 1046 0)) := congrArg ((S 1100007)) h304_
          have e357_ : S 1100007 (g51 1100025 (g51 1046 0)) = S 1100007 (S 1100025 (S 1046 0)) := congrArg ((S 1100007)) (la_behind_71 h306_ h322_ (sm_nl_24 : sm_nl 24 (S 1046 0) (S 1100007 (S 1046 0)) (S 1100025 (S 1046 0)) (S 1100007 (S 1100025 (S 1046 0))) (S 1100025 (S 1100025 (S 1046 0))) = S 1100025 (S 1046 0)))
          have e358_ : S 1100007 (g51 1100025 (g51 1046 0)) = S 1100007 (g43 1100025 (g43 1046 0)) := congrArg ((S 1100007)) h306_
          have e359_ : S 12 (5 * p1 + 0) = S 12 (5 * p1) := congrArg ((S 12)) la_behind_26
          have e360_ : g43 1100007 (g51 1100023 (g51 1046 0)) = g43 1100007 (g43 1100023 (g43 1046 0)) := congrArg ((g43 1100007)) h304_
          have e361_ : g43 1100007 (g51 1100025 (g51 1046 0)) = g43 1100007 (g43 1100025 (g43 1046 0)) := congrArg ((g43 1100007)) h306_
          exact (la_behind_73 h306_ h322_ (sm_nl_24 : sm_nl 24 (S 1046 0) (S 1100007 (S 1046 0)) (S 1100025 (S 1046 0)) (S 1100007 (S 1100025 (S 1046 0))) (S 1100025 (S 1100025 (S 1046 0))) = S 1100025 (S 1046 0)) e351_ e352_)
        have e362_ : g51 1100026 r25 = (if r25 = r25 then S 1056 0 else S 1100026 r25) := (sm_F1_at h285_ r25 (la_behind_30 h91_))
        have e363_ : (if r25 = r25 then S 1056 0 else S 1100026 r25 : Int) = S 1056 0 := if_pos la_behind_25
        have e364_ : S 1100007 (g43 1100023 (g43 1046 0)) = S 1100007 (S 1100023 (S 1046 0)) := congrArg ((S 1100007)) (la_behind_70 h320_ (sm_nt_24 : sm_nt 24 (S 1046 0) (S 1100023 (S 1046 0)) (S 1100023 (S 1100023 (S 1046 0))) = S 1100023 (S 1046 0)))
        have e365_ : S 1100007 (g43 1100025 (g43 1046 0)) = S 1100007 (S 1100025 (S 1046 0)) := congrArg ((S 1100007)) (la_behind_70 h322_ (sm_nl_24 : sm_nl 24 (S 1046 0) (S 1100007 (S 1046 0)) (S 1100025 (S 1046 0)) (S 1100007 (S 1100025 (S 1046 0))) (S 1100025 (S 1100025 (S 1046 0))) = S 1100025 (S 1046 0)))
        have e366_ : S 1100007 (g51 1100023 (g51 1046 0)) = S 1100007 (S 1100023 (S 1046 0)) := congrArg ((S 1100007)) (la_behind_71 h304_ h320_ (sm_nt_24 : sm_nt 24 (S 1046 0) (S 1100023 (S 1046 0)) (S 1100023 (S 1100023 (S 1046 0))) = S 1100023 (S 1046 0)))
        have e367_ : S 1100007 (g51 1100023 (g51 1046 0)) = S 1100007 (g43 1100023 (g43 1046 0)) := congrArg ((S 1100007)) h304_
        have e368_ : S 1100007 (g51 1100025 (g51 1046 0)) = S 1100007 (S 1100025 (S 1046 0)) := congrArg ((S 1100007)) (la_behind_71 h306_ h322_ (sm_nl_24 : sm_nl 24 (S 1046 0) (S 1100007 (S 1046 0)) (S 1100025 (S 1046 0)) (S 1100007 (S 1100025 (S 1046 0))) (S 1100025 (S 1100025 (S 1046 0))) = S 1100025 (S 1046 0)))
        have e369_ : S 1100007 (g51 1100025 (g51 1046 0)) = S 1100007 (g43 1100025 (g43 1046 0)) := congrArg ((S 1100007)) h306_
        have e370_ : S 12 (5 * p1 + 0) = S 12 (5 * p1) := congrArg ((S 12)) la_behind_26
        have e371_ : g43 1100007 (g51 1100023 (g51 1046 0)) = g43 1100007 (g43 1100023 (g43 1046 0)) := congrArg ((g43 1100007)) h304_
        have e372_ : g43 1100007 (g51 1100025 (g51 1046 0)) = g43 1100007 (g43 1100025 (g43 1046 0)) := congrArg ((g43 1100007)) h306_
        exact (la_behind_74 e362_ e363_)
      intro g57
      rintro ⟨h373_, ⟨h374_, ⟨h375_, h376_⟩⟩⟩
      refine ⟨h266_, ?_⟩
      refine ⟨h267_, ?_⟩
      refine ⟨h268_, ?_⟩
      refine ⟨h269_, ?_⟩
      refine ⟨h270_, ?_⟩
      refine ⟨h271_, ?_⟩
      refine ⟨(la_behind_75 h147_ h272_), ?_⟩
      refine ⟨(la_behind_76 h25_), ?_⟩
      refine ⟨(sm_F1_tr (sm_F1_le h152_ (Int.le_refl _)) h274_ h147_), ?_⟩
      refine ⟨(sm_F1_tr (sm_F1_le h153_ (Int.le_refl _)) h275_ h147_), ?_⟩
      refine ⟨(sm_F1_tr (sm_F1_le h154_ (Int.le_refl _)) h276_ h147_), ?_⟩
      refine ⟨(sm_F1_tr (sm_F1_le h155_ (Int.le_refl _)) h277_ h147_), ?_⟩
      refine ⟨(sm_F1_tr (sm_F1_le h156_ (Int.le_refl _)) h278_ (la_behind_77 h147_)), ?_⟩
      refine ⟨(sm_F1_tr (sm_F1_le h157_ (Int.le_refl _)) h279_ (la_behind_77 h147_)), ?_⟩
      refine ⟨(sm_F1_tr (sm_F1_le h158_ (Int.le_refl _)) h280_ (la_behind_77 h147_)), ?_⟩
      refine ⟨(sm_F1_tr (sm_F1_le h159_ (Int.le_refl _)) h281_ (la_behind_77 h147_)), ?_⟩
      refine ⟨(sm_F1_tr (sm_F1_up sm_F1_rf (la_behind_79 h90_)) h282_ (la_behind_78 h90_ h91_)), ?_⟩
      refine ⟨(sm_F1_tr (sm_F1_up sm_F1_rf (la_behind_79 h90_)) h283_ (la_behind_78 h90_ h91_)), ?_⟩
      refine ⟨(sm_F1_tr (sm_F1_up sm_F1_rf (la_behind_79 h90_)) h284_ (la_behind_78 h90_ h91_)), ?_⟩
      refine ⟨(sm_F1_tr (sm_F1_up sm_F1_rf (la_behind_79 h90_)) h285_ (la_behind_78 h90_ h91_)), ?_⟩
      refine ⟨(sm_F1_tr (sm_F1_tr (sm_F1_up sm_F1_rf (la_behind_79 h90_)) h286_ (la_behind_78 h90_ h91_)) (sm_F1_ne h375_ (Int.le_refl _)) (la_behind_79 h90_)), ?_⟩
      refine ⟨(sm_F1_tr (sm_F1_le h287_ (la_behind_78 h90_ h91_)) (sm_F1_ne h376_ (Int.le_refl _)) (la_behind_79 h90_)), ?_⟩
      refine ⟨(la_behind_80 h90_ h91_ h288_), ?_⟩
      refine ⟨h289_, ?_⟩
      refine ⟨h290_, ?_⟩
      refine ⟨(la_behind_81 h25_ h90_ h91_ h288_), ?_⟩
      refine ⟨(la_behind_82 h15_ (sm_ex_e h77_).2.2.2.1 h85_ h90_ h91_ h144_ h145_ h147_ h291_ h292_), ?_⟩
      intro h377_
      have h378_ : ¬ (g43 1047 0 = 1) := fun q_ => (la_behind_43 h377_) (h273_ q_)
      obtain ⟨h379_, ⟨h380_, ⟨h381_, ⟨h382_, ⟨h383_, ⟨h384_, ⟨h385_, ⟨h386_, ⟨h387_, ⟨h388_, ⟨h389_, ⟨h390_, ⟨h391_, ⟨h392_, ⟨h393_, ⟨h394_, -⟩⟩⟩⟩⟩⟩⟩⟩⟩⟩⟩⟩⟩⟩⟩⟩ := (h293_ h377_)
      have h395_ := (h373_ h377_)
      have h396_ := (h292_ h379_)
      obtain ⟨h397_, ⟨h398_, ⟨h399_, ⟨h400_, ⟨h401_, ⟨h402_, ⟨h403_, ⟨h404_, ⟨h405_, ⟨h406_, ⟨h407_, ⟨h408_, ⟨h409_, h410_⟩⟩⟩⟩⟩⟩⟩⟩⟩⟩⟩⟩⟩ := (h160_ h379_)
      have h411_ := (h410_ la_behind_46)
      have h412_ := (h411_ la_behind_48)
      refine ⟨h25_, ?_⟩
      refine ⟨h395_, ?_⟩
      refine ⟨h381_, ?_⟩
      refine ⟨h382_, ?_⟩
      refine ⟨h383_, ?_⟩
      refine ⟨(la_behind_83 h384_ h398_), ?_⟩
      refine ⟨(sm_FC_1 (((sm_F1_at h277_ (S 1046 0) (la_behind_30 h398_)).trans rfl).trans h402_) (sm_FC_F h385_ sm_F1_rf (Int.le_refl _) h148_ (Int.le_refl _) rfl)), ?_⟩
      refine ⟨(la_behind_84 h99_ h386_ h403_ (sm_dl_24 : sm_dl 24 r25 = (-1))), ?_⟩
      refine ⟨(la_behind_71 h387_ h404_ (sm_nt_24 : sm_nt 24 (S 1046 0) (S 1100023 (S 1046 0)) (S 1100023 (S 1100023 (S 1046 0))) = S 1100023 (S 1046 0))), ?_⟩
      refine ⟨(la_behind_71 h388_ h405_ (sm_nd_24 : sm_nd 24 (S 1100024 (S 1046 0)) = S 1100024 (S 1046 0))), ?_⟩
      refine ⟨(la_behind_71 h389_ h406_ (sm_nl_24 : sm_nl 24 (S 1046 0) (S 1100007 (S 1046 0)) (S 1100025 (S 1046 0)) (S 1100007 (S 1100025 (S 1046 0))) (S 1100025 (S 1100025 (S 1046 0))) = S 1100025 (S 1046 0))), ?_⟩
      refine ⟨(la_behind_71 h390_ h407_ (sm_nt_24 : sm_nt 24 (S 1100007 (S 1046 0)) (S 1100007 (S 1100023 (S 1046 0))) (S 1100007 (S 1100023 (S 1100023 (S 1046 0)))) = S 1100007 (S 1100023 (S 1046 0)))), ?_⟩
      refine ⟨(la_behind_70 h391_ h412_), ?_⟩
      refine ⟨(sm_AP_1 ((congrArg (fun z : Int => g57 1100030 z) (la_behind_8 h90_)).trans h374_) (sm_AP_o (sm_AP_F h392_ sm_F1_rf (Int.le_refl _) (la_behind_85 h90_ h91_) (Int.le_refl _)) h375_ (la_behind_87 h90_))), ?_⟩
      refine ⟨(sm_HB_1 (by rw [((sm_F1_at h278_ (S 1046 0) (la_behind_88 h398_)).trans ((sm_F1_at h156_ (S 1046 0) la_behind_89).trans rfl))]; exact (la_behind_90 h52_ h99_ h384_ h398_)) (sm_HB_1 (by rw [((sm_F1_at h278_ (S 1046 0 + 1) (la_behind_91 h398_)).trans ((congrArg (g43 1100007) (la_behind_92 h148_ h398_)).trans h403_))]; exact (la_behind_93 h52_ h99_ h384_ h398_ (sm_dl_24 : sm_dl 24 r25 = (-1)))) (sm_HB_F h393_ sm_F1_rf (Int.le_refl _) (la_behind_94 h148_) (Int.le_refl _) (la_behind_96 (sm_ex_e h77_).2.2.2.2 h99_ h398_ h403_ (sm_dl_24 : sm_dl 24 r25 = (-1)))))), ?_⟩
      refine ⟨(la_behind_97 h90_ h91_ h394_ h398_), ?_⟩
      exact trivial
    intro h413_
    have h414_ := (h23_.resolve_left (la_behind_98 h413_))
    have h415_ := (h38_ (la_behind_99 h413_))
    have h416_ := (h65_.resolve_right (la_behind_101 h413_))
    have h417_ := (h68_.resolve_right (la_behind_102 h413_))
    have h418_ := (h414_.resolve_left (la_behind_103 h413_))
    have h419_ := (h418_.resolve_left (la_behind_99 h413_))
    have h420_ := (h419_.resolve_left (la_behind_104 h413_))
    refine ⟨?_, ?_⟩
    · skip
      refine ⟨h14_, ?_⟩
      refine ⟨h15_, ?_⟩
      refine ⟨h16_, ?_⟩
      refine ⟨h17_, ?_⟩
      intro h421_
      refine ⟨h95_, ?_⟩
      refine ⟨la_behind_105, ?_⟩
      refine ⟨la_behind_106, ?_⟩
      refine ⟨?_, ?_⟩
      · skip
        have e422_ : (if r25 = r25 then S 1100007 (S 1046 0) else S 1100009 r25 : Int) = S 1100007 (S 1046 0) := if_pos la_behind_25
        have e423_ : (if r25 = r25 then S 1100023 (S 1046 0) else S 1100027 r25 : Int) = S 1100023 (S 1046 0) := if_pos la_behind_25
        have e424_ : (if r25 = r25 then S 1100025 (S 1046 0) else S 1100028 r25 : Int) = S 1100025 (S 1046 0) := if_pos la_behind_25
        have e425_ : S 12 (5 * p1 + 0) = S 12 (5 * p1) := congrArg ((S 12)) la_behind_26
        exact (sm_ci_23 (la_behind_27 h26_ h32_ h33_ h40_ (sm_dl_23 : sm_dl 23 r25 = (-1)) (sm_nt_23 : sm_nt 23 (S 1046 0) (S 1100023 (S 1046 0)) (S 1100023 (S 1100023 (S 1046 0))) = S 1100023 (S 1046 0)) (sm_nl_23 : sm_nl 23 (S 1046 0) (S 1100007 (S 1046 0)) (S 1100025 (S 1046 0)) (S 1100007 (S 1100025 (S 1046 0))) (S 1100025 (S 1100025 (S 1046 0))) = S 1100025 (S 1046 0)) e422_ e423_ e424_))
      refine ⟨?_, ?_⟩
      · skip
        intro h426_
        obtain ⟨h427_, h428_⟩ := (h426_.resolve_right la_behind_107)
        refine ⟨(la_behind_29 h18_ h90_), ?_⟩
        refine ⟨(la_behind_30 h91_), ?_⟩
        have e429_ : (if r25 = r25 then S 1056 0 else S 1100026 r25 : Int) = S 1056 0 := if_pos la_behind_25
        have e430_ : S 12 (5 * p1 + 0) = S 12 (5 * p1) := congrArg ((S 12)) la_behind_26
        exact e429_
      intro h431_
      have h432_ := (h431_.resolve_left la_behind_108)
      have e433_ : S 11 p1 = S 11 (S 12 (5 * p1)) := congrArg ((S 11)) (la_behind_109 h432_)
      have e434_ : S 11 x11 = S 11 (S 12 (5 * p1)) := congrArg ((S 11)) (la_behind_109 h432_)
      have e435_ : S 11 x11 = S 11 p1 := congrArg ((S 11)) (la_behind_109 h432_)
      have e436_ : S 1100001 p1 = S 1100001 (S 12 (5 * p1)) := congrArg ((S 1100001)) (la_behind_109 h432_)
      have e437_ : S 1100001 x11 = S 1100001 (S 12 (5 * p1)) := congrArg ((S 1100001)) (la_behind_109 h432_)
      have e438_ : S 1100001 x11 = S 1100001 p1 := congrArg ((S 1100001)) (la_behind_109 h432_)
      have e439_ : S 1100002 p1 = S 1100002 (S 12 (5 * p1)) := congrArg ((S 1100002)) (la_behind_109 h432_)
      have e440_ : S 1100002 x11 = S 1100002 (S 12 (5 * p1)) := congrArg ((S 1100002)) (la_behind_109 h432_)
      have e441_ : S 1100002 x11 = S 1100002 p1 := congrArg ((S 1100002)) (la_behind_109 h432_)
      have e442_ : S 1100005 p1 = S 1100005 (S 12 (5 * p1)) := congrArg ((S 1100005)) (la_behind_109 h432_)
      have e443_ : S 1100005 x11 = S 1100005 (S 12 (5 * p1)) := congrArg ((S 1100005)) (la_behind_109 h432_)
      have e444_ : S 1100005 x11 = S 1100005 p1 := congrArg ((S 1100005)) (la_behind_109 h432_)
      have e445_ : S 1100007 (S 1100023 (S 1046 0)) = S 1100007 (S 1046 0) := congrArg ((S 1100007)) (la_behind_109 h432_)
      have e446_ : S 1100007 (S 1100025 (S 1046 0)) = S 1100007 (S 1046 0) := congrArg ((S 1100007)) (la_behind_109 h432_)
      have e447_ : S 1100007 (S 1100025 (S 1046 0)) = S 1100007 (S 1100023 (S 1046 0)) := congrArg ((S 1100007)) (la_behind_109 h432_)
      have e448_ : S 1100023 (S 1100023 (S 1046 0)) = S 1100023 (S 1046 0) := congrArg ((S 1100023)) (la_behind_109 h432_)
      have e449_ : S 1100025 (S 1100025 (S 1046 0)) = S 1100025 (S 1046 0) := congrArg ((S 1100025)) (la_behind_109 h432_)
      have e450_ : S 12 (5 * p1 + 0) = S 12 (5 * p1) := congrArg ((S 12)) la_behind_26
      have e451_ : S 12 (5 * p1 + 1) = S 12 (5 * p1) := congrArg ((S 12)) (la_behind_110 h432_)
      have e452_ : S 12 (5 * p1 + 1) = S 12 (5 * p1 + 0) := congrArg ((S 12)) (la_behind_111 h432_)
      have e453_ : S 12 (5 * x11 + 1) = S 12 (5 * p1) := congrArg ((S 12)) (la_behind_112 h432_)
      have e454_ : S 12 (5 * x11 + 1) = S 12 (5 * p1 + 0) := congrArg ((S 12)) (la_behind_113 h432_)
      have e455_ : S 12 (5 * x11 + 1) = S 12 (5 * p1 + 1) := congrArg ((S 12)) (la_behind_114 h432_)
      have h456_ := (h32_ (la_behind_115 h432_))
      have h457_ := (h33_ (la_behind_115 h432_))
      have h458_ := (h39_ (la_behind_116 h432_))
      have h459_ := (h86_ (la_behind_117 h432_))
      have h460_ := (h87_ (la_behind_118 h432_))
      exact ((la_behind_119 h432_)).elim
    intro g63
    rintro ⟨h461_, ⟨h462_, ⟨h463_, ⟨h464_, ⟨h465_, ⟨h466_, ⟨h467_, ⟨h468_, ⟨h469_, ⟨h470_, ⟨h471_, ⟨h472_, ⟨h473_, ⟨h474_, ⟨h475_, ⟨h476_, h477_⟩⟩⟩⟩⟩⟩⟩⟩⟩⟩⟩⟩⟩⟩⟩⟩
    refine ⟨?_, ?_⟩
    · skip
      refine ⟨h3_, ?_⟩
      refine ⟨h4_, ?_⟩
      refine ⟨h5_, ?_⟩
      refine ⟨h6_, ?_⟩
      refine ⟨h7_, ?_⟩
      refine ⟨h8_, ?_⟩
      refine ⟨h9_, ?_⟩
      refine ⟨h10_, ?_⟩
      refine ⟨h11_, ?_⟩
      refine ⟨h12_, ?_⟩
      refine ⟨h13_, ?_⟩
      refine ⟨(la_behind_44 h463_), ?_⟩
      refine ⟨h466_, ?_⟩
      refine ⟨h461_, ?_⟩
      refine ⟨h462_, ?_⟩
      refine ⟨(sm_KC_n h95_).1.2.2.2.2, ?_⟩
      refine ⟨h19_, ?_⟩
      refine ⟨(sm_ex_e h77_).1, ?_⟩
      refine ⟨(sm_ex_e h77_).2.1, ?_⟩
      refine ⟨(sm_ex_e h77_).2.2.1, ?_⟩
      refine ⟨(sm_LF_w h24_ sm_F1_rf (Int.le_refl _) (Int.le_refl _) h19_ (la_behind_45 h8_ (sm_ex_e h75_).1 h76_ (sm_ex_e h77_).2.1 (sm_ex_e h77_).2.2.2.1)), ?_⟩
      intro h478_
      obtain ⟨h479_, ⟨h480_, ⟨h481_, ⟨h482_, ⟨h483_, ⟨h484_, ⟨h485_, ⟨h486_, ⟨h487_, ⟨h488_, ⟨h489_, ⟨h490_, ⟨h491_, h492_⟩⟩⟩⟩⟩⟩⟩⟩⟩⟩⟩⟩⟩ := (h477_ h478_)
      have h493_ := (h492_ la_behind_120)
      have h494_ := (h493_ la_behind_122)
      refine ⟨h481_, ?_⟩
      refine ⟨h29_, ?_⟩
      refine ⟨h30_, ?_⟩
      refine ⟨(la_behind_49 h31_ h480_), ?_⟩
      refine ⟨(la_behind_50 h32_ h40_ h485_ (sm_dl_23 : sm_dl 23 r25 = (-1)) h486_ (sm_nt_23 : sm_nt 23 (S 1046 0) (S 1100023 (S 1046 0)) (S 1100023 (S 1100023 (S 1046 0))) = S 1100023 (S 1046 0)) h489_ (sm_nt_23 : sm_nt 23 (S 1100007 (S 1046 0)) (S 1100007 (S 1100023 (S 1046 0))) (S 1100007 (S 1100023 (S 1100023 (S 1046 0)))) = S 1100007 (S 1100023 (S 1046 0)))), ?_⟩
      refine ⟨(la_behind_51 h33_ h40_ h485_ (sm_dl_23 : sm_dl 23 r25 = (-1)) h488_ (sm_nl_23 : sm_nl 23 (S 1046 0) (S 1100007 (S 1046 0)) (S 1100025 (S 1046 0)) (S 1100007 (S 1100025 (S 1046 0))) (S 1100025 (S 1100025 (S 1046 0))) = S 1100025 (S 1046 0)) h494_), ?_⟩
      refine ⟨(la_behind_52 h34_ h480_ h485_ (sm_dl_23 : sm_dl 23 r25 = (-1))), ?_⟩
      exact (la_behind_53 h35_ (sm_ex_e h77_).2.2.2.1 h90_ h91_ h480_)
    refine ⟨?_, ?_⟩
    · skip
      refine ⟨?_, ?_⟩
      · skip
        have e495_ : S 12 (5 * p1 + 0) = S 12 (5 * p1) := congrArg ((S 12)) la_behind_26
        by_cases c496_ : g63 1047 0 = 0
        · skip
          have e497_ : (if g63 1047 0 = 0 then S 1100002 x11 + (600 - g63 1046 0) + 8 else 4 : Int) = S 1100002 x11 + (600 - g63 1046 0) + 8 := if_pos c496_
          obtain ⟨h498_, ⟨h499_, ⟨h500_, ⟨h501_, ⟨h502_, ⟨h503_, ⟨h504_, ⟨h505_, ⟨h506_, ⟨h507_, ⟨h508_, ⟨h509_, ⟨h510_, h511_⟩⟩⟩⟩⟩⟩⟩⟩⟩⟩⟩⟩⟩ := (h477_ c496_)
          have h512_ := (h511_ la_behind_120)
          have h513_ := (h512_ la_behind_122)
          exact (la_behind_54 h85_ h466_ e497_)
        · skip
          have e514_ : (if g63 1047 0 = 0 then S 1100002 x11 + (600 - g63 1046 0) + 8 else 4 : Int) = 4 := if_neg c496_
          have h515_ := (h468_ (la_behind_56 h462_ (la_behind_55 h461_ c496_)))
          have h516_ := (h515_.resolve_left (la_behind_43 h25_))
          exact (la_behind_57 e514_)
      have e517_ : S 12 (5 * p1 + 0) = S 12 (5 * p1) := congrArg ((S 12)) la_behind_26
      by_cases c518_ : g63 1047 0 = 1
      · skip
        have e519_ : (if g63 1047 0 = 0 then S 1100002 x11 + (600 - g63 1046 0) + 8 else 4 : Int) = 4 := if_neg (la_behind_58 c518_)
        have h520_ := (h468_ c518_)
        have h521_ := (h520_.resolve_left (la_behind_43 h25_))
        exact (la_behind_59 h36_ (sm_ex_e h77_).2.2.2.1 h85_ e519_ h521_)
      · skip
        obtain ⟨h522_, ⟨h523_, ⟨h524_, ⟨h525_, ⟨h526_, ⟨h527_, ⟨h528_, ⟨h529_, ⟨h530_, ⟨h531_, ⟨h532_, ⟨h533_, ⟨h534_, h535_⟩⟩⟩⟩⟩⟩⟩⟩⟩⟩⟩⟩⟩ := (h477_ (la_behind_61 h461_ (la_behind_60 h462_ c518_)))
        have e536_ : (if g63 1047 0 = 0 then S 1100002 x11 + (600 - g63 1046 0) + 8 else 4 : Int) = S 1100002 x11 + (600 - g63 1046 0) + 8 := if_pos (la_behind_61 h461_ (la_behind_60 h462_ c518_))
        have h537_ := (h535_ la_behind_120)
        have h538_ := (h537_ la_behind_122)
        exact (la_behind_62 h36_ (sm_ex_e h77_).2.2.2.1 h523_ e536_)
    refine ⟨?_, ?_⟩
    · skip
      refine ⟨?_, ?_⟩
      · skip
        have e539_ : S 12 (5 * p1 + 0) = S 12 (5 * p1) := congrArg ((S 12)) la_behind_26
        by_cases c540_ : g63 1047 0 = 0
        · skip
          have e541_ : (if g63 1047 0 = 0 then S 1100002 x11 + (600 - g63 1046 0) + 8 else 4 : Int) = S 1100002 x11 + (600 - g63 1046 0) + 8 := if_pos c540_
          obtain ⟨h542_, ⟨h543_, ⟨h544_, ⟨h545_, ⟨h546_, ⟨h547_, ⟨h548_, ⟨h549_, ⟨h550_, ⟨h551_, ⟨h552_, ⟨h553_, ⟨h554_, h555_⟩⟩⟩⟩⟩⟩⟩⟩⟩⟩⟩⟩⟩ := (h477_ c540_)
          have h556_ := (h555_ la_behind_120)
          have h557_ := (h556_ la_behind_122)
          exact (la_behind_54 h85_ h466_ e541_)
        · skip
          have e558_ : (if g63 1047 0 = 0 then S 1100002 x11 + (600 - g63 1046 0) + 8 else 4 : Int) = 4 := if_neg c540_
          have h559_ := (h468_ (la_behind_56 h462_ (la_behind_55 h461_ c540_)))
          have h560_ := (h559_.resolve_left (la_behind_43 h25_))
          exact (la_behind_57 e558_)
      have e561_ : S 12 (5 * p1 + 0) = S 12 (5 * p1) := congrArg ((S 12)) la_behind_26
      by_cases c562_ : g63 1047 0 = 1
      · skip
        have e563_ : (if g63 1047 0 = 0 then S 1100002 x11 + (600 - g63 1046 0) + 8 else 4 : Int) = 4 := if_neg (la_behind_58 c562_)
        have h564_ := (h468_ c562_)
        have h565_ := (h564_.resolve_left (la_behind_43 h25_))
        exact (la_behind_63 h49_ e563_ h565_)
      · skip
        obtain ⟨h566_, ⟨h567_, ⟨h568_, ⟨h569_, ⟨h570_, ⟨h571_, ⟨h572_, ⟨h573_, ⟨h574_, ⟨h575_, ⟨h576_, ⟨h577_, ⟨h578_, h579_⟩⟩⟩⟩⟩⟩⟩⟩⟩⟩⟩⟩⟩ := (h477_ (la_behind_61 h461_ (la_behind_60 h462_ c562_)))
        have e580_ : (if g63 1047 0 = 0 then S 1100002 x11 + (600 - g63 1046 0) + 8 else 4 : Int) = S 1100002 x11 + (600 - g63 1046 0) + 8 := if_pos (la_behind_61 h461_ (la_behind_60 h462_ c562_))
        have h581_ := (h579_ la_behind_120)
        have h582_ := (h581_ la_behind_122)
        exact (la_behind_64 (sm_ex_e h77_).2.2.2.1 h567_ e580_)
    intro g71
    rintro ⟨h583_, ⟨h584_, ⟨h585_, ⟨h586_, ⟨h587_, ⟨h588_, ⟨h589_, ⟨h590_, ⟨h591_, ⟨h592_, ⟨h593_, ⟨h594_, ⟨h595_, ⟨h596_, ⟨h597_, ⟨h598_, ⟨h599_, ⟨h600_, ⟨h601_, ⟨h602_, ⟨h603_, ⟨h604_, ⟨h605_, ⟨h606_, ⟨h607_, ⟨h608_, ⟨h609_, h610_⟩⟩⟩⟩⟩⟩⟩⟩⟩⟩⟩⟩⟩⟩⟩⟩⟩⟩⟩⟩⟩⟩⟩⟩⟩⟩⟩
    refine ⟨?_, ?_⟩
    · skip
      refine ⟨(la_behind_29 h18_ h90_), ?_⟩
      refine ⟨(la_behind_65 h15_ h35_ (sm_ex_e h77_).2.2.2.1 h85_ h90_), ?_⟩
      intro h611_
      have h612_ : ¬ (g63 1047 0 = 1) := fun q_ => (la_behind_43 h611_) (h590_ q_)
      obtain ⟨h613_, ⟨h614_, ⟨h615_, ⟨h616_, ⟨h617_, ⟨h618_, ⟨h619_, ⟨h620_, ⟨h621_, ⟨h622_, ⟨h623_, ⟨h624_, ⟨h625_, ⟨h626_, ⟨h627_, ⟨h628_, -⟩⟩⟩⟩⟩⟩⟩⟩⟩⟩⟩⟩⟩⟩⟩⟩ := (h610_ h611_)
      have h629_ := (h609_ h613_)
      obtain ⟨h630_, ⟨h631_, ⟨h632_, ⟨h633_, ⟨h634_, ⟨h635_, ⟨h636_, ⟨h637_, ⟨h638_, ⟨h639_, ⟨h640_, ⟨h641_, ⟨h642_, h643_⟩⟩⟩⟩⟩⟩⟩⟩⟩⟩⟩⟩⟩ := (h477_ h613_)
      have h644_ := (h643_ la_behind_120)
      have h645_ := (h644_ la_behind_122)
      refine ⟨h614_, ?_⟩
      refine ⟨(la_behind_66 h91_ h605_), ?_⟩
      refine ⟨?_, ?_⟩
      · skip
        have e646_ : g71 1100009 r25 = (if r25 = r25 then S 1100007 (S 1046 0) else S 1100009 r25) := (sm_F1_at h599_ r25 (la_behind_30 h91_))
        have e647_ : (if r25 = r25 then S 1100007 (S 1046 0) else S 1100009 r25 : Int) = S 1100007 (S 1046 0) := if_pos la_behind_25
        have e648_ : S 1100007 (g63 1100023 (g63 1046 0)) = S 1100007 (S 1100023 (S 1046 0)) := congrArg ((S 1100007)) (la_behind_70 h637_ (sm_nt_23 : sm_nt 23 (S 1046 0) (S 1100023 (S 1046 0)) (S 1100023 (S 1100023 (S 1046 0))) = S 1100023 (S 1046 0)))
        have e649_ : S 1100007 (g63 1100025 (g63 1046 0)) = S 1100007 (S 1100025 (S 1046 0)) := congrArg ((S 1100007)) (la_behind_70 h639_ (sm_nl_23 : sm_nl 23 (S 1046 0) (S 1100007 (S 1046 0)) (S 1100025 (S 1046 0)) (S 1100007 (S 1100025 (S 1046 0))) (S 1100025 (S 1100025 (S 1046 0))) = S 1100025 (S 1046 0)))
        have e650_ : S 1100007 (g71 1100023 (g71 1046 0)) = S 1100007 (S 1100023 (S 1046 0)) := congrArg ((S 1100007)) (la_behind_71 h621_ h637_ (sm_nt_23 : sm_nt 23 (S 1046 0) (S 1100023 (S 1046 0)) (S 1100023 (S 1100023 (S 1046 0))) = S 1100023 (S 1046 0)))
        have e651_ : S 1100007 (g71 1100023 (g71 1046 0)) = S 1100007 (g63 1100023 (g63 1046 0)) := congrArg ((S 1100007)) h621_
        have e652_ : S 1100007 (g71 1100025 (g71 1046 0)) = S 1100007 (S 1100025 (S 1046 0)) := congrArg ((S 1100007)) (la_behind_71 h623_ h639_ (sm_nl_23 : sm_nl 23 (S 1046 0) (S 1100007 (S 1046 0)) (S 1100025 (S 1046 0)) (S 1100007 (S 1100025 (S 1046 0))) (S 1100025 (S 1100025 (S 1046 0))) = S 1100025 (S 1046 0)))
        have e653_ : S 1100007 (g71 1100025 (g71 1046 0)) = S 1100007 (g63 1100025 (g63 1046 0)) := congrArg ((S 1100007)) h623_
        have e654_ : S 12 (5 * p1 + 0) = S 12 (5 * p1) := congrArg ((S 12)) la_behind_26
        have e655_ : g63 1100007 (g71 1100023 (g71 1046 0)) = g63 1100007 (g63 1100023 (g63 1046 0)) := congrArg ((g63 1100007)) h621_
        have e656_ : g63 1100007 (g71 1100025 (g71 1046 0)) = g63 1100007 (g63 1100025 (g63 1046 0)) := congrArg ((g63 1100007)) h623_
        exact (la_behind_72 h620_ h636_ (sm_dl_23 : sm_dl 23 r25 = (-1)) e646_ e647_)
      refine ⟨?_, ?_⟩
      · skip
        have e657_ : g71 1100027 r25 = (if r25 = r25 then S 1100023 (S 1046 0) else S 1100027 r25) := (sm_F1_at h600_ r25 (la_behind_30 h91_))
        have e658_ : (if r25 = r25 then S 1100023 (S 1046 0) else S 1100027 r25 : Int) = S 1100023 (S 1046 0) := if_pos la_behind_25
        have e659_ : S 1100007 (g63 1100023 (g63 1046 0)) = S 1100007 (S 1100023 (S 1046 0)) := congrArg ((S 1100007)) (la_behind_70 h637_ (sm_nt_23 : sm_nt 23 (S 1046 0) (S 1100023 (S 1046 0)) (S 1100023 (S 1100023 (S 1046 0))) = S 1100023 (S 1046 0)))
        have e660_ : S 1100007 (g63 1100025 (g63 1046 0)) = S 1100007 (S 1100025 (S 1046 0)) := congrArg ((S 1100007)) (la_behind_70 h639_ (sm_nl_23 : sm_nl 23 (S 1046 0) (S 1100007 (S 1046 0)) (S 1100025 (S 1046 0)) (S 1100007 (S 1100025 (S 1046 0))) (S 1100025 (S 1100025 (S 1046 0))) = S 1100025 (S 1046 0)))
        have e661_ : S 1100007 (g71 1100023 (g71 1046 0)) = S 1100007 (S 1100023 (S 1046 0)) := congrArg ((S 1100007)) (la_behind_71 h621_ h637_ (sm_nt_23 : sm_nt 23 (S 1046 0) (S 1100023 (S 1046 0)) (S 1100023 (S 1100023 (S 1046 0))) = S 1100023 (S 1046 0)))
        have e662_ : S 1100007 (g71 1100023 (g71 1046 0)) = S 1100007 (g63 1100023 (g63 1046 0)) := congrArg ((S 1100007)) h621_
        have e663_ : S 1100007 (g71 1100025 (g71 1046 0)) = S 1100007 (S 1100025 (S 1046 0)) := congrArg ((S 1100007)) (la_behind_71 h623_ h639_ (sm_nl_23 : sm_nl 23 (S 1046 0) (S 1100007 (S 1046 0)) (S 1100025 (S 1046 0)) (S 1100007 (S 1100025 (S 1046 0))) (S 1100025 (S 1100025 (S 1046 0))) = S 1100025 (S 1046 0)))
        have e664_ : S 1100007 (g71 1100025 (g71 1046 0)) = S 1100007 (g63 1100025 (g63 1046 0)) := congrArg ((S 1100007)) h623_
        have e665_ : S 12 (5 * p1 + 0) = S 12 (5 * p1) := congrArg ((S 12)) la_behind_26
        have e666_ : g63 1100007 (g71 1100023 (g71 1046 0)) = g63 1100007 (g63 1100023 (g63 1046 0)) := congrArg ((g63 1100007)) h621_
        have e667_ : g63 1100007 (g71 1100025 (g71 1046 0)) = g63 1100007 (g63 1100025 (g63 1046 0)) := congrArg ((g63 1100007)) h623_
        exact (la_behind_73 h621_ h637_ (sm_nt_23 : sm_nt 23 (S 1046 0) (S 1100023 (S 1046 0)) (S 1100023 (S 1100023 (S 1046 0))) = S 1100023 (S 1046 0)) e657_ e658_)
      refine ⟨?_, ?_⟩
      · skip
        have e668_ : g71 1100028 r25 = (if r25 = r25 then S 1100025 (S 1046 0) else S 1100028 r25) := (sm_F1_at h601_ r25 (la_behind_30 h91_))
        have e669_ : (if r25 = r25 then S 1100025 (S 1046 0) else S 1100028 r25 : Int) = S 1100025 (S 1046 0) := if_pos la_behind_25
        have e670_ : S 1100007 (g63 1100023 (g63 1046 0)) = S 1100007 (S 1100023 (S 1046 0)) := congrArg ((S 1100007)) (la_behind_70 h637_ (sm_nt_23 : sm_nt 23 (S 1046 0) (S 1100023 (S 1046 0)) (S 1100023 (S 1100023 (S 1046 0))) = S 1100023 (S 1046 0)))
        have e671_ : S 1100007 (g63 1100025 (g63 1046 0)) = S 1100007 (S 1100025 (S 1046 0)) := congrArg ((S 1100007)) (la_behind_70 h639_ (sm_nl_23 : sm_nl 23 (S 1046 0) (S 1100007 (S 1046 0)) (S 1100025 (S 1046 0)) (S 1100007 (S 1100025 (S 1046 0))) (S 1100025 (S 1100025 (S 1046 0))) = S 1100025 (S 1046 0)))
        have e672_ : S 1100007 (g71 1100023 (g71 1046 0)) = S 1100007 (S 1100023 (S 1046 0)) := congrArg ((S 1100007)) (la_behind_71 h621_ h637_ (sm_nt_23 : sm_nt 23 (S 1046 0) (S 1100023 (S 1046 0)) (S 1100023 (S 1100023 (S 1046 0))) = S 1100023 (S 1046 0)))
        have e673_ : S 1100007 (g71 1100023 (g71 1046 0)) = S 1100007 (g63 1100023 (g63 1046 0)) := congrArg ((S 1100007)) h621_
        have e674_ : S 1100007 (g71 1100025 (g71 1046 0)) = S 1100007 (S 1100025 (S 1046 0)) := congrArg ((S 1100007)) (la_behind_71 h623_ h639_ (sm_nl_23 : sm_nl 23 (S 1046 0) (S 1100007 (S 1046 0)) (S 1100025 (S 1046 0)) (S 1100007 (S 1100025 (S 1046 0))) (S 1100025 (S 1100025 (S 1046 0))) = S 1100025 (S 1046 0)))
        have e675_ : S 1100007 (g71 1100025 (g71 1046 0)) = S 1100007 (g63 1100025 (g63 1046 0)) := congrArg ((S 1100007)) h623_
        have e676_ : S 12 (5 * p1 + 0) = S 12 (5 * p1) := congrArg ((S 12)) la_behind_26
        have e677_ : g63 1100007 (g71 1100023 (g71 1046 0)) = g63 1100007 (g63 1100023 (g63 1046 0)) := congrArg ((g63 1100007)) h621_
        have e678_ : g63 1100007 (g71 1100025 (g71 1046 0)) = g63 1100007 (g63 1100025 (g63 1046 0)) := congrArg ((g63 1100007)) h623_
        exact (la_behind_73 h623_ h639_ (sm_nl_23 : sm_nl 23 (S 1046 0) (S 1100007 (S 1046 0)) (S 1100025 (S 1046 0)) (S 1100007 (S 1100025 (S 1046 0))) (S 1100025 (S 1100025 (S 1046 0))) = S 1100025 (S 1046 0)) e668_ e669_)
      have e679_ : g71 1100026 r25 = (if r25 = r25 then S 1056 0 else S 1100026 r25) := (sm_F1_at h602_ r25 (la_behind_30 h91_))
      have e680_ : (if r25 = r25 then S 1056 0 else S 1100026 r25 : Int) = S 1056 0 := if_pos la_behind_25
      have e681_ : S 1100007 (g63 1100023 (g63 1046 0)) = S 1100007 (S 1100023 (S 1046 0)) := congrArg ((S 1100007)) (la_behind_70 h637_ (sm_nt_23 : sm_nt 23 (S 1046 0) (S 1100023 (S 1046 0)) (S 1100023 (S 1100023 (S 1046 0))) = S 1100023 (S 1046 0)))
      have e682_ : S 1100007 (g63 1100025 (g63 1046 0)) = S 1100007 (S 1100025 (S 1046 0)) := congrArg ((S 1100007)) (la_behind_70 h639_ (sm_nl_23 : sm_nl 23 (S 1046 0) (S 1100007 (S 1046 0)) (S 1100025 (S 1046 0)) (S 1100007 (S 1100025 (S 1046 0))) (S 1100025 (S 1100025 (S 1046 0))) = S 1100025 (S 1046 0)))
      have e683_ : S 1100007 (g71 1100023 (g71 1046 0)) = S 1100007 (S 1100023 (S 1046 0)) := congrArg ((S 1100007)) (la_behind_71 h621_ h637_ (sm_nt_23 : sm_nt 23 (S 1046 0) (S 1100023 (S 1046 0)) (S 1100023 (S 1100023 (S 1046 0))) = S 1100023 (S 1046 0)))
      have e684_ : S 1100007 (g71 1100023 (g71 1046 0)) = S 1100007 (g63 1100023 (g63 1046 0)) := congrArg ((S 1100007)) h621_
      have e685_ : S 1100007 (g71 1100025 (g71 1046 0)) = S 1100007 (S 1100025 (S 1046 0)) := congrArg ((S 1100007)) (la_behind_71 h623_ h639_ (sm_nl_23 : sm_nl 23 (S 1046 0) (S 1100007 (S 1046 0)) (S 1100025 (S 1046 0)) (S 1100007 (S 1100025 (S 1046 0))) (S 1100025 (S 1100025 (S 1046 0))) = S 1100025 (S 1046 0)))
      have e686_ : S 1100007 (g71 1100025 (g71 1046 0)) = S 1100007 (g63 1100025 (g63 1046 0)) := congrArg ((S 1100007)) h623_
      have e687_ : S 12 (5 * p1 + 0) = S 12 (5 * p1) := congrArg ((S 12)) la_behind_26
      have e688_ : g63 1100007 (g71 1100023 (g71 1046 0)) = g63 1100007 (g63 1100023 (g63 1046 0)) := congrArg ((g63 1100007)) h621_
      have e689_ : g63 1100007 (g71 1100025 (g71 1046 0)) = g63 1100007 (g63 1100025 (g63 1046 0)) := congrArg ((g63 1100007)) h623_
      exact (la_behind_74 e679_ e680_)
    intro g77
    rintro ⟨h690_, ⟨h691_, ⟨h692_, h693_⟩⟩⟩
    refine ⟨h583_, ?_⟩
    refine ⟨h584_, ?_⟩
    refine ⟨h585_, ?_⟩
    refine ⟨h586_, ?_⟩
    refine ⟨h587_, ?_⟩
    refine ⟨h588_, ?_⟩
    refine ⟨(la_behind_75 h464_ h589_), ?_⟩
    refine ⟨(la_behind_76 h25_), ?_⟩
    refine ⟨(sm_F1_tr (sm_F1_le h469_ (Int.le_refl _)) h591_ h464_), ?_⟩
    refine ⟨(sm_F1_tr (sm_F1_le h470_ (Int.le_refl _)) h592_ h464_), ?_⟩
    refine ⟨(sm_F1_tr (sm_F1_le h471_ (Int.le_refl _)) h593_ h464_), ?_⟩
    refine ⟨(sm_F1_tr (sm_F1_le h472_ (Int.le_refl _)) h594_ h464_), ?_⟩
    refine ⟨(sm_F1_tr (sm_F1_le h473_ (Int.le_refl _)) h595_ (la_behind_77 h464_)), ?_⟩
    refine ⟨(sm_F1_tr (sm_F1_le h474_ (Int.le_refl _)) h596_ (la_behind_77 h464_)), ?_⟩
    refine ⟨(sm_F1_tr (sm_F1_le h475_ (Int.le_refl _)) h597_ (la_behind_77 h464_)), ?_⟩
    refine ⟨(sm_F1_tr (sm_F1_le h476_ (Int.le_refl _)) h598_ (la_behind_77 h464_)), ?_⟩
    refine ⟨(sm_F1_tr (sm_F1_up sm_F1_rf (la_behind_79 h90_)) h599_ (la_behind_78 h90_ h91_)), ?_⟩
    refine ⟨(sm_F1_tr (sm_F1_up sm_F1_rf (la_behind_79 h90_)) h600_ (la_behind_78 h90_ h91_)), ?_⟩
    refine ⟨(sm_F1_tr (sm_F1_up sm_F1_rf (la_behind_79 h90_)) h601_ (la_behind_78 h90_ h91_)), ?_⟩
    refine ⟨(sm_F1_tr (sm_F1_up sm_F1_rf (la_behind_79 h90_)) h602_ (la_behind_78 h90_ h91_)), ?_⟩
    refine ⟨(sm_F1_tr (sm_F1_tr (sm_F1_up sm_F1_rf (la_behind_79 h90_)) h603_ (la_behind_78 h90_ h91_)) (sm_F1_ne h692_ (Int.le_refl _)) (la_behind_79 h90_)), ?_⟩
    refine ⟨(sm_F1_tr (sm_F1_le h604_ (la_behind_78 h90_ h91_)) (sm_F1_ne h693_ (Int.le_refl _)) (la_behind_79 h90_)), ?_⟩
    refine ⟨(la_behind_80 h90_ h91_ h605_), ?_⟩
    refine ⟨h606_, ?_⟩
    refine ⟨h607_, ?_⟩
    refine ⟨(la_behind_81 h25_ h90_ h91_ h605_), ?_⟩
    refine ⟨(la_behind_82 h15_ (sm_ex_e h77_).2.2.2.1 h85_ h90_ h91_ h461_ h462_ h464_ h608_ h609_), ?_⟩
    intro h694_
    have h695_ : ¬ (g63 1047 0 = 1) := fun q_ => (la_behind_43 h694_) (h590_ q_)
    obtain ⟨h696_, ⟨h697_, ⟨h698_, ⟨h699_, ⟨h700_, ⟨h701_, ⟨h702_, ⟨h703_, ⟨h704_, ⟨h705_, ⟨h706_, ⟨h707_, ⟨h708_, ⟨h709_, ⟨h710_, ⟨h711_, -⟩⟩⟩⟩⟩⟩⟩⟩⟩⟩⟩⟩⟩⟩⟩⟩ := (h610_ h694_)
    have h712_ := (h690_ h694_)
    have h713_ := (h609_ h696_)
    obtain ⟨h714_, ⟨h715_, ⟨h716_, ⟨h717_, ⟨h718_, ⟨h719_, ⟨h720_, ⟨h721_, ⟨h722_, ⟨h723_, ⟨h724_, ⟨h725_, ⟨h726_, h727_⟩⟩⟩⟩⟩⟩⟩⟩⟩⟩⟩⟩⟩ := (h477_ h696_)
    have h728_ := (h727_ la_behind_120)
    have h729_ := (h728_ la_behind_122)
    refine ⟨h25_, ?_⟩
    refine ⟨h712_, ?_⟩
    refine ⟨h698_, ?_⟩
    refine ⟨h699_, ?_⟩
    refine ⟨h700_, ?_⟩
    refine ⟨(la_behind_83 h701_ h715_), ?_⟩
    refine ⟨(sm_FC_1 (((sm_F1_at h594_ (S 1046 0) (la_behind_30 h715_)).trans rfl).trans h719_) (sm_FC_F h702_ sm_F1_rf (Int.le_refl _) h465_ (Int.le_refl _) rfl)), ?_⟩
    refine ⟨(la_behind_84 h415_ h703_ h720_ (sm_dl_23 : sm_dl 23 r25 = (-1))), ?_⟩
    refine ⟨(la_behind_71 h704_ h721_ (sm_nt_23 : sm_nt 23 (S 1046 0) (S 1100023 (S 1046 0)) (S 1100023 (S 1100023 (S 1046 0))) = S 1100023 (S 1046 0))), ?_⟩
    refine ⟨(la_behind_71 h705_ h722_ (sm_nd_23 : sm_nd 23 (S 1100024 (S 1046 0)) = S 1100024 (S 1046 0))), ?_⟩
    refine ⟨(la_behind_71 h706_ h723_ (sm_nl_23 : sm_nl 23 (S 1046 0) (S 1100007 (S 1046 0)) (S 1100025 (S 1046 0)) (S 1100007 (S 1100025 (S 1046 0))) (S 1100025 (S 1100025 (S 1046 0))) = S 1100025 (S 1046 0))), ?_⟩
    refine ⟨(la_behind_71 h707_ h724_ (sm_nt_23 : sm_nt 23 (S 1100007 (S 1046 0)) (S 1100007 (S 1100023 (S 1046 0))) (S 1100007 (S 1100023 (S 1100023 (S 1046 0)))) = S 1100007 (S 1100023 (S 1046 0)))), ?_⟩
    refine ⟨(la_behind_70 h708_ h729_), ?_⟩
    refine ⟨(sm_AP_1 ((congrArg (fun z : Int => g77 1100030 z) (la_behind_8 h90_)).trans h691_) (sm_AP_o (sm_AP_F h709_ sm_F1_rf (Int.le_refl _) (la_behind_85 h90_ h91_) (Int.le_refl _)) h692_ (la_behind_87 h90_))), ?_⟩
    refine ⟨(sm_HB_1 (by rw [((sm_F1_at h595_ (S 1046 0) (la_behind_88 h715_)).trans ((sm_F1_at h473_ (S 1046 0) la_behind_89).trans rfl))]; exact (la_behind_90 h52_ h415_ h701_ h715_)) (sm_HB_1 (by rw [((sm_F1_at h595_ (S 1046 0 + 1) (la_behind_91 h715_)).trans ((congrArg (g63 1100007) (la_behind_92 h465_ h715_)).trans h720_))]; exact (la_behind_93 h52_ h415_ h701_ h715_ (sm_dl_23 : sm_dl 23 r25 = (-1)))) (sm_HB_F h710_ sm_F1_rf (Int.le_refl _) (la_behind_94 h465_) (Int.le_refl _) (la_behind_96 (sm_ex_e h77_).2.2.2.2 h415_ h715_ h720_ (sm_dl_23 : sm_dl 23 r25 = (-1)))))), ?_⟩
    refine ⟨(la_behind_97 h90_ h91_ h711_ h715_), ?_⟩
    exact trivial
  refine ⟨?_, ?_⟩
  · skip
    intro h730_
    have h731_ := (h23_.resolve_right (la_behind_123 h730_))
    have h732_ := (h38_ (la_behind_124 h730_))
    have h733_ := (h50_ h730_)
    intro h734_
    have h735_ := (h734_ (la_behind_8 h54_))
    have h736_ := (h735_ h3_)
    have h737_ := (h736_ h20_)
    have h738_ := (h737_ h21_)
    have h739_ := (h738_ h22_)
    obtain ⟨h740_, ⟨h741_, h742_⟩⟩ := (h739_ h730_)
    intro h743_
    have h744_ := (h743_ (la_behind_8 h54_))
    have h745_ := (h744_ h3_)
    have h746_ := (h745_ h20_)
    obtain ⟨h747_, ⟨h748_, ⟨h749_, h750_⟩⟩⟩ := (h746_ h21_)
    obtain ⟨h751_, ⟨h752_, ⟨h753_, h754_⟩⟩⟩ := (h747_ h22_)
    have h755_ := (h752_ h730_)
    intro h756_
    have h757_ := (h756_ h3_)
    have h758_ := (h757_ (sm_ex_e h742_).1)
    obtain ⟨h759_, ⟨h760_, ⟨h761_, h762_⟩⟩⟩ := (h758_ (sm_ex_e h742_).2.1)
    obtain ⟨h763_, ⟨h764_, ⟨h765_, h766_⟩⟩⟩ := (h759_ (sm_ex_e h742_).2.2.1)
    refine ⟨?_, ?_⟩
    · skip
      refine ⟨h14_, ?_⟩
      refine ⟨h15_, ?_⟩
      refine ⟨h16_, ?_⟩
      refine ⟨h17_, ?_⟩
      intro h767_
      refine ⟨h28_, ?_⟩
      refine ⟨la_behind_126, ?_⟩
      refine ⟨la_behind_127, ?_⟩
      refine ⟨(sm_ci_17 (la_behind_128 h26_ h32_ h33_ h40_ h732_ (sm_dl_17 : sm_dl 17 0 = (-1)) (sm_nt_17 : sm_nt 17 (S 1046 0) (S 1100023 (S 1046 0)) (S 1100023 (S 1100023 (S 1046 0))) = S 1100023 (S 1046 0)) (sm_nl_17b : (0 ≤ S 1100025 (S 1046 0) → S 1100007 (S 1100025 (S 1046 0)) < S 1100007 (S 1046 0)) → sm_nl 17 (S 1046 0) (S 1100007 (S 1046 0)) (S 1100025 (S 1046 0)) (S 1100007 (S 1100025 (S 1046 0))) (S 1100025 (S 1100025 (S 1046 0))) = S 1100025 (S 1046 0)))), ?_⟩
      refine ⟨la_behind_129, ?_⟩
      intro h768_
      have h769_ := (h768_.resolve_left la_behind_130)
      have e770_ : S 11 p1 = S 11 (S 12 (5 * p1)) := congrArg ((S 11)) (la_behind_131 h769_)
      have e771_ : S 11 x11 = S 11 (S 12 (5 * p1)) := congrArg ((S 11)) (la_behind_131 h769_)
      have e772_ : S 11 x11 = S 11 p1 := congrArg ((S 11)) (la_behind_131 h769_)
      have e773_ : S 1100001 p1 = S 1100001 (S 12 (5 * p1)) := congrArg ((S 1100001)) (la_behind_131 h769_)
      have e774_ : S 1100001 x11 = S 1100001 (S 12 (5 * p1)) := congrArg ((S 1100001)) (la_behind_131 h769_)
      have e775_ : S 1100001 x11 = S 1100001 p1 := congrArg ((S 1100001)) (la_behind_131 h769_)
      have e776_ : S 1100002 p1 = S 1100002 (S 12 (5 * p1)) := congrArg ((S 1100002)) (la_behind_131 h769_)
      have e777_ : S 1100002 x11 = S 1100002 (S 12 (5 * p1)) := congrArg ((S 1100002)) (la_behind_131 h769_)
      have e778_ : S 1100002 x11 = S 1100002 p1 := congrArg ((S 1100002)) (la_behind_131 h769_)
      have e779_ : S 1100005 p1 = S 1100005 (S 12 (5 * p1)) := congrArg ((S 1100005)) (la_behind_131 h769_)
      have e780_ : S 1100005 x11 = S 1100005 (S 12 (5 * p1)) := congrArg ((S 1100005)) (la_behind_131 h769_)
      have e781_ : S 1100005 x11 = S 1100005 p1 := congrArg ((S 1100005)) (la_behind_131 h769_)
      have e782_ : S 1100007 (S 1100023 (S 1046 0)) = S 1100007 (S 1046 0) := congrArg ((S 1100007)) (la_behind_131 h769_)
      have e783_ : S 1100007 (S 1100025 (S 1046 0)) = S 1100007 (S 1046 0) := congrArg ((S 1100007)) (la_behind_131 h769_)
      have e784_ : S 1100007 (S 1100025 (S 1046 0)) = S 1100007 (S 1100023 (S 1046 0)) := congrArg ((S 1100007)) (la_behind_131 h769_)
      have e785_ : S 1100023 (S 1100023 (S 1046 0)) = S 1100023 (S 1046 0) := congrArg ((S 1100023)) (la_behind_131 h769_)
      have e786_ : S 1100025 (S 1100025 (S 1046 0)) = S 1100025 (S 1046 0) := congrArg ((S 1100025)) (la_behind_131 h769_)
      have e787_ : S 12 (5 * p1 + 0) = S 12 (5 * p1) := congrArg ((S 12)) la_behind_26
      have e788_ : S 12 (5 * p1 + 1) = S 12 (5 * p1) := congrArg ((S 12)) (la_behind_132 h769_)
      have e789_ : S 12 (5 * p1 + 1) = S 12 (5 * p1 + 0) := congrArg ((S 12)) (la_behind_133 h769_)
      have e790_ : S 12 (5 * x11 + 1) = S 12 (5 * p1) := congrArg ((S 12)) (la_behind_134 h769_)
      have e791_ : S 12 (5 * x11 + 1) = S 12 (5 * p1 + 0) := congrArg ((S 12)) (la_behind_135 h769_)
      have e792_ : S 12 (5 * x11 + 1) = S 12 (5 * p1 + 1) := congrArg ((S 12)) (la_behind_136 h769_)
      have h793_ := (h32_ (la_behind_137 h769_))
      have h794_ := (h33_ (la_behind_137 h769_))
      have h795_ := (h39_ (la_behind_138 h769_))
      have h796_ := (h764_ (la_behind_139 h769_))
      have h797_ := (h765_ (la_behind_140 h769_))
      have h798_ := ((sm_nl_17b : (0 ≤ S 1100025 (S 1046 0) → S 1100007 (S 1100025 (S 1046 0)) < S 1100007 (S 1046 0)) → sm_nl 17 (S 1046 0) (S 1100007 (S 1046 0)) (S 1100025 (S 1046 0)) (S 1100007 (S 1100025 (S 1046 0))) (S 1100025 (S 1100025 (S 1046 0))) = S 1100025 (S 1046 0)) (la_behind_141 h769_))
      exact ((la_behind_142 h769_)).elim
    refine ⟨(la_behind_143 h15_ h49_), ?_⟩
    intro g87
    rintro ⟨h799_, ⟨h800_, ⟨h801_, ⟨h802_, ⟨h803_, ⟨h804_, ⟨h805_, ⟨h806_, ⟨h807_, ⟨h808_, ⟨h809_, ⟨h810_, ⟨h811_, ⟨h812_, ⟨h813_, ⟨h814_, h815_⟩⟩⟩⟩⟩⟩⟩⟩⟩⟩⟩⟩⟩⟩⟩⟩
    refine ⟨?_, ?_⟩
    · skip
      refine ⟨h3_, ?_⟩
      refine ⟨h4_, ?_⟩
      refine ⟨h5_, ?_⟩
      refine ⟨h6_, ?_⟩
      refine ⟨h7_, ?_⟩
      refine ⟨h8_, ?_⟩
      refine ⟨h9_, ?_⟩
      refine ⟨h10_, ?_⟩
      refine ⟨h11_, ?_⟩
      refine ⟨h12_, ?_⟩
      refine ⟨h13_, ?_⟩
      refine ⟨(la_behind_44 h801_), ?_⟩
      refine ⟨h804_, ?_⟩
      refine ⟨h799_, ?_⟩
      refine ⟨h800_, ?_⟩
      refine ⟨h18_, ?_⟩
      refine ⟨h19_, ?_⟩
      refine ⟨(sm_ex_e h742_).1, ?_⟩
      refine ⟨(sm_ex_e h742_).2.1, ?_⟩
      refine ⟨(sm_ex_e h742_).2.2.1, ?_⟩
      refine ⟨(sm_LF_w h24_ sm_F1_rf (Int.le_refl _) (Int.le_refl _) h19_ (la_behind_144 (sm_ex_e h742_).2.2.2.1 h755_)), ?_⟩
      intro h816_
      obtain ⟨h817_, ⟨h818_, ⟨h819_, ⟨h820_, ⟨h821_, ⟨h822_, ⟨h823_, ⟨h824_, ⟨h825_, ⟨h826_, ⟨h827_, ⟨h828_, ⟨h829_, h830_⟩⟩⟩⟩⟩⟩⟩⟩⟩⟩⟩⟩⟩ := (h815_ h816_)
      have h831_ := (h829_ la_behind_146)
      have h832_ := (h830_ la_behind_145)
      refine ⟨h819_, ?_⟩
      refine ⟨h29_, ?_⟩
      refine ⟨h30_, ?_⟩
      refine ⟨(la_behind_49 h31_ h818_), ?_⟩
      refine ⟨(la_behind_50 h32_ h40_ h823_ (sm_dl_17 : sm_dl 17 0 = (-1)) h824_ (sm_nt_17 : sm_nt 17 (S 1046 0) (S 1100023 (S 1046 0)) (S 1100023 (S 1100023 (S 1046 0))) = S 1100023 (S 1046 0)) h827_ (sm_nt_17 : sm_nt 17 (S 1100007 (S 1046 0)) (S 1100007 (S 1100023 (S 1046 0))) (S 1100007 (S 1100023 (S 1100023 (S 1046 0)))) = S 1100007 (S 1100023 (S 1046 0)))), ?_⟩
      refine ⟨?_, ?_⟩
      · skip
        intro h833_
        have e834_ : S 1100007 (g87 1100023 (g87 1046 0)) = S 1100007 (S 1100023 (S 1046 0)) := congrArg ((S 1100007)) (la_behind_70 h824_ (sm_nt_17 : sm_nt 17 (S 1046 0) (S 1100023 (S 1046 0)) (S 1100023 (S 1100023 (S 1046 0))) = S 1100023 (S 1046 0)))
        have e835_ : S 1100007 (g87 1100025 (g87 1046 0)) = S 1100007 (S 1100025 (S 1046 0)) := congrArg ((S 1100007)) (la_behind_148 h33_ h40_ h732_ h826_ (sm_nl_17b : (0 ≤ S 1100025 (S 1046 0) → S 1100007 (S 1100025 (S 1046 0)) < S 1100007 (S 1046 0)) → sm_nl 17 (S 1046 0) (S 1100007 (S 1046 0)) (S 1100025 (S 1046 0)) (S 1100007 (S 1100025 (S 1046 0))) (S 1100025 (S 1100025 (S 1046 0))) = S 1100025 (S 1046 0)) h833_)
        have e836_ : S 12 (5 * p1 + 0) = S 12 (5 * p1) := congrArg ((S 12)) la_behind_26
        exact (la_behind_149 h33_ h40_ h823_ (sm_dl_17 : sm_dl 17 0 = (-1)) h826_ (sm_nl_17b : (0 ≤ S 1100025 (S 1046 0) → S 1100007 (S 1100025 (S 1046 0)) < S 1100007 (S 1046 0)) → sm_nl 17 (S 1046 0) (S 1100007 (S 1046 0)) (S 1100025 (S 1046 0)) (S 1100007 (S 1100025 (S 1046 0))) (S 1100025 (S 1100025 (S 1046 0))) = S 1100025 (S 1046 0)) h833_ (sm_F1_at h811_ (g87 1100025 (g87 1046 0)) (la_behind_147 h803_ (sm_KC_n h819_).2.1.2.2.2.2.2.2.2)) e835_)
      refine ⟨(la_behind_52 h34_ h818_ h823_ (sm_dl_17 : sm_dl 17 0 = (-1))), ?_⟩
      exact (la_behind_150 h35_ (sm_ex_e h742_).2.2.2.1 h818_)
    refine ⟨?_, ?_⟩
    · skip
      refine ⟨?_, ?_⟩
      · skip
        have e837_ : S 12 (5 * p1 + 0) = S 12 (5 * p1) := congrArg ((S 12)) la_behind_26
        by_cases c838_ : g87 1047 0 = 0
        · skip
          have e839_ : (if g87 1047 0 = 0 then S 1100002 x11 + (600 - g87 1046 0) + 8 else 4 : Int) = S 1100002 x11 + (600 - g87 1046 0) + 8 := if_pos c838_
          obtain ⟨h840_, ⟨h841_, ⟨h842_, ⟨h843_, ⟨h844_, ⟨h845_, ⟨h846_, ⟨h847_, ⟨h848_, ⟨h849_, ⟨h850_, ⟨h851_, ⟨h852_, h853_⟩⟩⟩⟩⟩⟩⟩⟩⟩⟩⟩⟩⟩ := (h815_ c838_)
          have h854_ := (h852_ la_behind_146)
          have h855_ := (h853_ la_behind_145)
          exact (la_behind_54 h763_ h804_ e839_)
        · skip
          have e856_ : (if g87 1047 0 = 0 then S 1100002 x11 + (600 - g87 1046 0) + 8 else 4 : Int) = 4 := if_neg c838_
          have h857_ := (h806_ (la_behind_56 h800_ (la_behind_55 h799_ c838_)))
          have h858_ := (h857_.resolve_left (la_behind_43 h25_))
          exact (la_behind_57 e856_)
      have e859_ : S 12 (5 * p1 + 0) = S 12 (5 * p1) := congrArg ((S 12)) la_behind_26
      by_cases c860_ : g87 1047 0 = 1
      · skip
        have e861_ : (if g87 1047 0 = 0 then S 1100002 x11 + (600 - g87 1046 0) + 8 else 4 : Int) = 4 := if_neg (la_behind_58 c860_)
        have h862_ := (h806_ c860_)
        have h863_ := (h862_.resolve_left (la_behind_43 h25_))
        exact (la_behind_151 h36_ h49_ e861_ h863_)
      · skip
        obtain ⟨h864_, ⟨h865_, ⟨h866_, ⟨h867_, ⟨h868_, ⟨h869_, ⟨h870_, ⟨h871_, ⟨h872_, ⟨h873_, ⟨h874_, ⟨h875_, ⟨h876_, h877_⟩⟩⟩⟩⟩⟩⟩⟩⟩⟩⟩⟩⟩ := (h815_ (la_behind_61 h799_ (la_behind_60 h800_ c860_)))
        have e878_ : (if g87 1047 0 = 0 then S 1100002 x11 + (600 - g87 1046 0) + 8 else 4 : Int) = S 1100002 x11 + (600 - g87 1046 0) + 8 := if_pos (la_behind_61 h799_ (la_behind_60 h800_ c860_))
        have h879_ := (h876_ la_behind_146)
        have h880_ := (h877_ la_behind_145)
        exact (la_behind_152 h36_ (sm_ex_e h742_).2.2.2.1 h865_ e878_)
    refine ⟨?_, ?_⟩
    · skip
      refine ⟨?_, ?_⟩
      · skip
        have e881_ : S 12 (5 * p1 + 0) = S 12 (5 * p1) := congrArg ((S 12)) la_behind_26
        by_cases c882_ : g87 1047 0 = 0
        · skip
          have e883_ : (if g87 1047 0 = 0 then S 1100002 x11 + (600 - g87 1046 0) + 8 else 4 : Int) = S 1100002 x11 + (600 - g87 1046 0) + 8 := if_pos c882_
          obtain ⟨h884_, ⟨h885_, ⟨h886_, ⟨h887_, ⟨h888_, ⟨h889_, ⟨h890_, ⟨h891_, ⟨h892_, ⟨h893_, ⟨h894_, ⟨h895_, ⟨h896_, h897_⟩⟩⟩⟩⟩⟩⟩⟩⟩⟩⟩⟩⟩ := (h815_ c882_)
          have h898_ := (h896_ la_behind_146)
          have h899_ := (h897_ la_behind_145)
          exact (la_behind_54 h763_ h804_ e883_)
        · skip
          have e900_ : (if g87 1047 0 = 0 then S 1100002 x11 + (600 - g87 1046 0) + 8 else 4 : Int) = 4 := if_neg c882_
          have h901_ := (h806_ (la_behind_56 h800_ (la_behind_55 h799_ c882_)))
          have h902_ := (h901_.resolve_left (la_behind_43 h25_))
          exact (la_behind_57 e900_)
      have e903_ : S 12 (5 * p1 + 0) = S 12 (5 * p1) := congrArg ((S 12)) la_behind_26
      by_cases c904_ : g87 1047 0 = 1
      · skip
        have e905_ : (if g87 1047 0 = 0 then S 1100002 x11 + (600 - g87 1046 0) + 8 else 4 : Int) = 4 := if_neg (la_behind_58 c904_)
        have h906_ := (h806_ c904_)
        have h907_ := (h906_.resolve_left (la_behind_43 h25_))
        exact (la_behind_63 h49_ e905_ h907_)
      · skip
        obtain ⟨h908_, ⟨h909_, ⟨h910_, ⟨h911_, ⟨h912_, ⟨h913_, ⟨h914_, ⟨h915_, ⟨h916_, ⟨h917_, ⟨h918_, ⟨h919_, ⟨h920_, h921_⟩⟩⟩⟩⟩⟩⟩⟩⟩⟩⟩⟩⟩ := (h815_ (la_behind_61 h799_ (la_behind_60 h800_ c904_)))
        have e922_ : (if g87 1047 0 = 0 then S 1100002 x11 + (600 - g87 1046 0) + 8 else 4 : Int) = S 1100002 x11 + (600 - g87 1046 0) + 8 := if_pos (la_behind_61 h799_ (la_behind_60 h800_ c904_))
        have h923_ := (h920_ la_behind_146)
        have h924_ := (h921_ la_behind_145)
        exact (la_behind_153 (sm_ex_e h742_).2.2.2.1 h909_ e922_)
    intro g95
    rintro ⟨h925_, ⟨h926_, ⟨h927_, ⟨h928_, ⟨h929_, ⟨h930_, ⟨h931_, ⟨h932_, ⟨h933_, ⟨h934_, ⟨h935_, ⟨h936_, ⟨h937_, ⟨h938_, ⟨h939_, ⟨h940_, ⟨h941_, ⟨h942_, ⟨h943_, ⟨h944_, ⟨h945_, ⟨h946_, ⟨h947_, ⟨h948_, ⟨h949_, ⟨h950_, ⟨h951_, h952_⟩⟩⟩⟩⟩⟩⟩⟩⟩⟩⟩⟩⟩⟩⟩⟩⟩⟩⟩⟩⟩⟩⟩⟩⟩⟩⟩
    refine ⟨h925_, ?_⟩
    refine ⟨h926_, ?_⟩
    refine ⟨h927_, ?_⟩
    refine ⟨h928_, ?_⟩
    refine ⟨h929_, ?_⟩
    refine ⟨h930_, ?_⟩
    refine ⟨(la_behind_75 h802_ h931_), ?_⟩
    refine ⟨(la_behind_154 h25_ h928_), ?_⟩
    refine ⟨(sm_F1_tr (sm_F1_le h807_ (Int.le_refl _)) h933_ h802_), ?_⟩
    refine ⟨(sm_F1_tr (sm_F1_le h808_ (Int.le_refl _)) h934_ h802_), ?_⟩
    refine ⟨(sm_F1_tr (sm_F1_le h809_ (Int.le_refl _)) h935_ h802_), ?_⟩
    refine ⟨(sm_F1_tr (sm_F1_le h810_ (Int.le_refl _)) h936_ h802_), ?_⟩
    refine ⟨(sm_F1_tr (sm_F1_le h811_ (Int.le_refl _)) h937_ (la_behind_77 h802_)), ?_⟩
    refine ⟨(sm_F1_tr (sm_F1_le h812_ (Int.le_refl _)) h938_ (la_behind_77 h802_)), ?_⟩
    refine ⟨(sm_F1_tr (sm_F1_le h813_ (Int.le_refl _)) h939_ (la_behind_77 h802_)), ?_⟩
    refine ⟨(sm_F1_tr (sm_F1_le h814_ (Int.le_refl _)) h940_ (la_behind_77 h802_)), ?_⟩
    refine ⟨h941_, ?_⟩
    refine ⟨h942_, ?_⟩
    refine ⟨h943_, ?_⟩
    refine ⟨h944_, ?_⟩
    refine ⟨h945_, ?_⟩
    refine ⟨h946_, ?_⟩
    refine ⟨h947_, ?_⟩
    refine ⟨h948_, ?_⟩
    refine ⟨h949_, ?_⟩
    refine ⟨(la_behind_155 h25_), ?_⟩
    refine ⟨(la_behind_156 h15_ h49_ (sm_ex_e h742_).2.2.2.1 h799_ h800_ h802_ h950_ h951_), ?_⟩
    intro h953_
    have h954_ : ¬ (g87 1047 0 = 1) := fun q_ => (la_behind_43 h953_) (h932_ q_)
    obtain ⟨h955_, ⟨h956_, ⟨h957_, ⟨h958_, ⟨h959_, ⟨h960_, ⟨h961_, ⟨h962_, ⟨h963_, ⟨h964_, ⟨h965_, ⟨h966_, ⟨h967_, ⟨h968_, ⟨h969_, ⟨h970_, -⟩⟩⟩⟩⟩⟩⟩⟩⟩⟩⟩⟩⟩⟩⟩⟩ := (h952_ h953_)
    have h971_ := (h951_ h955_)
    obtain ⟨h972_, ⟨h973_, ⟨h974_, ⟨h975_, ⟨h976_, ⟨h977_, ⟨h978_, ⟨h979_, ⟨h980_, ⟨h981_, ⟨h982_, ⟨h983_, ⟨h984_, h985_⟩⟩⟩⟩⟩⟩⟩⟩⟩⟩⟩⟩⟩ := (h815_ h955_)
    have h986_ := (h984_ la_behind_146)
    have h987_ := (h985_ la_behind_145)
    refine ⟨h25_, ?_⟩
    refine ⟨h956_, ?_⟩
    refine ⟨h957_, ?_⟩
    refine ⟨h958_, ?_⟩
    refine ⟨h959_, ?_⟩
    refine ⟨(la_behind_83 h960_ h973_), ?_⟩
    refine ⟨(sm_FC_1 (((sm_F1_at h936_ (S 1046 0) (la_behind_30 h973_)).trans rfl).trans h977_) (sm_FC_F h961_ sm_F1_rf (Int.le_refl _) h803_ (Int.le_refl _) rfl)), ?_⟩
    refine ⟨(la_behind_84 h732_ h962_ h978_ (sm_dl_17 : sm_dl 17 0 = (-1))), ?_⟩
    refine ⟨(la_behind_71 h963_ h979_ (sm_nt_17 : sm_nt 17 (S 1046 0) (S 1100023 (S 1046 0)) (S 1100023 (S 1100023 (S 1046 0))) = S 1100023 (S 1046 0))), ?_⟩
    refine ⟨(la_behind_71 h964_ h980_ (sm_nd_17 : sm_nd 17 (S 1100024 (S 1046 0)) = S 1100024 (S 1046 0))), ?_⟩
    refine ⟨?_, ?_⟩
    · skip
      have e988_ : S 1100007 (g87 1100023 (g87 1046 0)) = S 1100007 (S 1100023 (S 1046 0)) := congrArg ((S 1100007)) (la_behind_70 h979_ (sm_nt_17 : sm_nt 17 (S 1046 0) (S 1100023 (S 1046 0)) (S 1100023 (S 1100023 (S 1046 0))) = S 1100023 (S 1046 0)))
      have e989_ : S 1100007 (g87 1100025 (g87 1046 0)) = S 1100007 (S 1100025 (S 1046 0)) := congrArg ((S 1100007)) (la_behind_158 h33_ h732_ (sm_KC_n h974_).2.1.2.2.2.2.2.2.1 h981_ (sm_nl_17b : (0 ≤ S 1100025 (S 1046 0) → S 1100007 (S 1100025 (S 1046 0)) < S 1100007 (S 1046 0)) → sm_nl 17 (S 1046 0) (S 1100007 (S 1046 0)) (S 1100025 (S 1046 0)) (S 1100007 (S 1100025 (S 1046 0))) (S 1100025 (S 1100025 (S 1046 0))) = S 1100025 (S 1046 0)))
      have e990_ : S 1100007 (g95 1100023 (g95 1046 0)) = S 1100007 (S 1100023 (S 1046 0)) := congrArg ((S 1100007)) (la_behind_71 h963_ h979_ (sm_nt_17 : sm_nt 17 (S 1046 0) (S 1100023 (S 1046 0)) (S 1100023 (S 1100023 (S 1046 0))) = S 1100023 (S 1046 0)))
      have e991_ : S 1100007 (g95 1100023 (g95 1046 0)) = S 1100007 (g87 1100023 (g87 1046 0)) := congrArg ((S 1100007)) h963_
      have e992_ : S 1100007 (g95 1100025 (g95 1046 0)) = S 1100007 (S 1100025 (S 1046 0)) := congrArg ((S 1100007)) (la_behind_159 h33_ h40_ (sm_KC_n h956_).2.1.2.2.2.2.2.2.1 h965_ h981_ (sm_nl_17b : (0 ≤ S 1100025 (S 1046 0) → S 1100007 (S 1100025 (S 1046 0)) < S 1100007 (S 1046 0)) → sm_nl 17 (S 1046 0) (S 1100007 (S 1046 0)) (S 1100025 (S 1046 0)) (S 1100007 (S 1100025 (S 1046 0))) (S 1100025 (S 1100025 (S 1046 0))) = S 1100025 (S 1046 0)))
      have e993_ : S 1100007 (g95 1100025 (g95 1046 0)) = S 1100007 (g87 1100025 (g87 1046 0)) := congrArg ((S 1100007)) h965_
      have e994_ : S 12 (5 * p1 + 0) = S 12 (5 * p1) := congrArg ((S 12)) la_behind_26
      have e995_ : g87 1100007 (g95 1100023 (g95 1046 0)) = g87 1100007 (g87 1100023 (g87 1046 0)) := congrArg ((g87 1100007)) h963_
      have e996_ : g87 1100007 (g95 1100025 (g95 1046 0)) = g87 1100007 (g87 1100025 (g87 1046 0)) := congrArg ((g87 1100007)) h965_
      exact (la_behind_160 h33_ h40_ h732_ (sm_KC_n h956_).2.1.2.2.2.2.2.2.1 h965_ h981_ (sm_nl_17b : (0 ≤ S 1100025 (S 1046 0) → S 1100007 (S 1100025 (S 1046 0)) < S 1100007 (S 1046 0)) → sm_nl 17 (S 1046 0) (S 1100007 (S 1046 0)) (S 1100025 (S 1046 0)) (S 1100007 (S 1100025 (S 1046 0))) (S 1100025 (S 1100025 (S 1046 0))) = S 1100025 (S 1046 0)))
    refine ⟨(la_behind_71 h966_ h982_ (sm_nt_17 : sm_nt 17 (S 1100007 (S 1046 0)) (S 1100007 (S 1100023 (S 1046 0))) (S 1100007 (S 1100023 (S 1100023 (S 1046 0)))) = S 1100007 (S 1100023 (S 1046 0)))), ?_⟩
    refine ⟨?_, ?_⟩
    · skip
      have e997_ : S 1100007 (g87 1100023 (g87 1046 0)) = S 1100007 (S 1100023 (S 1046 0)) := congrArg ((S 1100007)) (la_behind_70 h979_ (sm_nt_17 : sm_nt 17 (S 1046 0) (S 1100023 (S 1046 0)) (S 1100023 (S 1100023 (S 1046 0))) = S 1100023 (S 1046 0)))
      have e998_ : S 1100007 (g87 1100025 (g87 1046 0)) = S 1100007 (S 1100025 (S 1046 0)) := congrArg ((S 1100007)) (la_behind_158 h33_ h732_ (sm_KC_n h974_).2.1.2.2.2.2.2.2.1 h981_ (sm_nl_17b : (0 ≤ S 1100025 (S 1046 0) → S 1100007 (S 1100025 (S 1046 0)) < S 1100007 (S 1046 0)) → sm_nl 17 (S 1046 0) (S 1100007 (S 1046 0)) (S 1100025 (S 1046 0)) (S 1100007 (S 1100025 (S 1046 0))) (S 1100025 (S 1100025 (S 1046 0))) = S 1100025 (S 1046 0)))
      have e999_ : S 1100007 (g95 1100023 (g95 1046 0)) = S 1100007 (S 1100023 (S 1046 0)) := congrArg ((S 1100007)) (la_behind_71 h963_ h979_ (sm_nt_17 : sm_nt 17 (S 1046 0) (S 1100023 (S 1046 0)) (S 1100023 (S 1100023 (S 1046 0))) = S 1100023 (S 1046 0)))
      have e1000_ : S 1100007 (g95 1100023 (g95 1046 0)) = S 1100007 (g87 1100023 (g87 1046 0)) := congrArg ((S 1100007)) h963_
      have e1001_ : S 1100007 (g95 1100025 (g95 1046 0)) = S 1100007 (S 1100025 (S 1046 0)) := congrArg ((S 1100007)) (la_behind_159 h33_ h40_ (sm_KC_n h956_).2.1.2.2.2.2.2.2.1 h965_ h981_ (sm_nl_17b : (0 ≤ S 1100025 (S 1046 0) → S 1100007 (S 1100025 (S 1046 0)) < S 1100007 (S 1046 0)) → sm_nl 17 (S 1046 0) (S 1100007 (S 1046 0)) (S 1100025 (S 1046 0)) (S 1100007 (S 1100025 (S 1046 0))) (S 1100025 (S 1100025 (S 1046 0))) = S 1100025 (S 1046 0)))
      have e1002_ : S 1100007 (g95 1100025 (g95 1046 0)) = S 1100007 (g87 1100025 (g87 1046 0)) := congrArg ((S 1100007)) h965_
      have e1003_ : S 12 (5 * p1 + 0) = S 12 (5 * p1) := congrArg ((S 12)) la_behind_26
      have e1004_ : g87 1100007 (g95 1100023 (g95 1046 0)) = g87 1100007 (g87 1100023 (g87 1046 0)) := congrArg ((g87 1100007)) h963_
      have e1005_ : g87 1100007 (g95 1100025 (g95 1046 0)) = g87 1100007 (g87 1100025 (g87 1046 0)) := congrArg ((g87 1100007)) h965_
      exact (la_behind_71 (sm_F1_at h937_ (g95 1100025 (g95 1046 0)) (la_behind_68 h965_ (sm_KC_n h974_).2.1.2.2.2.2.2.2.2)) (sm_F1_at h811_ (g95 1100025 (g95 1046 0)) (la_behind_157 h803_ h965_ (sm_KC_n h974_).2.1.2.2.2.2.2.2.2)) e1001_)
    refine ⟨h968_, ?_⟩
    refine ⟨(sm_HB_1 (by rw [((sm_F1_at h937_ (S 1046 0) (la_behind_88 h973_)).trans ((sm_F1_at h811_ (S 1046 0) la_behind_89).trans rfl))]; exact (la_behind_90 h52_ h732_ h960_ h973_)) (sm_HB_1 (by rw [((sm_F1_at h937_ (S 1046 0 + 1) (la_behind_91 h973_)).trans ((congrArg (g87 1100007) (la_behind_92 h803_ h973_)).trans h978_))]; exact (la_behind_93 h52_ h732_ h960_ h973_ (sm_dl_17 : sm_dl 17 0 = (-1)))) (sm_HB_F h969_ sm_F1_rf (Int.le_refl _) (la_behind_94 h803_) (Int.le_refl _) (la_behind_161 h732_ (sm_ex_e h742_).2.2.2.2 h973_ h978_ (sm_dl_17 : sm_dl 17 0 = (-1)))))), ?_⟩
    refine ⟨(la_behind_162 h970_ h973_), ?_⟩
    exact trivial
  refine ⟨?_, ?_⟩
  · skip
    intro h1006_
    have h1007_ := (h23_.resolve_left (la_behind_163 h1006_))
    have h1008_ := (h38_ (la_behind_164 h1006_))
    have h1009_ := (h1007_.resolve_right (la_behind_166 h1006_))
    intro h1010_
    have h1011_ := (h1010_ (la_behind_8 h54_))
    have h1012_ := (h1011_ h3_)
    have h1013_ := (h1012_ h20_)
    have h1014_ := (h1013_ h21_)
    have h1015_ := (h1014_ h22_)
    obtain ⟨h1016_, ⟨h1017_, ⟨h1018_, h1019_⟩⟩⟩ := (h1015_ h1006_)
    intro h1020_
    have h1021_ := (h1020_ h3_)
    have h1022_ := (h1021_ (sm_ex_e h1018_).1)
    obtain ⟨h1023_, ⟨h1024_, ⟨h1025_, h1026_⟩⟩⟩ := (h1022_ (sm_ex_e h1018_).2.1)
    obtain ⟨h1027_, ⟨h1028_, ⟨h1029_, h1030_⟩⟩⟩ := (h1023_ (sm_ex_e h1018_).2.2.1)
    refine ⟨?_, ?_⟩
    · skip
      refine ⟨h3_, ?_⟩
      refine ⟨h4_, ?_⟩
      refine ⟨h5_, ?_⟩
      refine ⟨h6_, ?_⟩
      refine ⟨h7_, ?_⟩
      refine ⟨h8_, ?_⟩
      refine ⟨h9_, ?_⟩
      refine ⟨h10_, ?_⟩
      refine ⟨h11_, ?_⟩
      refine ⟨h12_, ?_⟩
      refine ⟨h13_, ?_⟩
      refine ⟨h14_, ?_⟩
      refine ⟨h15_, ?_⟩
      refine ⟨h16_, ?_⟩
      refine ⟨h17_, ?_⟩
      refine ⟨h18_, ?_⟩
      refine ⟨h19_, ?_⟩
      refine ⟨(sm_ex_e h1018_).1, ?_⟩
      refine ⟨(sm_ex_e h1018_).2.1, ?_⟩
      refine ⟨(sm_ex_e h1018_).2.2.1, ?_⟩
      refine ⟨(sm_LF_w h24_ sm_F1_rf (Int.le_refl _) (Int.le_refl _) h19_ (la_behind_167 (sm_ex_e h1018_).2.2.2.1 h1019_)), ?_⟩
      intro h1031_
      refine ⟨h28_, ?_⟩
      refine ⟨h29_, ?_⟩
      refine ⟨h30_, ?_⟩
      refine ⟨h31_, ?_⟩
      refine ⟨(la_behind_168 h32_ h1008_), ?_⟩
      refine ⟨(la_behind_168 h33_ h1008_), ?_⟩
      refine ⟨h34_, ?_⟩
      exact (la_behind_169 h35_ (sm_ex_e h1018_).2.2.2.1)
    refine ⟨?_, ?_⟩
    · skip
      refine ⟨?_, ?_⟩
      · skip
        have e1032_ : (if S 1047 0 = 0 then S 1100002 x11 + (600 - S 1046 0) + 8 else 4 : Int) = S 1100002 x11 + (600 - S 1046 0) + 8 := if_pos h25_
        have e1033_ : S 12 (5 * p1 + 0) = S 12 (5 * p1) := congrArg ((S 12)) la_behind_26
        exact (la_behind_170 h15_ h1027_ e1032_)
      have e1034_ : (if S 1047 0 = 0 then S 1100002 x11 + (600 - S 1046 0) + 8 else 4 : Int) = S 1100002 x11 + (600 - S 1046 0) + 8 := if_pos h25_
      have e1035_ : S 12 (5 * p1 + 0) = S 12 (5 * p1) := congrArg ((S 12)) la_behind_26
      exact (la_behind_171 h36_ (sm_ex_e h1018_).2.2.2.1 e1034_)
    refine ⟨?_, ?_⟩
    · skip
      refine ⟨?_, ?_⟩
      · skip
        have e1036_ : (if S 1047 0 = 0 then S 1100002 x11 + (600 - S 1046 0) + 8 else 4 : Int) = S 1100002 x11 + (600 - S 1046 0) + 8 := if_pos h25_
        have e1037_ : S 12 (5 * p1 + 0) = S 12 (5 * p1) := congrArg ((S 12)) la_behind_26
        exact (la_behind_170 h15_ h1027_ e1036_)
      have e1038_ : (if S 1047 0 = 0 then S 1100002 x11 + (600 - S 1046 0) + 8 else 4 : Int) = S 1100002 x11 + (600 - S 1046 0) + 8 := if_pos h25_
      have e1039_ : S 12 (5 * p1 + 0) = S 12 (5 * p1) := congrArg ((S 12)) la_behind_26
      exact (la_behind_172 (sm_ex_e h1018_).2.2.2.1 e1038_)
    intro g105
    rintro ⟨h1040_, ⟨h1041_, ⟨h1042_, ⟨h1043_, ⟨h1044_, ⟨h1045_, ⟨h1046_, ⟨h1047_, ⟨h1048_, ⟨h1049_, ⟨h1050_, ⟨h1051_, ⟨h1052_, ⟨h1053_, ⟨h1054_, ⟨h1055_, ⟨h1056_, ⟨h1057_, ⟨h1058_, ⟨h1059_, ⟨h1060_, ⟨h1061_, ⟨h1062_, ⟨h1063_, ⟨h1064_, ⟨h1065_, ⟨h1066_, h1067_⟩⟩⟩⟩⟩⟩⟩⟩⟩⟩⟩⟩⟩⟩⟩⟩⟩⟩⟩⟩⟩⟩⟩⟩⟩⟩⟩
    have h1068_ := (h1066_ h25_)
    refine ⟨?_, ?_⟩
    · skip
      refine ⟨h1040_, ?_⟩
      refine ⟨h1041_, ?_⟩
      refine ⟨h1042_, ?_⟩
      refine ⟨h1043_, ?_⟩
      intro h1069_
      obtain ⟨h1070_, ⟨h1071_, ⟨h1072_, ⟨h1073_, ⟨h1074_, ⟨h1075_, ⟨h1076_, ⟨h1077_, ⟨h1078_, ⟨h1079_, ⟨h1080_, ⟨h1081_, ⟨h1082_, ⟨h1083_, ⟨h1084_, ⟨h1085_, -⟩⟩⟩⟩⟩⟩⟩⟩⟩⟩⟩⟩⟩⟩⟩⟩ := (h1067_ h1069_)
      refine ⟨h1071_, ?_⟩
      refine ⟨la_behind_173, ?_⟩
      refine ⟨la_behind_174, ?_⟩
      refine ⟨(sm_ci_10 (la_behind_175 h26_ h32_ h33_ h40_ h1077_ h1078_ h1080_ h1081_ h1082_ (sm_dl_10 : sm_dl 10 0 = (-1)) (sm_nt_10 : sm_nt 10 (g105 1046 0) (g105 1100023 (g105 1046 0)) (g105 1100023 (g105 1100023 (g105 1046 0))) = g105 1100023 (g105 1046 0)) (sm_nl_10 : sm_nl 10 (g105 1046 0) (g105 1100007 (g105 1046 0)) (g105 1100025 (g105 1046 0)) (g105 1100007 (g105 1100025 (g105 1046 0))) (g105 1100025 (g105 1100025 (g105 1046 0))) = g105 1100025 (g105 1046 0)))), ?_⟩
      refine ⟨la_behind_176, ?_⟩
      intro h1086_
      have h1087_ := (h1086_.resolve_left la_behind_177)
      have h1088_ := (h32_ (la_behind_179 h1087_))
      have h1089_ := (h33_ (la_behind_179 h1087_))
      have h1090_ := (h39_ (la_behind_180 h1087_))
      have h1091_ := (h1028_ (la_behind_181 h1087_))
      have h1092_ := (h1029_ (la_behind_182 h1087_))
      have e1093_ : S 1100001 p1 = S 1100001 (S 12 (5 * p1)) := congrArg ((S 1100001)) (la_behind_183 h1087_)
      have e1094_ : S 1100001 x11 = S 1100001 (S 12 (5 * p1)) := congrArg ((S 1100001)) (la_behind_183 h1087_)
      have e1095_ : S 1100001 x11 = S 1100001 p1 := congrArg ((S 1100001)) (la_behind_183 h1087_)
      have e1096_ : S 1100002 p1 = S 1100002 (S 12 (5 * p1)) := congrArg ((S 1100002)) (la_behind_183 h1087_)
      have e1097_ : S 1100002 x11 = S 1100002 (S 12 (5 * p1)) := congrArg ((S 1100002)) (la_behind_183 h1087_)
      have e1098_ : S 1100002 x11 = S 1100002 p1 := congrArg ((S 1100002)) (la_behind_183 h1087_)
      have e1099_ : S 1100005 p1 = S 1100005 (S 12 (5 * p1)) := congrArg ((S 1100005)) (la_behind_183 h1087_)
      have e1100_ : S 1100005 x11 = S 1100005 (S 12 (5 * p1)) := congrArg ((S 1100005)) (la_behind_183 h1087_)
      have e1101_ : S 1100005 x11 = S 1100005 p1 := congrArg ((S 1100005)) (la_behind_183 h1087_)
      have e1102_ : S 1100007 (S 1100023 (S 1046 0)) = S 1100007 (S 1046 0) := congrArg ((S 1100007)) (la_behind_183 h1087_)
      have e1103_ : S 1100007 (S 1100025 (S 1046 0)) = S 1100007 (S 1046 0) := congrArg ((S 1100007)) (la_behind_183 h1087_)
      have e1104_ : S 1100007 (S 1100025 (S 1046 0)) = S 1100007 (S 1100023 (S 1046 0)) := congrArg ((S 1100007)) (la_behind_183 h1087_)
      have e1105_ : S 1100007 (g105 1046 0) = S 1100007 (S 1046 0) := congrArg ((S 1100007)) (la_behind_183 h1087_)
      have e1106_ : S 1100007 (g105 1046 0) = S 1100007 (S 1100023 (S 1046 0)) := congrArg ((S 1100007)) (la_behind_183 h1087_)
      have e1107_ : S 1100007 (g105 1046 0) = S 1100007 (S 1100025 (S 1046 0)) := congrArg ((S 1100007)) (la_behind_183 h1087_)
      have e1108_ : S 1100007 (g105 1100023 (g105 1046 0)) = S 1100007 (S 1046 0) := congrArg ((S 1100007)) (la_behind_183 h1087_)
      have e1109_ : S 1100007 (g105 1100023 (g105 1046 0)) = S 1100007 (S 1100023 (S 1046 0)) := congrArg ((S 1100007)) h1078_
      have e1110_ : S 1100007 (g105 1100023 (g105 1046 0)) = S 1100007 (S 1100025 (S 1046 0)) := congrArg ((S 1100007)) (la_behind_183 h1087_)
      have e1111_ : S 1100007 (g105 1100023 (g105 1046 0)) = S 1100007 (g105 1046 0) := congrArg ((S 1100007)) (la_behind_183 h1087_)
      have e1112_ : S 1100007 (g105 1100025 (g105 1046 0)) = S 1100007 (S 1046 0) := congrArg ((S 1100007)) (la_behind_183 h1087_)
      have e1113_ : S 1100007 (g105 1100025 (g105 1046 0)) = S 1100007 (S 1100023 (S 1046 0)) := congrArg ((S 1100007)) (la_behind_183 h1087_)
      have e1114_ : S 1100007 (g105 1100025 (g105 1046 0)) = S 1100007 (S 1100025 (S 1046 0)) := congrArg ((S 1100007)) h1080_
      have e1115_ : S 1100007 (g105 1100025 (g105 1046 0)) = S 1100007 (g105 1046 0) := congrArg ((S 1100007)) (la_behind_183 h1087_)
      have e1116_ : S 1100007 (g105 1100025 (g105 1046 0)) = S 1100007 (g105 1100023 (g105 1046 0)) := congrArg ((S 1100007)) (la_behind_183 h1087_)
      have e1117_ : S 1100023 (g105 1046 0) = S 1100023 (S 1046 0) := congrArg ((S 1100023)) (la_behind_183 h1087_)
      have e1118_ : S 1100024 (g105 1046 0) = S 1100024 (S 1046 0) := congrArg ((S 1100024)) (la_behind_183 h1087_)
      have e1119_ : S 1100025 (g105 1046 0) = S 1100025 (S 1046 0) := congrArg ((S 1100025)) (la_behind_183 h1087_)
      have e1120_ : S 12 (5 * p1 + 0) = S 12 (5 * p1) := congrArg ((S 12)) la_behind_26
      have e1121_ : S 12 (5 * p1 + 1) = S 12 (5 * p1) := congrArg ((S 12)) (la_behind_184 h1087_)
      have e1122_ : S 12 (5 * p1 + 1) = S 12 (5 * p1 + 0) := congrArg ((S 12)) (la_behind_185 h1087_)
      have e1123_ : S 12 (5 * x11 + 1) = S 12 (5 * p1) := congrArg ((S 12)) (la_behind_186 h1087_)
      have e1124_ : S 12 (5 * x11 + 1) = S 12 (5 * p1 + 0) := congrArg ((S 12)) (la_behind_187 h1087_)
      have e1125_ : S 12 (5 * x11 + 1) = S 12 (5 * p1 + 1) := congrArg ((S 12)) (la_behind_188 h1087_)
      have e1126_ : g105 1100007 (g105 1100023 (g105 1046 0)) = g105 1100007 (g105 1046 0) := congrArg ((g105 1100007)) (la_behind_183 h1087_)
      have e1127_ : g105 1100007 (g105 1100025 (g105 1046 0)) = g105 1100007 (g105 1046 0) := congrArg ((g105 1100007)) (la_behind_183 h1087_)
      have e1128_ : g105 1100007 (g105 1100025 (g105 1046 0)) = g105 1100007 (g105 1100023 (g105 1046 0)) := congrArg ((g105 1100007)) (la_behind_183 h1087_)
      have e1129_ : g105 1100023 (g105 1100023 (g105 1046 0)) = g105 1100023 (g105 1046 0) := congrArg ((g105 1100023)) (la_behind_183 h1087_)
      have e1130_ : g105 1100025 (g105 1100025 (g105 1046 0)) = g105 1100025 (g105 1046 0) := congrArg ((g105 1100025)) (la_behind_183 h1087_)
      have e1131_ : S 1100023 (g105 1100023 (g105 1046 0)) = S 1100023 (S 1046 0) := congrArg ((S 1100023)) (la_behind_183 h1087_)
      have e1132_ : S 1100023 (g105 1100023 (g105 1046 0)) = S 1100023 (g105 1046 0) := congrArg ((S 1100023)) (la_behind_183 h1087_)
      have e1133_ : S 1100025 (g105 1100025 (g105 1046 0)) = S 1100025 (S 1046 0) := congrArg ((S 1100025)) (la_behind_183 h1087_)
      have e1134_ : S 1100025 (g105 1100025 (g105 1046 0)) = S 1100025 (g105 1046 0) := congrArg ((S 1100025)) (la_behind_183 h1087_)
      exact ((la_behind_189 h1087_)).elim
    refine ⟨(la_behind_143 h15_ h49_), ?_⟩
    intro g112
    rintro ⟨h1135_, ⟨h1136_, ⟨h1137_, ⟨h1138_, ⟨h1139_, ⟨h1140_, ⟨h1141_, ⟨h1142_, ⟨h1143_, ⟨h1144_, ⟨h1145_, ⟨h1146_, ⟨h1147_, ⟨h1148_, ⟨h1149_, ⟨h1150_, h1151_⟩⟩⟩⟩⟩⟩⟩⟩⟩⟩⟩⟩⟩⟩⟩⟩
    refine ⟨(la_behind_44 h1137_), ?_⟩
    refine ⟨h1140_, ?_⟩
    refine ⟨h1135_, ?_⟩
    refine ⟨h1136_, ?_⟩
    refine ⟨h1044_, ?_⟩
    refine ⟨h1045_, ?_⟩
    refine ⟨(la_behind_75 h1046_ h1138_), ?_⟩
    refine ⟨(la_behind_154 h25_ h1136_), ?_⟩
    refine ⟨(sm_F1_tr (sm_F1_le h1048_ (Int.le_refl _)) h1143_ h1046_), ?_⟩
    refine ⟨(sm_F1_tr (sm_F1_le h1049_ (Int.le_refl _)) h1144_ h1046_), ?_⟩
    refine ⟨(sm_F1_tr (sm_F1_le h1050_ (Int.le_refl _)) h1145_ h1046_), ?_⟩
    refine ⟨(sm_F1_tr (sm_F1_le h1051_ (Int.le_refl _)) h1146_ h1046_), ?_⟩
    refine ⟨(sm_F1_tr (sm_F1_le h1052_ (Int.le_refl _)) h1147_ (la_behind_77 h1046_)), ?_⟩
    refine ⟨(sm_F1_tr (sm_F1_le h1053_ (Int.le_refl _)) h1148_ (la_behind_77 h1046_)), ?_⟩
    refine ⟨(sm_F1_tr (sm_F1_le h1054_ (Int.le_refl _)) h1149_ (la_behind_77 h1046_)), ?_⟩
    refine ⟨(sm_F1_tr (sm_F1_le h1055_ (Int.le_refl _)) h1150_ (la_behind_77 h1046_)), ?_⟩
    refine ⟨h1056_, ?_⟩
    refine ⟨h1057_, ?_⟩
    refine ⟨h1058_, ?_⟩
    refine ⟨h1059_, ?_⟩
    refine ⟨h1060_, ?_⟩
    refine ⟨h1061_, ?_⟩
    refine ⟨h1062_, ?_⟩
    refine ⟨h1063_, ?_⟩
    refine ⟨h1064_, ?_⟩
    refine ⟨h1065_, ?_⟩
    refine ⟨(la_behind_190 (sm_ex_e h1018_).2.2.2.1 h1068_), ?_⟩
    intro h1152_
    have h1153_ : ¬ (g105 1047 0 = 1) := fun q_ => (la_behind_43 h1152_) (h1141_ q_)
    obtain ⟨h1154_, ⟨h1155_, ⟨h1156_, ⟨h1157_, ⟨h1158_, ⟨h1159_, ⟨h1160_, ⟨h1161_, ⟨h1162_, ⟨h1163_, ⟨h1164_, ⟨h1165_, ⟨h1166_, h1167_⟩⟩⟩⟩⟩⟩⟩⟩⟩⟩⟩⟩⟩ := (h1151_ h1152_)
    have h1168_ := (h1167_ la_behind_191)
    obtain ⟨h1169_, ⟨h1170_, ⟨h1171_, ⟨h1172_, ⟨h1173_, ⟨h1174_, ⟨h1175_, ⟨h1176_, ⟨h1177_, ⟨h1178_, ⟨h1179_, ⟨h1180_, ⟨h1181_, ⟨h1182_, ⟨h1183_, ⟨h1184_, -⟩⟩⟩⟩⟩⟩⟩⟩⟩⟩⟩⟩⟩⟩⟩⟩ := (h1067_ h1154_)
    have h1185_ := (h1168_ la_behind_193)
    refine ⟨h25_, ?_⟩
    refine ⟨h1156_, ?_⟩
    refine ⟨h1171_, ?_⟩
    refine ⟨h1172_, ?_⟩
    refine ⟨(la_behind_194 h1155_ h1173_), ?_⟩
    refine ⟨(la_behind_195 h1155_ h1174_), ?_⟩
    refine ⟨(sm_FC_s (sm_FC_F h1175_ (sm_F1_le h1146_ (Int.le_refl _)) (Int.le_refl _) (Int.le_refl _) (Int.le_refl _) rfl) (sm_FC_1 h1159_ (sm_FC_0 h1139_))), ?_⟩
    refine ⟨(la_behind_197 h40_ h1008_ h1160_ (sm_dl_10 : sm_dl 10 0 = (-1)) h1176_), ?_⟩
    refine ⟨(la_behind_71 h1161_ (sm_nt_10 : sm_nt 10 (g105 1046 0) (g105 1100023 (g105 1046 0)) (g105 1100023 (g105 1100023 (g105 1046 0))) = g105 1100023 (g105 1046 0)) h1177_), ?_⟩
    refine ⟨(la_behind_71 h1162_ (sm_nd_10 : sm_nd 10 (g105 1100024 (g105 1046 0)) = g105 1100024 (g105 1046 0)) h1178_), ?_⟩
    refine ⟨(la_behind_71 h1163_ (sm_nl_10 : sm_nl 10 (g105 1046 0) (g105 1100007 (g105 1046 0)) (g105 1100025 (g105 1046 0)) (g105 1100007 (g105 1100025 (g105 1046 0))) (g105 1100025 (g105 1100025 (g105 1046 0))) = g105 1100025 (g105 1046 0)) h1179_), ?_⟩
    refine ⟨(la_behind_71 h1164_ (sm_nt_10 : sm_nt 10 (g105 1100007 (g105 1046 0)) (g105 1100007 (g105 1100023 (g105 1046 0))) (g105 1100007 (g105 1100023 (g105 1100023 (g105 1046 0)))) = g105 1100007 (g105 1100023 (g105 1046 0))) h1180_), ?_⟩
    refine ⟨(la_behind_198 h1181_ h1185_), ?_⟩
    refine ⟨h1182_, ?_⟩
    refine ⟨(sm_HB_1 (by rw [((sm_F1_at h1147_ (S 1046 0) (la_behind_199 h1174_)).trans ((sm_F1_at h1052_ (S 1046 0) la_behind_89).trans rfl))]; exact (la_behind_200 h52_ h1008_ h1155_ h1174_)) (sm_HB_s (sm_HB_F h1183_ (sm_F1_le h1147_ la_behind_202) (Int.le_refl _) la_behind_202 (Int.le_refl _) (la_behind_203 h1008_ (sm_ex_e h1018_).2.2.2.2 h1155_)) (sm_HB_1 (by rw [((sm_F1_at h1147_ (g105 1046 0) la_behind_89).trans rfl)]; exact (la_behind_204 h52_ h1008_ h1155_ h1174_ h1176_)) (sm_HB_0 h1139_)))), ?_⟩
    refine ⟨(la_behind_205 h1155_ h1184_), ?_⟩
    exact trivial
  refine ⟨?_, ?_⟩
  · skip
    intro h1186_
    have h1187_ := (h23_.resolve_left (la_behind_206 h1186_))
    have h1188_ := (h38_ (la_behind_207 h1186_))
    have h1189_ := (h1187_.resolve_left (la_behind_209 h1186_))
    have h1190_ := (h1189_.resolve_left (la_behind_207 h1186_))
    have h1191_ := (h1190_.resolve_right (la_behind_210 h1186_))
    intro h1192_
    have h1193_ := (h1192_ h3_)
    have h1194_ := (h1193_ h20_)
    have h1195_ := (h1194_ h21_)
    have h1196_ := (h1195_ h22_)
    obtain ⟨h1197_, ⟨h1198_, ⟨h1199_, ⟨h1200_, h1201_⟩⟩⟩⟩ := (h1196_ h1186_)
    intro h1202_
    have h1203_ := (h1202_ (la_behind_8 h53_))
    have h1204_ := (h1203_ h3_)
    have h1205_ := (h1204_ h20_)
    have h1206_ := (h1205_ h21_)
    have h1207_ := (h1206_ h22_)
    obtain ⟨h1208_, ⟨h1209_, ⟨h1210_, ⟨h1211_, h1212_⟩⟩⟩⟩ := (h1207_ h1186_)
    intro h1213_
    have h1214_ := (h1213_ h3_)
    have h1215_ := (h1214_ (sm_ex_e h1199_).1)
    obtain ⟨h1216_, ⟨h1217_, ⟨h1218_, h1219_⟩⟩⟩ := (h1215_ (sm_ex_e h1199_).2.1)
    obtain ⟨h1220_, ⟨h1221_, ⟨h1222_, h1223_⟩⟩⟩ := (h1216_ (sm_ex_e h1199_).2.2.1)
    refine ⟨(la_behind_211 h8_ h21_ (sm_ex_e h1197_).1 h1198_), ?_⟩
    refine ⟨?_, ?_⟩
    · skip
      refine ⟨h3_, ?_⟩
      refine ⟨h4_, ?_⟩
      refine ⟨h5_, ?_⟩
      refine ⟨h6_, ?_⟩
      refine ⟨h7_, ?_⟩
      refine ⟨h8_, ?_⟩
      refine ⟨h9_, ?_⟩
      refine ⟨h10_, ?_⟩
      refine ⟨h11_, ?_⟩
      refine ⟨h12_, ?_⟩
      refine ⟨h13_, ?_⟩
      refine ⟨h14_, ?_⟩
      refine ⟨h15_, ?_⟩
      refine ⟨h16_, ?_⟩
      refine ⟨h17_, ?_⟩
      refine ⟨h18_, ?_⟩
      refine ⟨h19_, ?_⟩
      refine ⟨(sm_ex_e h1199_).1, ?_⟩
      refine ⟨(sm_ex_e h1199_).2.1, ?_⟩
      refine ⟨(sm_ex_e h1199_).2.2.1, ?_⟩
      refine ⟨(sm_LF_w h24_ sm_F1_rf (Int.le_refl _) (Int.le_refl _) h19_ (la_behind_45 h8_ (sm_ex_e h1197_).1 h1198_ (sm_ex_e h1199_).2.1 (sm_ex_e h1199_).2.2.2.1)), ?_⟩
      intro h1224_
      refine ⟨h28_, ?_⟩
      refine ⟨h29_, ?_⟩
      refine ⟨h30_, ?_⟩
      refine ⟨h31_, ?_⟩
      refine ⟨(la_behind_168 h32_ h1188_), ?_⟩
      refine ⟨(la_behind_168 h33_ h1188_), ?_⟩
      refine ⟨h34_, ?_⟩
      exact (la_behind_169 h35_ (sm_ex_e h1199_).2.2.2.1)
    refine ⟨?_, ?_⟩
    · skip
      refine ⟨?_, ?_⟩
      · skip
        have e1225_ : (if S 1047 0 = 0 then S 1100002 (S 12 (5 * p1 + 2)) + (600 - S 1046 0) + 8 else 4 : Int) = S 1100002 (S 12 (5 * p1 + 2)) + (600 - S 1046 0) + 8 := if_pos h25_
        have e1226_ : S 12 (5 * p1 + 0) = S 12 (5 * p1) := congrArg ((S 12)) la_behind_26
        exact (la_behind_170 h15_ h1220_ e1225_)
      have e1227_ : (if S 1047 0 = 0 then S 1100002 (S 12 (5 * p1 + 2)) + (600 - S 1046 0) + 8 else 4 : Int) = S 1100002 (S 12 (5 * p1 + 2)) + (600 - S 1046 0) + 8 := if_pos h25_
      have e1228_ : S 12 (5 * p1 + 0) = S 12 (5 * p1) := congrArg ((S 12)) la_behind_26
      exact (la_behind_171 h36_ (sm_ex_e h1199_).2.2.2.1 e1227_)
    refine ⟨?_, ?_⟩
    · skip
      refine ⟨?_, ?_⟩
      · skip
        have e1229_ : (if S 1047 0 = 0 then S 1100002 (S 12 (5 * p1 + 2)) + (600 - S 1046 0) + 8 else 4 : Int) = S 1100002 (S 12 (5 * p1 + 2)) + (600 - S 1046 0) + 8 := if_pos h25_
        have e1230_ : S 12 (5 * p1 + 0) = S 12 (5 * p1) := congrArg ((S 12)) la_behind_26
        exact (la_behind_170 h15_ h1220_ e1229_)
      have e1231_ : (if S 1047 0 = 0 then S 1100002 (S 12 (5 * p1 + 2)) + (600 - S 1046 0) + 8 else 4 : Int) = S 1100002 (S 12 (5 * p1 + 2)) + (600 - S 1046 0) + 8 := if_pos h25_
      have e1232_ : S 12 (5 * p1 + 0) = S 12 (5 * p1) := congrArg ((S 12)) la_behind_26
      exact (la_behind_172 (sm_ex_e h1199_).2.2.2.1 e1231_)
    intro g124
    rintro ⟨h1233_, ⟨h1234_, ⟨h1235_, ⟨h1236_, ⟨h1237_, ⟨h1238_, ⟨h1239_, ⟨h1240_, ⟨h1241_, ⟨h1242_, ⟨h1243_, ⟨h1244_, ⟨h1245_, ⟨h1246_, ⟨h1247_, ⟨h1248_, ⟨h1249_, ⟨h1250_, ⟨h1251_, ⟨h1252_, ⟨h1253_, ⟨h1254_, ⟨h1255_, ⟨h1256_, ⟨h1257_, ⟨h1258_, ⟨h1259_, h1260_⟩⟩⟩⟩⟩⟩⟩⟩⟩⟩⟩⟩⟩⟩⟩⟩⟩⟩⟩⟩⟩⟩⟩⟩⟩⟩⟩
    have h1261_ := (h1259_ h25_)
    refine ⟨?_, ?_⟩
    · skip
      refine ⟨h1233_, ?_⟩
      refine ⟨h1234_, ?_⟩
      refine ⟨h1235_, ?_⟩
      refine ⟨h1236_, ?_⟩
      intro h1262_
      obtain ⟨h1263_, ⟨h1264_, ⟨h1265_, ⟨h1266_, ⟨h1267_, ⟨h1268_, ⟨h1269_, ⟨h1270_, ⟨h1271_, ⟨h1272_, ⟨h1273_, ⟨h1274_, ⟨h1275_, ⟨h1276_, ⟨h1277_, ⟨h1278_, -⟩⟩⟩⟩⟩⟩⟩⟩⟩⟩⟩⟩⟩⟩⟩⟩ := (h1260_ h1262_)
      refine ⟨h1264_, ?_⟩
      refine ⟨la_behind_212, ?_⟩
      refine ⟨la_behind_213, ?_⟩
      refine ⟨(sm_ci_14 (la_behind_214 h26_ h32_ h33_ h40_ h1211_ h1212_ h1270_ h1271_ h1273_ h1274_ h1275_ (sm_dl_14 : sm_dl 14 x8 = (-1)) (sm_nt_14 : sm_nt 14 (g124 1046 0) (g124 1100023 (g124 1046 0)) (g124 1100023 (g124 1100023 (g124 1046 0))) = g124 1100023 (g124 1046 0)) (sm_nl_14 : sm_nl 14 (g124 1046 0) (g124 1100007 (g124 1046 0)) (g124 1100025 (g124 1046 0)) (g124 1100007 (g124 1100025 (g124 1046 0))) (g124 1100025 (g124 1100025 (g124 1046 0))) = g124 1100025 (g124 1046 0)))), ?_⟩
      refine ⟨la_behind_215, ?_⟩
      intro h1279_
      have h1280_ := (h1279_.resolve_left la_behind_216)
      have h1281_ := (h32_ (la_behind_218 h1280_))
      have h1282_ := (h33_ (la_behind_218 h1280_))
      have h1283_ := (h39_ (la_behind_219 h1280_))
      have h1284_ := (h1221_ (la_behind_220 h1280_))
      have h1285_ := (h1222_ (la_behind_221 h1280_))
      have e1286_ : S 1100001 (S 12 (5 * p1 + 2)) = S 1100001 (S 12 (5 * p1 + 1)) := congrArg ((S 1100001)) (la_behind_222 h1280_)
      have e1287_ : S 1100001 p1 = S 1100001 (S 12 (5 * p1 + 1)) := congrArg ((S 1100001)) (la_behind_222 h1280_)
      have e1288_ : S 1100001 p1 = S 1100001 (S 12 (5 * p1 + 2)) := congrArg ((S 1100001)) (la_behind_222 h1280_)
      have e1289_ : S 1100002 (S 12 (5 * p1 + 2)) = S 1100002 (S 12 (5 * p1 + 1)) := congrArg ((S 1100002)) (la_behind_222 h1280_)
      have e1290_ : S 1100002 p1 = S 1100002 (S 12 (5 * p1 + 1)) := congrArg ((S 1100002)) (la_behind_222 h1280_)
      have e1291_ : S 1100002 p1 = S 1100002 (S 12 (5 * p1 + 2)) := congrArg ((S 1100002)) (la_behind_222 h1280_)
      have e1292_ : S 1100005 (S 12 (5 * p1 + 2)) = S 1100005 (S 12 (5 * p1 + 1)) := congrArg ((S 1100005)) (la_behind_222 h1280_)
      have e1293_ : S 1100005 p1 = S 1100005 (S 12 (5 * p1 + 1)) := congrArg ((S 1100005)) (la_behind_222 h1280_)
      have e1294_ : S 1100005 p1 = S 1100005 (S 12 (5 * p1 + 2)) := congrArg ((S 1100005)) (la_behind_222 h1280_)
      have e1295_ : S 1100007 (S 1100023 (S 1046 0)) = S 1100007 (S 1046 0) := congrArg ((S 1100007)) (la_behind_222 h1280_)
      have e1296_ : S 1100007 (S 1100025 (S 1046 0)) = S 1100007 (S 1046 0) := congrArg ((S 1100007)) (la_behind_222 h1280_)
      have e1297_ : S 1100007 (S 1100025 (S 1046 0)) = S 1100007 (S 1100023 (S 1046 0)) := congrArg ((S 1100007)) (la_behind_222 h1280_)
      have e1298_ : S 1100007 (g124 1046 0) = S 1100007 (S 1046 0) := congrArg ((S 1100007)) (la_behind_222 h1280_)
      have e1299_ : S 1100007 (g124 1046 0) = S 1100007 (S 1100023 (S 1046 0)) := congrArg ((S 1100007)) (la_behind_222 h1280_)
      have e1300_ : S 1100007 (g124 1046 0) = S 1100007 (S 1100025 (S 1046 0)) := congrArg ((S 1100007)) (la_behind_222 h1280_)
      have e1301_ : S 1100007 (g124 1100023 (g124 1046 0)) = S 1100007 (S 1046 0) := congrArg ((S 1100007)) (la_behind_222 h1280_)
      have e1302_ : S 1100007 (g124 1100023 (g124 1046 0)) = S 1100007 (S 1100023 (S 1046 0)) := congrArg ((S 1100007)) h1271_
      have e1303_ : S 1100007 (g124 1100023 (g124 1046 0)) = S 1100007 (S 1100025 (S 1046 0)) := congrArg ((S 1100007)) (la_behind_222 h1280_)
      have e1304_ : S 1100007 (g124 1100023 (g124 1046 0)) = S 1100007 (g124 1046 0) := congrArg ((S 1100007)) (la_behind_222 h1280_)
      have e1305_ : S 1100007 (g124 1100025 (g124 1046 0)) = S 1100007 (S 1046 0) := congrArg ((S 1100007)) (la_behind_222 h1280_)
      have e1306_ : S 1100007 (g124 1100025 (g124 1046 0)) = S 1100007 (S 1100023 (S 1046 0)) := congrArg ((S 1100007)) (la_behind_222 h1280_)
      have e1307_ : S 1100007 (g124 1100025 (g124 1046 0)) = S 1100007 (S 1100025 (S 1046 0)) := congrArg ((S 1100007)) h1273_
      have e1308_ : S 1100007 (g124 1100025 (g124 1046 0)) = S 1100007 (g124 1046 0) := congrArg ((S 1100007)) (la_behind_222 h1280_)
      have e1309_ : S 1100007 (g124 1100025 (g124 1046 0)) = S 1100007 (g124 1100023 (g124 1046 0)) := congrArg ((S 1100007)) (la_behind_222 h1280_)
      have e1310_ : S 1100023 (g124 1046 0) = S 1100023 (S 1046 0) := congrArg ((S 1100023)) (la_behind_222 h1280_)
      have e1311_ : S 1100024 (g124 1046 0) = S 1100024 (S 1046 0) := congrArg ((S 1100024)) (la_behind_222 h1280_)
      have e1312_ : S 1100025 (g124 1046 0) = S 1100025 (S 1046 0) := congrArg ((S 1100025)) (la_behind_222 h1280_)
      have e1313_ : S 12 (5 * S 12 (5 * p1 + 2) + 1) = S 12 (5 * p1) := congrArg ((S 12)) (la_behind_223 h1280_)
      have e1314_ : S 12 (5 * p1 + 0) = S 12 (5 * p1) := congrArg ((S 12)) la_behind_26
      have e1315_ : S 12 (5 * p1 + 0) = S 12 (5 * S 12 (5 * p1 + 2) + 1) := congrArg ((S 12)) (la_behind_224 h1280_)
      have e1316_ : S 12 (5 * p1 + 1) = S 12 (5 * p1) := congrArg ((S 12)) (la_behind_225 h1280_)
      have e1317_ : S 12 (5 * p1 + 1) = S 12 (5 * S 12 (5 * p1 + 2) + 1) := congrArg ((S 12)) (la_behind_226 h1280_)
      have e1318_ : S 12 (5 * p1 + 1) = S 12 (5 * p1 + 0) := congrArg ((S 12)) (la_behind_227 h1280_)
      have e1319_ : S 12 (5 * p1 + 2) = S 12 (5 * p1) := congrArg ((S 12)) (la_behind_228 h1280_)
      have e1320_ : S 12 (5 * p1 + 2) = S 12 (5 * S 12 (5 * p1 + 2) + 1) := congrArg ((S 12)) (la_behind_229 h1280_)
      have e1321_ : S 12 (5 * p1 + 2) = S 12 (5 * p1 + 0) := congrArg ((S 12)) (la_behind_230 h1280_)
      have e1322_ : S 12 (5 * p1 + 2) = S 12 (5 * p1 + 1) := congrArg ((S 12)) (la_behind_231 h1280_)
      have e1323_ : g124 1100007 (g124 1100023 (g124 1046 0)) = g124 1100007 (g124 1046 0) := congrArg ((g124 1100007)) (la_behind_222 h1280_)
      have e1324_ : g124 1100007 (g124 1100025 (g124 1046 0)) = g124 1100007 (g124 1046 0) := congrArg ((g124 1100007)) (la_behind_222 h1280_)
      have e1325_ : g124 1100007 (g124 1100025 (g124 1046 0)) = g124 1100007 (g124 1100023 (g124 1046 0)) := congrArg ((g124 1100007)) (la_behind_222 h1280_)
      have e1326_ : g124 1100023 (g124 1100023 (g124 1046 0)) = g124 1100023 (g124 1046 0) := congrArg ((g124 1100023)) (la_behind_222 h1280_)
      have e1327_ : g124 1100025 (g124 1100025 (g124 1046 0)) = g124 1100025 (g124 1046 0) := congrArg ((g124 1100025)) (la_behind_222 h1280_)
      have e1328_ : S 1100023 (g124 1100023 (g124 1046 0)) = S 1100023 (S 1046 0) := congrArg ((S 1100023)) (la_behind_222 h1280_)
      have e1329_ : S 1100023 (g124 1100023 (g124 1046 0)) = S 1100023 (g124 1046 0) := congrArg ((S 1100023)) (la_behind_222 h1280_)
      have e1330_ : S 1100025 (g124 1100025 (g124 1046 0)) = S 1100025 (S 1046 0) := congrArg ((S 1100025)) (la_behind_222 h1280_)
      have e1331_ : S 1100025 (g124 1100025 (g124 1046 0)) = S 1100025 (g124 1046 0) := congrArg ((S 1100025)) (la_behind_222 h1280_)
      exact ((la_behind_232 h1280_)).elim
    intro g130
    rintro ⟨h1332_, ⟨h1333_, ⟨h1334_, ⟨h1335_, ⟨h1336_, ⟨h1337_, ⟨h1338_, ⟨h1339_, ⟨h1340_, ⟨h1341_, ⟨h1342_, ⟨h1343_, ⟨h1344_, ⟨h1345_, ⟨h1346_, ⟨h1347_, h1348_⟩⟩⟩⟩⟩⟩⟩⟩⟩⟩⟩⟩⟩⟩⟩⟩
    refine ⟨(la_behind_44 h1334_), ?_⟩
    refine ⟨h1337_, ?_⟩
    refine ⟨h1332_, ?_⟩
    refine ⟨h1333_, ?_⟩
    refine ⟨h1237_, ?_⟩
    refine ⟨h1238_, ?_⟩
    refine ⟨(la_behind_75 h1239_ h1335_), ?_⟩
    refine ⟨(la_behind_154 h25_ h1333_), ?_⟩
    refine ⟨(sm_F1_tr (sm_F1_le h1241_ (Int.le_refl _)) h1340_ h1239_), ?_⟩
    refine ⟨(sm_F1_tr (sm_F1_le h1242_ (Int.le_refl _)) h1341_ h1239_), ?_⟩
    refine ⟨(sm_F1_tr (sm_F1_le h1243_ (Int.le_refl _)) h1342_ h1239_), ?_⟩
    refine ⟨(sm_F1_tr (sm_F1_le h1244_ (Int.le_refl _)) h1343_ h1239_), ?_⟩
    refine ⟨(sm_F1_tr (sm_F1_le h1245_ (Int.le_refl _)) h1344_ (la_behind_77 h1239_)), ?_⟩
    refine ⟨(sm_F1_tr (sm_F1_le h1246_ (Int.le_refl _)) h1345_ (la_behind_77 h1239_)), ?_⟩
    refine ⟨(sm_F1_tr (sm_F1_le h1247_ (Int.le_refl _)) h1346_ (la_behind_77 h1239_)), ?_⟩
    refine ⟨(sm_F1_tr (sm_F1_le h1248_ (Int.le_refl _)) h1347_ (la_behind_77 h1239_)), ?_⟩
    refine ⟨h1249_, ?_⟩
    refine ⟨h1250_, ?_⟩
    refine ⟨h1251_, ?_⟩
    refine ⟨h1252_, ?_⟩
    refine ⟨h1253_, ?_⟩
    refine ⟨h1254_, ?_⟩
    refine ⟨h1255_, ?_⟩
    refine ⟨h1256_, ?_⟩
    refine ⟨h1257_, ?_⟩
    refine ⟨h1258_, ?_⟩
    refine ⟨(la_behind_190 (sm_ex_e h1199_).2.2.2.1 h1261_), ?_⟩
    intro h1349_
    have h1350_ : ¬ (g124 1047 0 = 1) := fun q_ => (la_behind_43 h1349_) (h1338_ q_)
    obtain ⟨h1351_, ⟨h1352_, ⟨h1353_, ⟨h1354_, ⟨h1355_, ⟨h1356_, ⟨h1357_, ⟨h1358_, ⟨h1359_, ⟨h1360_, ⟨h1361_, ⟨h1362_, ⟨h1363_, h1364_⟩⟩⟩⟩⟩⟩⟩⟩⟩⟩⟩⟩⟩ := (h1348_ h1349_)
    have h1365_ := (h1364_ la_behind_233)
    obtain ⟨h1366_, ⟨h1367_, ⟨h1368_, ⟨h1369_, ⟨h1370_, ⟨h1371_, ⟨h1372_, ⟨h1373_, ⟨h1374_, ⟨h1375_, ⟨h1376_, ⟨h1377_, ⟨h1378_, ⟨h1379_, ⟨h1380_, ⟨h1381_, -⟩⟩⟩⟩⟩⟩⟩⟩⟩⟩⟩⟩⟩⟩⟩⟩ := (h1260_ h1351_)
    have h1382_ := (h1365_ la_behind_235)
    refine ⟨h25_, ?_⟩
    refine ⟨h1353_, ?_⟩
    refine ⟨h1368_, ?_⟩
    refine ⟨h1369_, ?_⟩
    refine ⟨(la_behind_194 h1352_ h1370_), ?_⟩
    refine ⟨(la_behind_195 h1352_ h1371_), ?_⟩
    refine ⟨(sm_FC_s (sm_FC_F h1372_ (sm_F1_le h1343_ (Int.le_refl _)) (Int.le_refl _) (Int.le_refl _) (Int.le_refl _) rfl) (sm_FC_1 h1356_ (sm_FC_0 h1336_))), ?_⟩
    refine ⟨(la_behind_197 h40_ h1188_ h1357_ (sm_dl_14 : sm_dl 14 x8 = (-1)) h1373_), ?_⟩
    refine ⟨(la_behind_71 h1358_ (sm_nt_14 : sm_nt 14 (g124 1046 0) (g124 1100023 (g124 1046 0)) (g124 1100023 (g124 1100023 (g124 1046 0))) = g124 1100023 (g124 1046 0)) h1374_), ?_⟩
    refine ⟨(la_behind_71 h1359_ (sm_nd_14 : sm_nd 14 (g124 1100024 (g124 1046 0)) = g124 1100024 (g124 1046 0)) h1375_), ?_⟩
    refine ⟨(la_behind_71 h1360_ (sm_nl_14 : sm_nl 14 (g124 1046 0) (g124 1100007 (g124 1046 0)) (g124 1100025 (g124 1046 0)) (g124 1100007 (g124 1100025 (g124 1046 0))) (g124 1100025 (g124 1100025 (g124 1046 0))) = g124 1100025 (g124 1046 0)) h1376_), ?_⟩
    refine ⟨(la_behind_71 h1361_ (sm_nt_14 : sm_nt 14 (g124 1100007 (g124 1046 0)) (g124 1100007 (g124 1100023 (g124 1046 0))) (g124 1100007 (g124 1100023 (g124 1100023 (g124 1046 0)))) = g124 1100007 (g124 1100023 (g124 1046 0))) h1377_), ?_⟩
    refine ⟨(la_behind_198 h1378_ h1382_), ?_⟩
    refine ⟨h1379_, ?_⟩
    refine ⟨(sm_HB_1 (by rw [((sm_F1_at h1344_ (S 1046 0) (la_behind_199 h1371_)).trans ((sm_F1_at h1245_ (S 1046 0) la_behind_89).trans rfl))]; exact (la_behind_200 h52_ h1188_ h1352_ h1371_)) (sm_HB_s (sm_HB_F h1380_ (sm_F1_le h1344_ la_behind_202) (Int.le_refl _) la_behind_202 (Int.le_refl _) (la_behind_203 h1188_ (sm_ex_e h1199_).2.2.2.2 h1352_)) (sm_HB_1 (by rw [((sm_F1_at h1344_ (g124 1046 0) la_behind_89).trans rfl)]; exact (la_behind_204 h52_ h1188_ h1352_ h1371_ h1373_)) (sm_HB_0 h1336_)))), ?_⟩
    refine ⟨(la_behind_205 h1352_ h1381_), ?_⟩
    exact trivial
  intro h1383_
  have h1384_ := (h23_.resolve_left (la_behind_236 h1383_))
  have h1385_ := (h37_ h1383_)
  have h1386_ := (h51_ (la_behind_238 h1383_))
  have h1387_ := (h1384_.resolve_left (la_behind_239 h1383_))
  have h1388_ := (h1387_.resolve_right (la_behind_240 h1383_))
  intro h1389_
  have h1390_ := (h1389_ (la_behind_8 h54_))
  have h1391_ := (h1390_ h3_)
  have h1392_ := (h1391_ h20_)
  have h1393_ := (h1392_ h21_)
  have h1394_ := (h1393_ h22_)
  have h1395_ := (h1394_ h1383_)
  intro h1396_
  have h1397_ := (h1396_ h3_)
  intro h1398_
  have h1399_ := (h1398_ (la_behind_8 h53_))
  have h1400_ := (h1399_ (la_behind_8 h54_))
  have h1401_ := (h1400_ h3_)
  have h1402_ := (h1401_ h20_)
  have h1403_ := (h1402_ h21_)
  have h1404_ := (h1403_ h22_)
  obtain ⟨h1405_, ⟨h1406_, h1407_⟩⟩ := (h1404_ h1383_)
  intro h1408_
  intro h1409_
  have h1410_ := (h1409_ h3_)
  refine ⟨?_, ?_⟩
  · skip
    refine ⟨h20_, ?_⟩
    refine ⟨(la_behind_241 h8_ h21_), ?_⟩
    refine ⟨?_, ?_⟩
    · skip
      have e1411_ : S 12 (5 * p1 + 0) = S 12 (5 * p1) := congrArg ((S 12)) la_behind_26
      exact (la_behind_242 h53_ (sm_ex_e h1405_).1 e1411_)
    have e1412_ : S 12 (5 * p1 + 0) = S 12 (5 * p1) := congrArg ((S 12)) la_behind_26
    exact (la_behind_243 h8_ h21_ h53_ h1406_ e1412_)
  refine ⟨(la_behind_143 h15_ h49_), ?_⟩
  refine ⟨?_, ?_⟩
  · skip
    intro h1413_
    have h1414_ := (h1385_ h1413_)
    refine ⟨?_, ?_⟩
    · skip
      refine ⟨h3_, ?_⟩
      refine ⟨h4_, ?_⟩
      refine ⟨h5_, ?_⟩
      refine ⟨h6_, ?_⟩
      refine ⟨h7_, ?_⟩
      refine ⟨h8_, ?_⟩
      refine ⟨h9_, ?_⟩
      refine ⟨h10_, ?_⟩
      refine ⟨h11_, ?_⟩
      refine ⟨h12_, ?_⟩
      refine ⟨h13_, ?_⟩
      refine ⟨h14_, ?_⟩
      refine ⟨h15_, ?_⟩
      refine ⟨h16_, ?_⟩
      refine ⟨h17_, ?_⟩
      refine ⟨h18_, ?_⟩
      refine ⟨h19_, ?_⟩
      refine ⟨h1395_, ?_⟩
      refine ⟨?_, ?_⟩
      · skip
        intro h1415_
        have h1416_ := (h1397_ (la_behind_245 (la_behind_244 h1395_ h1415_)))
        have h1417_ := (h1410_ (la_behind_245 (la_behind_244 h1395_ h1415_)))
        refine ⟨(la_behind_245 (la_behind_244 h1395_ h1415_)), ?_⟩
        refine ⟨?_, ?_⟩
        · skip
          have h1418_ := (h1416_ (sm_ex_e (sm_li_r h1407_ h1415_)).2.1)
          obtain ⟨h1419_, ⟨h1420_, ⟨h1421_, h1422_⟩⟩⟩ := (h1417_ (sm_ex_e (sm_li_r h1407_ h1415_)).2.1)
          obtain ⟨h1423_, h1424_⟩ := (h1418_ (sm_ex_e (sm_li_r h1407_ h1415_)).2.2.1)
          have h1425_ := (h1422_ (sm_ex_e (sm_li_r h1407_ h1415_)).2.2.1)
          have e1426_ : S 12 (5 * p1 + 0) = S 12 (5 * p1) := congrArg ((S 12)) la_behind_26
          exact (sm_ex_e (sm_li_r h1407_ h1415_)).2.1
        refine ⟨?_, ?_⟩
        · skip
          have h1427_ := (h1416_ (sm_ex_e (sm_li_r h1407_ h1415_)).2.1)
          obtain ⟨h1428_, ⟨h1429_, ⟨h1430_, h1431_⟩⟩⟩ := (h1417_ (sm_ex_e (sm_li_r h1407_ h1415_)).2.1)
          obtain ⟨h1432_, h1433_⟩ := (h1427_ (sm_ex_e (sm_li_r h1407_ h1415_)).2.2.1)
          have h1434_ := (h1431_ (sm_ex_e (sm_li_r h1407_ h1415_)).2.2.1)
          have e1435_ : S 12 (5 * p1 + 0) = S 12 (5 * p1) := congrArg ((S 12)) la_behind_26
          exact (sm_ex_e (sm_li_r h1407_ h1415_)).2.2.1
        refine ⟨?_, ?_⟩
        · skip
          have h1436_ := (h1416_ (sm_ex_e (sm_li_r h1407_ h1415_)).2.1)
          obtain ⟨h1437_, ⟨h1438_, ⟨h1439_, h1440_⟩⟩⟩ := (h1417_ (sm_ex_e (sm_li_r h1407_ h1415_)).2.1)
          obtain ⟨h1441_, h1442_⟩ := (h1436_ (sm_ex_e (sm_li_r h1407_ h1415_)).2.2.1)
          have h1443_ := (h1440_ (sm_ex_e (sm_li_r h1407_ h1415_)).2.2.1)
          have e1444_ : S 12 (5 * p1 + 0) = S 12 (5 * p1) := congrArg ((S 12)) la_behind_26
          exact h1441_
        refine ⟨?_, ?_⟩
        · skip
          have h1445_ := (h1416_ (sm_ex_e (sm_li_r h1407_ h1415_)).2.1)
          obtain ⟨h1446_, ⟨h1447_, ⟨h1448_, h1449_⟩⟩⟩ := (h1417_ (sm_ex_e (sm_li_r h1407_ h1415_)).2.1)
          obtain ⟨h1450_, h1451_⟩ := (h1445_ (sm_ex_e (sm_li_r h1407_ h1415_)).2.2.1)
          have h1452_ := (h1449_ (sm_ex_e (sm_li_r h1407_ h1415_)).2.2.1)
          have e1453_ : S 12 (5 * p1 + 0) = S 12 (5 * p1) := congrArg ((S 12)) la_behind_26
          exact (sm_ex_e (sm_li_r h1407_ h1415_)).2.2.2.1
        refine ⟨?_, ?_⟩
        · skip
          have h1454_ := (h1416_ (sm_ex_e (sm_li_r h1407_ h1415_)).2.1)
          obtain ⟨h1455_, ⟨h1456_, ⟨h1457_, h1458_⟩⟩⟩ := (h1417_ (sm_ex_e (sm_li_r h1407_ h1415_)).2.1)
          obtain ⟨h1459_, h1460_⟩ := (h1454_ (sm_ex_e (sm_li_r h1407_ h1415_)).2.2.1)
          have h1461_ := (h1458_ (sm_ex_e (sm_li_r h1407_ h1415_)).2.2.1)
          have e1462_ : S 12 (5 * p1 + 0) = S 12 (5 * p1) := congrArg ((S 12)) la_behind_26
          exact h1460_
        have h1463_ := (h1416_ (sm_ex_e (sm_li_r h1407_ h1415_)).2.1)
        obtain ⟨h1464_, ⟨h1465_, ⟨h1466_, h1467_⟩⟩⟩ := (h1417_ (sm_ex_e (sm_li_r h1407_ h1415_)).2.1)
        obtain ⟨h1468_, h1469_⟩ := (h1463_ (sm_ex_e (sm_li_r h1407_ h1415_)).2.2.1)
        have h1470_ := (h1467_ (sm_ex_e (sm_li_r h1407_ h1415_)).2.2.1)
        have e1471_ : S 12 (5 * p1 + 0) = S 12 (5 * p1) := congrArg ((S 12)) la_behind_26
        exact (sm_LF_w h24_ sm_F1_rf (Int.le_refl _) (Int.le_refl _) h19_ (la_behind_249 h1386_ (sm_ex_e h1405_).1 h1406_ (sm_ex_e (sm_li_r h1407_ h1415_)).2.2.2.2))
      refine ⟨h19_, ?_⟩
      intro h1472_
      refine ⟨h28_, ?_⟩
      refine ⟨h29_, ?_⟩
      refine ⟨h30_, ?_⟩
      refine ⟨h31_, ?_⟩
      refine ⟨(la_behind_250 h32_ h1414_), ?_⟩
      refine ⟨(la_behind_250 h33_ h1414_), ?_⟩
      refine ⟨h34_, ?_⟩
      have e1473_ : S 12 (5 * p1 + 0) = S 12 (5 * p1) := congrArg ((S 12)) la_behind_26
      by_cases c1474_ : 0 ≤ S 1100023 (S 1046 0)
      · skip
        have h1475_ := (h32_ c1474_)
        by_cases c1478_ : x11 = (-1)
        · skip
          have e1479_ : (if x11 = (-1) then 0 else 17 * S 1100005 x11 + 17 : Int) = 0 := if_pos c1478_
          exact (la_behind_252 h35_ h49_ e1479_)
        · skip
          have e1480_ : (if x11 = (-1) then 0 else 17 * S 1100005 x11 + 17 : Int) = 17 * S 1100005 x11 + 17 := if_neg c1478_
          have h1481_ := (h1397_ (la_behind_245 (la_behind_244 h1395_ c1478_)))
          have h1482_ := (h1410_ (la_behind_245 (la_behind_244 h1395_ c1478_)))
          have h1483_ := (h1481_ (sm_ex_e (sm_li_r h1407_ c1478_)).2.1)
          obtain ⟨h1484_, ⟨h1485_, ⟨h1486_, h1487_⟩⟩⟩ := (h1482_ (sm_ex_e (sm_li_r h1407_ c1478_)).2.1)
          obtain ⟨h1488_, h1489_⟩ := (h1483_ (sm_ex_e (sm_li_r h1407_ c1478_)).2.2.1)
          have h1490_ := (h1487_ (sm_ex_e (sm_li_r h1407_ c1478_)).2.2.1)
          exact (la_behind_253 h35_ h1386_ e1480_ (sm_ex_e (sm_li_r h1407_ c1478_)).2.2.2.2)
      · skip
        by_cases c1493_ : x11 = (-1)
        · skip
          have e1494_ : (if x11 = (-1) then 0 else 17 * S 1100005 x11 + 17 : Int) = 0 := if_pos c1493_
          exact (la_behind_252 h35_ h49_ e1494_)
        · skip
          have e1495_ : (if x11 = (-1) then 0 else 17 * S 1100005 x11 + 17 : Int) = 17 * S 1100005 x11 + 17 := if_neg c1493_
          have h1496_ := (h1397_ (la_behind_245 (la_behind_244 h1395_ c1493_)))
          have h1497_ := (h1410_ (la_behind_245 (la_behind_244 h1395_ c1493_)))
          have h1498_ := (h1496_ (sm_ex_e (sm_li_r h1407_ c1493_)).2.1)
          obtain ⟨h1499_, ⟨h1500_, ⟨h1501_, h1502_⟩⟩⟩ := (h1497_ (sm_ex_e (sm_li_r h1407_ c1493_)).2.1)
          obtain ⟨h1503_, h1504_⟩ := (h1498_ (sm_ex_e (sm_li_r h1407_ c1493_)).2.2.1)
          have h1505_ := (h1502_ (sm_ex_e (sm_li_r h1407_ c1493_)).2.2.1)
          exact (la_behind_253 h35_ h1386_ e1495_ (sm_ex_e (sm_li_r h1407_ c1493_)).2.2.2.2)
    refine ⟨?_, ?_⟩
    · skip
      refine ⟨?_, ?_⟩
      · skip
        have e1506_ : (if S 1047 0 = 0 then (if x11 = (-1) then 0 else 17 * S 1100005 x11 + 17) + (600 - S 1046 0) + 9 else 5 : Int) = (if x11 = (-1) then 0 else 17 * S 1100005 x11 + 17) + (600 - S 1046 0) + 9 := if_pos h25_
        have e1507_ : S 12 (5 * p1 + 0) = S 12 (5 * p1) := congrArg ((S 12)) la_behind_26
        by_cases c1508_ : x11 = (-1)
        · skip
          have e1509_ : (if x11 = (-1) then 0 else 17 * S 1100005 x11 + 17 : Int) = 0 := if_pos c1508_
          exact (la_behind_254 h15_ e1506_ e1509_)
        · skip
          have e1510_ : (if x11 = (-1) then 0 else 17 * S 1100005 x11 + 17 : Int) = 17 * S 1100005 x11 + 17 := if_neg c1508_
          have h1511_ := (h1397_ (la_behind_245 (la_behind_244 h1395_ c1508_)))
          have h1512_ := (h1410_ (la_behind_245 (la_behind_244 h1395_ c1508_)))
          have h1513_ := (h1511_ (sm_ex_e (sm_li_r h1407_ c1508_)).2.1)
          obtain ⟨h1514_, ⟨h1515_, ⟨h1516_, h1517_⟩⟩⟩ := (h1512_ (sm_ex_e (sm_li_r h1407_ c1508_)).2.1)
          obtain ⟨h1518_, h1519_⟩ := (h1513_ (sm_ex_e (sm_li_r h1407_ c1508_)).2.2.1)
          have h1520_ := (h1517_ (sm_ex_e (sm_li_r h1407_ c1508_)).2.2.1)
          exact (la_behind_255 h15_ e1506_ e1510_ h1519_)
      have e1521_ : (if S 1047 0 = 0 then (if x11 = (-1) then 0 else 17 * S 1100005 x11 + 17) + (600 - S 1046 0) + 9 else 5 : Int) = (if x11 = (-1) then 0 else 17 * S 1100005 x11 + 17) + (600 - S 1046 0) + 9 := if_pos h25_
      have e1522_ : S 12 (5 * p1 + 0) = S 12 (5 * p1) := congrArg ((S 12)) la_behind_26
      by_cases c1523_ : x11 = (-1)
      · skip
        have e1524_ : (if x11 = (-1) then 0 else 17 * S 1100005 x11 + 17 : Int) = 0 := if_pos c1523_
        exact (la_behind_256 h36_ h52_ h1386_ e1521_ e1524_)
      · skip
        have e1525_ : (if x11 = (-1) then 0 else 17 * S 1100005 x11 + 17 : Int) = 17 * S 1100005 x11 + 17 := if_neg c1523_
        have h1526_ := (h1397_ (la_behind_245 (la_behind_244 h1395_ c1523_)))
        have h1527_ := (h1410_ (la_behind_245 (la_behind_244 h1395_ c1523_)))
        have h1528_ := (h1526_ (sm_ex_e (sm_li_r h1407_ c1523_)).2.1)
        obtain ⟨h1529_, ⟨h1530_, ⟨h1531_, h1532_⟩⟩⟩ := (h1527_ (sm_ex_e (sm_li_r h1407_ c1523_)).2.1)
        obtain ⟨h1533_, h1534_⟩ := (h1528_ (sm_ex_e (sm_li_r h1407_ c1523_)).2.2.1)
        have h1535_ := (h1532_ (sm_ex_e (sm_li_r h1407_ c1523_)).2.2.1)
        exact (la_behind_257 h36_ h1386_ e1521_ e1525_ (sm_ex_e (sm_li_r h1407_ c1523_)).2.2.2.2)
    refine ⟨?_, ?_⟩
    · skip
      refine ⟨?_, ?_⟩
      · skip
        have e1536_ : (if S 1047 0 = 0 then (if x11 = (-1) then 0 else 17 * S 1100005 x11 + 17) + (600 - S 1046 0) + 9 else 5 : Int) = (if x11 = (-1) then 0 else 17 * S 1100005 x11 + 17) + (600 - S 1046 0) + 9 := if_pos h25_
        have e1537_ : S 12 (5 * p1 + 0) = S 12 (5 * p1) := congrArg ((S 12)) la_behind_26
        by_cases c1538_ : x11 = (-1)
        · skip
          have e1539_ : (if x11 = (-1) then 0 else 17 * S 1100005 x11 + 17 : Int) = 0 := if_pos c1538_
          exact (la_behind_254 h15_ e1536_ e1539_)
        · skip
          have e1540_ : (if x11 = (-1) then 0 else 17 * S 1100005 x11 + 17 : Int) = 17 * S 1100005 x11 + 17 := if_neg c1538_
          have h1541_ := (h1397_ (la_behind_245 (la_behind_244 h1395_ c1538_)))
          have h1542_ := (h1410_ (la_behind_245 (la_behind_244 h1395_ c1538_)))
          have h1543_ := (h1541_ (sm_ex_e (sm_li_r h1407_ c1538_)).2.1)
          obtain ⟨h1544_, ⟨h1545_, ⟨h1546_, h1547_⟩⟩⟩ := (h1542_ (sm_ex_e (sm_li_r h1407_ c1538_)).2.1)
          obtain ⟨h1548_, h1549_⟩ := (h1543_ (sm_ex_e (sm_li_r h1407_ c1538_)).2.2.1)
          have h1550_ := (h1547_ (sm_ex_e (sm_li_r h1407_ c1538_)).2.2.1)
          exact (la_behind_255 h15_ e1536_ e1540_ h1549_)
      have e1551_ : (if S 1047 0 = 0 then (if x11 = (-1) then 0 else 17 * S 1100005 x11 + 17) + (600 - S 1046 0) + 9 else 5 : Int) = (if x11 = (-1) then 0 else 17 * S 1100005 x11 + 17) + (600 - S 1046 0) + 9 := if_pos h25_
      have e1552_ : S 12 (5 * p1 + 0) = S 12 (5 * p1) := congrArg ((S 12)) la_behind_26
      by_cases c1553_ : 0 ≤ S 1100023 (S 1046 0)
      · skip
        have h1554_ := (h32_ c1553_)
        by_cases c1557_ : x11 = (-1)
        · skip
          have e1558_ : (if x11 = (-1) then 0 else 17 * S 1100005 x11 + 17 : Int) = 0 := if_pos c1557_
          exact (la_behind_258 h52_ h1386_ e1551_ e1558_)
        · skip
          have e1559_ : (if x11 = (-1) then 0 else 17 * S 1100005 x11 + 17 : Int) = 17 * S 1100005 x11 + 17 := if_neg c1557_
          have h1560_ := (h1397_ (la_behind_245 (la_behind_244 h1395_ c1557_)))
          have h1561_ := (h1410_ (la_behind_245 (la_behind_244 h1395_ c1557_)))
          have h1562_ := (h1560_ (sm_ex_e (sm_li_r h1407_ c1557_)).2.1)
          obtain ⟨h1563_, ⟨h1564_, ⟨h1565_, h1566_⟩⟩⟩ := (h1561_ (sm_ex_e (sm_li_r h1407_ c1557_)).2.1)
          obtain ⟨h1567_, h1568_⟩ := (h1562_ (sm_ex_e (sm_li_r h1407_ c1557_)).2.2.1)
          have h1569_ := (h1566_ (sm_ex_e (sm_li_r h1407_ c1557_)).2.2.1)
          exact (la_behind_259 h1386_ e1551_ e1559_ (sm_ex_e (sm_li_r h1407_ c1557_)).2.2.2.2)
      · skip
        by_cases c1572_ : x11 = (-1)
        · skip
          have e1573_ : (if x11 = (-1) then 0 else 17 * S 1100005 x11 + 17 : Int) = 0 := if_pos c1572_
          exact (la_behind_258 h52_ h1386_ e1551_ e1573_)
        · skip
          have e1574_ : (if x11 = (-1) then 0 else 17 * S 1100005 x11 + 17 : Int) = 17 * S 1100005 x11 + 17 := if_neg c1572_
          have h1575_ := (h1397_ (la_behind_245 (la_behind_244 h1395_ c1572_)))
          have h1576_ := (h1410_ (la_behind_245 (la_behind_244 h1395_ c1572_)))
          have h1577_ := (h1575_ (sm_ex_e (sm_li_r h1407_ c1572_)).2.1)
          obtain ⟨h1578_, ⟨h1579_, ⟨h1580_, h1581_⟩⟩⟩ := (h1576_ (sm_ex_e (sm_li_r h1407_ c1572_)).2.1)
          obtain ⟨h1582_, h1583_⟩ := (h1577_ (sm_ex_e (sm_li_r h1407_ c1572_)).2.2.1)
          have h1584_ := (h1581_ (sm_ex_e (sm_li_r h1407_ c1572_)).2.2.1)
          exact (la_behind_259 h1386_ e1551_ e1574_ (sm_ex_e (sm_li_r h1407_ c1572_)).2.2.2.2)
    intro r149
    intro h1585_
    intro g145
    rintro ⟨h1586_, ⟨h1587_, ⟨h1588_, ⟨h1589_, ⟨h1590_, ⟨h1591_, ⟨h1592_, ⟨h1593_, ⟨h1594_, ⟨h1595_, ⟨h1596_, ⟨h1597_, ⟨h1598_, ⟨h1599_, ⟨h1600_, ⟨h1601_, ⟨h1602_, ⟨h1603_, ⟨h1604_, ⟨h1605_, ⟨h1606_, ⟨h1607_, ⟨h1608_, ⟨h1609_, ⟨h1610_, ⟨h1611_, ⟨h1612_, ⟨h1613_, ⟨h1614_, h1615_⟩⟩⟩⟩⟩⟩⟩⟩⟩⟩⟩⟩⟩⟩⟩⟩⟩⟩⟩⟩⟩⟩⟩⟩⟩⟩⟩⟩⟩
    have h1616_ := (h1614_ h25_)
    intro h1617_
    refine ⟨?_, ?_⟩
    · skip
      refine ⟨h1588_, ?_⟩
      refine ⟨h1589_, ?_⟩
      refine ⟨h1590_, ?_⟩
      refine ⟨h1591_, ?_⟩
      intro h1618_
      obtain ⟨h1619_, ⟨h1620_, ⟨h1621_, ⟨h1622_, ⟨h1623_, ⟨h1624_, ⟨h1625_, ⟨h1626_, ⟨h1627_, ⟨h1628_, ⟨h1629_, ⟨h1630_, ⟨h1631_, ⟨h1632_, ⟨h1633_, ⟨h1634_, -⟩⟩⟩⟩⟩⟩⟩⟩⟩⟩⟩⟩⟩⟩⟩⟩ := (h1615_ h1618_)
      refine ⟨h1620_, ?_⟩
      refine ⟨la_behind_260, ?_⟩
      refine ⟨la_behind_261, ?_⟩
      refine ⟨(sm_ci_15 (la_behind_262 h26_ h32_ h33_ h1414_ h1586_ h1587_ h1626_ h1627_ h1629_ h1630_ h1631_ (sm_dl_15 : sm_dl 15 r149 = -r149 - 1) (sm_nt_15 : sm_nt 15 (g145 1046 0) (g145 1100023 (g145 1046 0)) (g145 1100023 (g145 1100023 (g145 1046 0))) = g145 1100023 (g145 1046 0)) (sm_nl_15 : sm_nl 15 (g145 1046 0) (g145 1100007 (g145 1046 0)) (g145 1100025 (g145 1046 0)) (g145 1100007 (g145 1100025 (g145 1046 0))) (g145 1100025 (g145 1100025 (g145 1046 0))) = g145 1100025 (g145 1046 0)))), ?_⟩
      refine ⟨la_behind_263, ?_⟩
      intro h1635_
      have h1636_ := (h1635_.resolve_left la_behind_264)
      have e1637_ : (if x11 = (-1) then 0 else 17 * S 1100005 x11 + 17 : Int) = 0 := if_pos (la_behind_267 h1636_)
      have e1638_ : (if x11 = (-1) then 0 else 8 * S 1100005 x11 + 17 : Int) = 0 := if_pos (la_behind_267 h1636_)
      have h1639_ := (h32_ (la_behind_268 h1636_))
      have h1640_ := (h33_ (la_behind_268 h1636_))
      have h1641_ := (h1397_ (sm_ex_e (sm_li_r h1407_ (la_behind_266 h1636_))).1)
      have h1642_ := (h1410_ (sm_ex_e (sm_li_r h1407_ (la_behind_266 h1636_))).1)
      have h1643_ := (h1617_ (la_behind_269 h1636_))
      have h1644_ := (h1641_ (sm_ex_e (sm_li_r h1407_ (la_behind_266 h1636_))).2.1)
      obtain ⟨h1645_, ⟨h1646_, ⟨h1647_, h1648_⟩⟩⟩ := (h1642_ (sm_ex_e (sm_li_r h1407_ (la_behind_266 h1636_))).2.1)
      have h1649_ := (h1643_ h52_)
      obtain ⟨h1650_, h1651_⟩ := (h1644_ (sm_ex_e (sm_li_r h1407_ (la_behind_266 h1636_))).2.2.1)
      obtain ⟨h1652_, ⟨h1653_, ⟨h1654_, h1655_⟩⟩⟩ := (h1645_ (la_behind_270 h1636_))
      obtain ⟨h1656_, ⟨h1657_, h1658_⟩⟩ := (h1646_ (la_behind_271 h1636_))
      obtain ⟨h1659_, ⟨h1660_, h1661_⟩⟩ := (h1647_ (la_behind_272 h1636_))
      have h1662_ := (h1648_ (sm_ex_e (sm_li_r h1407_ (la_behind_266 h1636_))).2.2.1)
      have h1663_ := (h1653_ (la_behind_273 h1636_))
      have h1664_ := (h1654_ (la_behind_274 h1636_))
      have h1665_ := (h1658_ (la_behind_275 h1636_))
      have h1666_ := (h1661_ (la_behind_267 h1636_))
      have e1667_ : S 11 p1 = S 11 (S 12 (5 * p1)) := congrArg ((S 11)) (la_behind_276 h1636_)
      have e1668_ : S 1100001 x11 = S 1100001 p1 := congrArg ((S 1100001)) (la_behind_276 h1636_)
      have e1669_ : S 1100001 x8 = S 1100001 p1 := congrArg ((S 1100001)) (la_behind_276 h1636_)
      have e1670_ : S 1100001 x8 = S 1100001 x11 := congrArg ((S 1100001)) (la_behind_276 h1636_)
      have e1671_ : S 1100002 x11 = S 1100002 p1 := congrArg ((S 1100002)) (la_behind_276 h1636_)
      have e1672_ : S 1100002 x8 = S 1100002 p1 := congrArg ((S 1100002)) (la_behind_276 h1636_)
      have e1673_ : S 1100002 x8 = S 1100002 x11 := congrArg ((S 1100002)) (la_behind_276 h1636_)
      have e1674_ : S 1100005 x11 = S 1100005 p1 := congrArg ((S 1100005)) (la_behind_276 h1636_)
      have e1675_ : S 1100005 x8 = S 1100005 p1 := congrArg ((S 1100005)) (la_behind_276 h1636_)
      have e1676_ : S 1100005 x8 = S 1100005 x11 := congrArg ((S 1100005)) (la_behind_276 h1636_)
      have e1677_ : S 1100007 (S 1100023 (S 1046 0)) = S 1100007 (S 1046 0) := congrArg ((S 1100007)) (la_behind_276 h1636_)
      have e1678_ : S 1100007 (S 1100025 (S 1046 0)) = S 1100007 (S 1046 0) := congrArg ((S 1100007)) (la_behind_276 h1636_)
      have e1679_ : S 1100007 (S 1100025 (S 1046 0)) = S 1100007 (S 1100023 (S 1046 0)) := congrArg ((S 1100007)) (la_behind_276 h1636_)
      have e1680_ : S 1100007 (g145 1046 0) = S 1100007 (S 1046 0) := congrArg ((S 1100007)) (la_behind_276 h1636_)
      have e1681_ : S 1100007 (g145 1046 0) = S 1100007 (S 1100023 (S 1046 0)) := congrArg ((S 1100007)) (la_behind_276 h1636_)
      have e1682_ : S 1100007 (g145 1046 0) = S 1100007 (S 1100025 (S 1046 0)) := congrArg ((S 1100007)) (la_behind_276 h1636_)
      have e1683_ : S 1100007 (g145 1100023 (g145 1046 0)) = S 1100007 (S 1046 0) := congrArg ((S 1100007)) (la_behind_276 h1636_)
      have e1684_ : S 1100007 (g145 1100023 (g145 1046 0)) = S 1100007 (S 1100023 (S 1046 0)) := congrArg ((S 1100007)) h1627_
      have e1685_ : S 1100007 (g145 1100023 (g145 1046 0)) = S 1100007 (S 1100025 (S 1046 0)) := congrArg ((S 1100007)) (la_behind_276 h1636_)
      have e1686_ : S 1100007 (g145 1100023 (g145 1046 0)) = S 1100007 (g145 1046 0) := congrArg ((S 1100007)) (la_behind_276 h1636_)
      have e1687_ : S 1100007 (g145 1100025 (g145 1046 0)) = S 1100007 (S 1046 0) := congrArg ((S 1100007)) (la_behind_276 h1636_)
      have e1688_ : S 1100007 (g145 1100025 (g145 1046 0)) = S 1100007 (S 1100023 (S 1046 0)) := congrArg ((S 1100007)) (la_behind_276 h1636_)
      have e1689_ : S 1100007 (g145 1100025 (g145 1046 0)) = S 1100007 (S 1100025 (S 1046 0)) := congrArg ((S 1100007)) h1629_
      have e1690_ : S 1100007 (g145 1100025 (g145 1046 0)) = S 1100007 (g145 1046 0) := congrArg ((S 1100007)) (la_behind_276 h1636_)
      have e1691_ : S 1100007 (g145 1100025 (g145 1046 0)) = S 1100007 (g145 1100023 (g145 1046 0)) := congrArg ((S 1100007)) (la_behind_276 h1636_)
      have e1692_ : S 1100023 (g145 1046 0) = S 1100023 (S 1046 0) := congrArg ((S 1100023)) (la_behind_276 h1636_)
      have e1693_ : S 1100024 (g145 1046 0) = S 1100024 (S 1046 0) := congrArg ((S 1100024)) (la_behind_276 h1636_)
      have e1694_ : S 1100025 (g145 1046 0) = S 1100025 (S 1046 0) := congrArg ((S 1100025)) (la_behind_276 h1636_)
      have e1695_ : S 12 (5 * p1 + 0) = S 12 (5 * p1) := congrArg ((S 12)) la_behind_26
      have e1696_ : S 12 (5 * p1 + 1) = S 12 (5 * p1) := congrArg ((S 12)) (la_behind_277 h1636_)
      have e1697_ : S 12 (5 * p1 + 1) = S 12 (5 * p1 + 0) := congrArg ((S 12)) (la_behind_278 h1636_)
      have e1698_ : S 12 (5 * x11 + 1) = S 12 (5 * p1) := congrArg ((S 12)) (la_behind_279 h1636_)
      have e1699_ : S 12 (5 * x11 + 1) = S 12 (5 * p1 + 0) := congrArg ((S 12)) (la_behind_280 h1636_)
      have e1700_ : S 12 (5 * x11 + 1) = S 12 (5 * p1 + 1) := congrArg ((S 12)) (la_behind_281 h1636_)
      have e1701_ : g145 1100007 (g145 1100023 (g145 1046 0)) = g145 1100007 (g145 1046 0) := congrArg ((g145 1100007)) (la_behind_276 h1636_)
      have e1702_ : g145 1100007 (g145 1100025 (g145 1046 0)) = g145 1100007 (g145 1046 0) := congrArg ((g145 1100007)) (la_behind_276 h1636_)
      have e1703_ : g145 1100007 (g145 1100025 (g145 1046 0)) = g145 1100007 (g145 1100023 (g145 1046 0)) := congrArg ((g145 1100007)) (la_behind_276 h1636_)
      have e1704_ : g145 1100023 (g145 1100023 (g145 1046 0)) = g145 1100023 (g145 1046 0) := congrArg ((g145 1100023)) (la_behind_276 h1636_)
      have e1705_ : g145 1100025 (g145 1100025 (g145 1046 0)) = g145 1100025 (g145 1046 0) := congrArg ((g145 1100025)) (la_behind_276 h1636_)
      have h1706_ : ¬ (S 14 (S 12 (5 * p1)) = 0) := fun q_ => h1413_ ⟨(la_behind_282 h1636_), q_⟩
      have e1707_ : S 1100023 (g145 1100023 (g145 1046 0)) = S 1100023 (S 1046 0) := congrArg ((S 1100023)) (la_behind_276 h1636_)
      have e1708_ : S 1100023 (g145 1100023 (g145 1046 0)) = S 1100023 (g145 1046 0) := congrArg ((S 1100023)) (la_behind_276 h1636_)
      have e1709_ : S 1100025 (g145 1100025 (g145 1046 0)) = S 1100025 (S 1046 0) := congrArg ((S 1100025)) (la_behind_276 h1636_)
      have e1710_ : S 1100025 (g145 1100025 (g145 1046 0)) = S 1100025 (g145 1046 0) := congrArg ((S 1100025)) (la_behind_276 h1636_)
      exact ((la_behind_285 h1636_)).elim
    intro g153
    rintro ⟨h1711_, ⟨h1712_, ⟨h1713_, ⟨h1714_, ⟨h1715_, ⟨h1716_, ⟨h1717_, ⟨h1718_, ⟨h1719_, ⟨h1720_, ⟨h1721_, ⟨h1722_, ⟨h1723_, ⟨h1724_, ⟨h1725_, ⟨h1726_, h1727_⟩⟩⟩⟩⟩⟩⟩⟩⟩⟩⟩⟩⟩⟩⟩⟩
    refine ⟨(la_behind_44 h1713_), ?_⟩
    refine ⟨h1716_, ?_⟩
    refine ⟨h1711_, ?_⟩
    refine ⟨h1712_, ?_⟩
    refine ⟨h1592_, ?_⟩
    refine ⟨h1593_, ?_⟩
    refine ⟨(la_behind_75 h1594_ h1714_), ?_⟩
    refine ⟨(la_behind_154 h25_ h1712_), ?_⟩
    refine ⟨(sm_F1_tr (sm_F1_le h1596_ (Int.le_refl _)) h1719_ h1594_), ?_⟩
    refine ⟨(sm_F1_tr (sm_F1_le h1597_ (Int.le_refl _)) h1720_ h1594_), ?_⟩
    refine ⟨(sm_F1_tr (sm_F1_le h1598_ (Int.le_refl _)) h1721_ h1594_), ?_⟩
    refine ⟨(sm_F1_tr (sm_F1_le h1599_ (Int.le_refl _)) h1722_ h1594_), ?_⟩
    refine ⟨(sm_F1_tr (sm_F1_le h1600_ (Int.le_refl _)) h1723_ (la_behind_77 h1594_)), ?_⟩
    refine ⟨(sm_F1_tr (sm_F1_le h1601_ (Int.le_refl _)) h1724_ (la_behind_77 h1594_)), ?_⟩
    refine ⟨(sm_F1_tr (sm_F1_le h1602_ (Int.le_refl _)) h1725_ (la_behind_77 h1594_)), ?_⟩
    refine ⟨(sm_F1_tr (sm_F1_le h1603_ (Int.le_refl _)) h1726_ (la_behind_77 h1594_)), ?_⟩
    refine ⟨h1604_, ?_⟩
    refine ⟨h1605_, ?_⟩
    refine ⟨h1606_, ?_⟩
    refine ⟨h1607_, ?_⟩
    refine ⟨h1608_, ?_⟩
    refine ⟨h1609_, ?_⟩
    refine ⟨h1610_, ?_⟩
    refine ⟨h1611_, ?_⟩
    refine ⟨h1612_, ?_⟩
    refine ⟨h1613_, ?_⟩
    refine ⟨?_, ?_⟩
    · skip
      intro h1728_
      have e1729_ : S 12 (5 * p1 + 0) = S 12 (5 * p1) := congrArg ((S 12)) la_behind_26
      by_cases c1730_ : g153 1047 0 = 1
      · skip
        have h1731_ := (h1718_ c1730_)
        by_cases c1736_ : x11 = (-1)
        · skip
          have e1737_ : (if x11 = (-1) then 0 else 17 * S 1100005 x11 + 17 : Int) = 0 := if_pos c1736_
          have e1738_ : (if x11 = (-1) then 0 else 8 * S 1100005 x11 + 17 : Int) = 0 := if_pos c1736_
          have h1739_ := (h1617_ (la_behind_286 h1395_ c1736_))
          have h1740_ := (h1739_ h52_)
          exact (la_behind_287 h49_ h1616_ e1737_)
        · skip
          have e1741_ : (if x11 = (-1) then 0 else 17 * S 1100005 x11 + 17 : Int) = 17 * S 1100005 x11 + 17 := if_neg c1736_
          have e1742_ : (if x11 = (-1) then 0 else 8 * S 1100005 x11 + 17 : Int) = 8 * S 1100005 x11 + 17 := if_neg c1736_
          have h1743_ := (h1397_ (la_behind_245 (la_behind_244 h1395_ c1736_)))
          have h1744_ := (h1410_ (la_behind_245 (la_behind_244 h1395_ c1736_)))
          have h1745_ := (h1617_ (la_behind_288 (la_behind_244 h1395_ c1736_) (sm_ex_e (sm_li_r h1407_ c1736_)).2.2.2.2))
          have h1746_ := (h1743_ (sm_ex_e (sm_li_r h1407_ c1736_)).2.1)
          obtain ⟨h1747_, ⟨h1748_, ⟨h1749_, h1750_⟩⟩⟩ := (h1744_ (sm_ex_e (sm_li_r h1407_ c1736_)).2.1)
          have h1751_ := (h1745_ h52_)
          obtain ⟨h1752_, h1753_⟩ := (h1746_ (sm_ex_e (sm_li_r h1407_ c1736_)).2.2.1)
          have h1754_ := (h1750_ (sm_ex_e (sm_li_r h1407_ c1736_)).2.2.1)
          exact (la_behind_289 h1386_ h1616_ e1741_ (sm_ex_e (sm_li_r h1407_ c1736_)).2.2.2.2)
      · skip
        have h1755_ : ¬ (g145 1047 0 = 1) := fun q_ => c1730_ (h1717_ q_)
        obtain ⟨h1756_, ⟨h1757_, ⟨h1758_, ⟨h1759_, ⟨h1760_, ⟨h1761_, ⟨h1762_, ⟨h1763_, ⟨h1764_, ⟨h1765_, ⟨h1766_, ⟨h1767_, ⟨h1768_, h1769_⟩⟩⟩⟩⟩⟩⟩⟩⟩⟩⟩⟩⟩ := (h1727_ (la_behind_61 h1711_ (la_behind_60 h1712_ c1730_)))
        have h1770_ := (h1769_ la_behind_290)
        obtain ⟨h1771_, ⟨h1772_, ⟨h1773_, ⟨h1774_, ⟨h1775_, ⟨h1776_, ⟨h1777_, ⟨h1778_, ⟨h1779_, ⟨h1780_, ⟨h1781_, ⟨h1782_, ⟨h1783_, ⟨h1784_, ⟨h1785_, ⟨h1786_, -⟩⟩⟩⟩⟩⟩⟩⟩⟩⟩⟩⟩⟩⟩⟩⟩ := (h1615_ h1756_)
        have h1787_ := (h1770_ la_behind_292)
        exact (la_behind_293 h49_ h1716_ h1757_ h1786_)
    intro h1788_
    have h1789_ : ¬ (g145 1047 0 = 1) := fun q_ => (la_behind_43 h1788_) (h1717_ q_)
    obtain ⟨h1790_, ⟨h1791_, ⟨h1792_, ⟨h1793_, ⟨h1794_, ⟨h1795_, ⟨h1796_, ⟨h1797_, ⟨h1798_, ⟨h1799_, ⟨h1800_, ⟨h1801_, ⟨h1802_, h1803_⟩⟩⟩⟩⟩⟩⟩⟩⟩⟩⟩⟩⟩ := (h1727_ h1788_)
    have h1804_ := (h1803_ la_behind_290)
    obtain ⟨h1805_, ⟨h1806_, ⟨h1807_, ⟨h1808_, ⟨h1809_, ⟨h1810_, ⟨h1811_, ⟨h1812_, ⟨h1813_, ⟨h1814_, ⟨h1815_, ⟨h1816_, ⟨h1817_, ⟨h1818_, ⟨h1819_, ⟨h1820_, -⟩⟩⟩⟩⟩⟩⟩⟩⟩⟩⟩⟩⟩⟩⟩⟩ := (h1615_ h1790_)
    have h1821_ := (h1804_ la_behind_292)
    refine ⟨h25_, ?_⟩
    refine ⟨h1792_, ?_⟩
    refine ⟨h1807_, ?_⟩
    refine ⟨h1808_, ?_⟩
    refine ⟨(la_behind_194 h1791_ h1809_), ?_⟩
    refine ⟨(la_behind_294 h1594_ h1791_), ?_⟩
    refine ⟨(sm_FC_s (sm_FC_F h1811_ (sm_F1_le h1722_ (Int.le_refl _)) (Int.le_refl _) (Int.le_refl _) (Int.le_refl _) rfl) (sm_FC_1 h1795_ (sm_FC_0 h1715_))), ?_⟩
    refine ⟨(la_behind_295 h41_ h1414_ h1796_ (sm_dl_15 : sm_dl 15 r149 = -r149 - 1) h1812_), ?_⟩
    refine ⟨(la_behind_71 h1797_ (sm_nt_15 : sm_nt 15 (g145 1046 0) (g145 1100023 (g145 1046 0)) (g145 1100023 (g145 1100023 (g145 1046 0))) = g145 1100023 (g145 1046 0)) h1813_), ?_⟩
    refine ⟨(la_behind_71 h1798_ (sm_nd_15 : sm_nd 15 (g145 1100024 (g145 1046 0)) = g145 1100024 (g145 1046 0)) h1814_), ?_⟩
    refine ⟨(la_behind_71 h1799_ (sm_nl_15 : sm_nl 15 (g145 1046 0) (g145 1100007 (g145 1046 0)) (g145 1100025 (g145 1046 0)) (g145 1100007 (g145 1100025 (g145 1046 0))) (g145 1100025 (g145 1100025 (g145 1046 0))) = g145 1100025 (g145 1046 0)) h1815_), ?_⟩
    refine ⟨(la_behind_71 h1800_ (sm_nt_15 : sm_nt 15 (g145 1100007 (g145 1046 0)) (g145 1100007 (g145 1100023 (g145 1046 0))) (g145 1100007 (g145 1100023 (g145 1100023 (g145 1046 0)))) = g145 1100007 (g145 1100023 (g145 1046 0))) h1816_), ?_⟩
    refine ⟨(la_behind_198 h1817_ h1821_), ?_⟩
    refine ⟨h1818_, ?_⟩
    refine ⟨?_, ?_⟩
    · skip
      have e1822_ : S 1100007 (g145 1100023 (g145 1046 0)) = S 1100007 (S 1100023 (S 1046 0)) := congrArg ((S 1100007)) h1813_
      have e1823_ : S 1100007 (g145 1100025 (g145 1046 0)) = S 1100007 (S 1100025 (S 1046 0)) := congrArg ((S 1100007)) h1815_
      have e1824_ : S 1100007 (g153 1100023 (g153 1046 0)) = S 1100007 (S 1100023 (S 1046 0)) := congrArg ((S 1100007)) (la_behind_71 h1797_ (sm_nt_15 : sm_nt 15 (g145 1046 0) (g145 1100023 (g145 1046 0)) (g145 1100023 (g145 1100023 (g145 1046 0))) = g145 1100023 (g145 1046 0)) h1813_)
      have e1825_ : S 1100007 (g153 1100023 (g153 1046 0)) = S 1100007 (g145 1100023 (g145 1046 0)) := congrArg ((S 1100007)) (la_behind_70 h1797_ (sm_nt_15 : sm_nt 15 (g145 1046 0) (g145 1100023 (g145 1046 0)) (g145 1100023 (g145 1100023 (g145 1046 0))) = g145 1100023 (g145 1046 0)))
      have e1826_ : S 1100007 (g153 1100025 (g153 1046 0)) = S 1100007 (S 1100025 (S 1046 0)) := congrArg ((S 1100007)) (la_behind_71 h1799_ (sm_nl_15 : sm_nl 15 (g145 1046 0) (g145 1100007 (g145 1046 0)) (g145 1100025 (g145 1046 0)) (g145 1100007 (g145 1100025 (g145 1046 0))) (g145 1100025 (g145 1100025 (g145 1046 0))) = g145 1100025 (g145 1046 0)) h1815_)
      have e1827_ : S 1100007 (g153 1100025 (g153 1046 0)) = S 1100007 (g145 1100025 (g145 1046 0)) := congrArg ((S 1100007)) (la_behind_70 h1799_ (sm_nl_15 : sm_nl 15 (g145 1046 0) (g145 1100007 (g145 1046 0)) (g145 1100025 (g145 1046 0)) (g145 1100007 (g145 1100025 (g145 1046 0))) (g145 1100025 (g145 1100025 (g145 1046 0))) = g145 1100025 (g145 1046 0)))
      have e1828_ : S 12 (5 * p1 + 0) = S 12 (5 * p1) := congrArg ((S 12)) la_behind_26
      have e1829_ : g145 1100007 (g153 1100023 (g153 1046 0)) = g145 1100007 (g145 1100023 (g145 1046 0)) := congrArg ((g145 1100007)) (la_behind_70 h1797_ (sm_nt_15 : sm_nt 15 (g145 1046 0) (g145 1100023 (g145 1046 0)) (g145 1100023 (g145 1100023 (g145 1046 0))) = g145 1100023 (g145 1046 0)))
      have e1830_ : g145 1100007 (g153 1100025 (g153 1046 0)) = g145 1100007 (g145 1100025 (g145 1046 0)) := congrArg ((g145 1100007)) (la_behind_70 h1799_ (sm_nl_15 : sm_nl 15 (g145 1046 0) (g145 1100007 (g145 1046 0)) (g145 1100025 (g145 1046 0)) (g145 1100007 (g145 1100025 (g145 1046 0))) (g145 1100025 (g145 1100025 (g145 1046 0))) = g145 1100025 (g145 1046 0)))
      by_cases c1831_ : 0 ≤ x11
      · skip
        have e1832_ : (if x11 = (-1) then 0 else 17 * S 1100005 x11 + 17 : Int) = 17 * S 1100005 x11 + 17 := if_neg (la_behind_300 c1831_)
        have e1833_ : (if x11 = (-1) then 0 else 8 * S 1100005 x11 + 17 : Int) = 8 * S 1100005 x11 + 17 := if_neg (la_behind_300 c1831_)
        have h1834_ := (h1397_ c1831_)
        have h1835_ := (h1410_ c1831_)
        have h1836_ := (h1617_ (la_behind_301 c1831_ (sm_ex_e (sm_li_r h1407_ (la_behind_300 c1831_))).2.2.2.2))
        have h1837_ := (h1834_ (sm_ex_e (sm_li_r h1407_ (la_behind_300 c1831_))).2.1)
        obtain ⟨h1838_, ⟨h1839_, ⟨h1840_, h1841_⟩⟩⟩ := (h1835_ (sm_ex_e (sm_li_r h1407_ (la_behind_300 c1831_))).2.1)
        have h1842_ := (h1836_ h52_)
        obtain ⟨h1843_, h1844_⟩ := (h1837_ (sm_ex_e (sm_li_r h1407_ (la_behind_300 c1831_))).2.2.1)
        have h1845_ := (h1841_ (sm_ex_e (sm_li_r h1407_ (la_behind_300 c1831_))).2.2.1)
        exact (sm_HB_s (sm_HB_F h1819_ (sm_F1_le h1723_ la_behind_202) (Int.le_refl _) (Int.le_refl _) (Int.le_refl _) (la_behind_303 h41_ h1791_ h1842_)) (sm_HB_1 (by rw [((sm_F1_at h1723_ (g145 1046 0) la_behind_89).trans rfl)]; exact (la_behind_304 h1414_ h1587_ h1791_ h1810_ h1812_ (sm_ex_e (sm_li_r h1407_ (la_behind_300 c1831_))).2.2.2.2 h1844_)) (sm_HB_0 h1715_)))
      · skip
        have e1846_ : (if x11 = (-1) then 0 else 17 * S 1100005 x11 + 17 : Int) = 0 := if_pos (la_behind_305 h1395_ c1831_)
        have e1847_ : (if x11 = (-1) then 0 else 8 * S 1100005 x11 + 17 : Int) = 0 := if_pos (la_behind_305 h1395_ c1831_)
        have h1848_ := (h1617_ (la_behind_306 h1395_ c1831_))
        have h1849_ := (h1848_ h52_)
        exact (sm_HB_s (sm_HB_F h1819_ (sm_F1_le h1723_ la_behind_202) (Int.le_refl _) (Int.le_refl _) (Int.le_refl _) (la_behind_307 h52_ h1414_ h1791_ e1847_)) (sm_HB_1 (by rw [((sm_F1_at h1723_ (g145 1046 0) la_behind_89).trans rfl)]; exact (la_behind_308 h41_ h52_ h1587_ h1791_ h1810_ h1812_)) (sm_HB_0 h1715_)))
    refine ⟨(la_behind_205 h1791_ h1820_), ?_⟩
    exact trivial
  rintro ⟨h1850_, h1851_⟩
  have h1852_ := (h39_ (la_behind_309 h1850_ h1851_))
  intro h1853_
  have h1854_ := (h1853_ (la_behind_8 h53_))
  have h1855_ := (h1854_ (la_behind_309 h1850_ h1851_))
  intro h1856_
  have h1857_ := (h1856_ h3_)
  have h1858_ := (h1857_ (sm_ex_e h1405_).1)
  have h1859_ := (h1858_ (sm_ex_e h1405_).2.1)
  have h1860_ := (h1859_ (sm_ex_e h1405_).2.2.1)
  obtain ⟨h1861_, ⟨h1862_, ⟨h1863_, h1864_⟩⟩⟩ := (h1860_ h1855_)
  intro h1865_
  have h1866_ := (h1865_ h3_)
  have h1867_ := (h1866_ (sm_ex_e h1863_).1)
  obtain ⟨h1868_, ⟨h1869_, ⟨h1870_, h1871_⟩⟩⟩ := (h1867_ (sm_ex_e h1863_).2.1)
  obtain ⟨h1872_, ⟨h1873_, ⟨h1874_, h1875_⟩⟩⟩ := (h1868_ (sm_ex_e h1863_).2.2.1)
  refine ⟨?_, ?_⟩
  · skip
    refine ⟨h14_, ?_⟩
    refine ⟨h15_, ?_⟩
    refine ⟨h16_, ?_⟩
    refine ⟨h17_, ?_⟩
    intro h1876_
    refine ⟨h28_, ?_⟩
    refine ⟨la_behind_311, ?_⟩
    refine ⟨la_behind_312, ?_⟩
    refine ⟨(sm_ci_18 (la_behind_313 h26_ h32_ h33_ h40_ (sm_dl_18 : sm_dl 18 0 = 1) (sm_nt_18 : sm_nt 18 (S 1046 0) (S 1100023 (S 1046 0)) (S 1100023 (S 1100023 (S 1046 0))) = S 1100023 (S 1046 0)) (sm_nl_18 : sm_nl 18 (S 1046 0) (S 1100007 (S 1046 0)) (S 1100025 (S 1046 0)) (S 1100007 (S 1100025 (S 1046 0))) (S 1100025 (S 1100025 (S 1046 0))) = S 1100025 (S 1046 0)))), ?_⟩
    refine ⟨la_behind_314, ?_⟩
    intro h1877_
    have h1878_ := (h1877_.resolve_left la_behind_315)
    have h1879_ := (h32_ (la_behind_317 h1878_))
    have h1880_ := (h33_ (la_behind_317 h1878_))
    have h1881_ := (h1397_ (sm_ex_e (sm_li_r h1407_ (la_behind_316 h1878_))).1)
    have h1882_ := (h1410_ (sm_ex_e (sm_li_r h1407_ (la_behind_316 h1878_))).1)
    have h1883_ := (h1873_ (la_behind_318 h1878_))
    have h1884_ := (h1874_ (la_behind_319 h1878_))
    have h1885_ := (h1881_ (sm_ex_e (sm_li_r h1407_ (la_behind_316 h1878_))).2.1)
    obtain ⟨h1886_, ⟨h1887_, ⟨h1888_, h1889_⟩⟩⟩ := (h1882_ (sm_ex_e (sm_li_r h1407_ (la_behind_316 h1878_))).2.1)
    obtain ⟨h1890_, h1891_⟩ := (h1885_ (sm_ex_e (sm_li_r h1407_ (la_behind_316 h1878_))).2.2.1)
    obtain ⟨h1892_, ⟨h1893_, ⟨h1894_, h1895_⟩⟩⟩ := (h1886_ (la_behind_320 h1878_))
    obtain ⟨h1896_, ⟨h1897_, h1898_⟩⟩ := (h1887_ (la_behind_321 h1878_))
    obtain ⟨h1899_, ⟨h1900_, h1901_⟩⟩ := (h1888_ (la_behind_322 h1878_))
    have h1902_ := (h1889_ (sm_ex_e (sm_li_r h1407_ (la_behind_316 h1878_))).2.2.1)
    have h1903_ := (h1893_ (la_behind_318 h1878_))
    have h1904_ := (h1894_ (la_behind_319 h1878_))
    have h1905_ := (h1898_ (la_behind_323 h1878_))
    have h1906_ := (h1901_ (la_behind_324 h1878_))
    have e1907_ : S 11 p1 = S 11 (S 12 (5 * p1)) := congrArg ((S 11)) (la_behind_325 h1878_)
    have e1908_ : S 11 x8 = S 11 (S 12 (5 * p1)) := congrArg ((S 11)) (la_behind_325 h1878_)
    have e1909_ : S 11 x8 = S 11 p1 := congrArg ((S 11)) (la_behind_325 h1878_)
    have e1910_ : S 1100001 (S 12 (5 * x8 + 1)) = S 1100001 (S 12 (5 * x8)) := congrArg ((S 1100001)) (la_behind_325 h1878_)
    have e1911_ : S 1100001 p1 = S 1100001 (S 12 (5 * x8)) := congrArg ((S 1100001)) (la_behind_325 h1878_)
    have e1912_ : S 1100001 p1 = S 1100001 (S 12 (5 * x8 + 1)) := congrArg ((S 1100001)) (la_behind_325 h1878_)
    have e1913_ : S 1100001 x11 = S 1100001 (S 12 (5 * x8)) := congrArg ((S 1100001)) (la_behind_325 h1878_)
    have e1914_ : S 1100001 x11 = S 1100001 (S 12 (5 * x8 + 1)) := congrArg ((S 1100001)) (la_behind_325 h1878_)
    have e1915_ : S 1100001 x11 = S 1100001 p1 := congrArg ((S 1100001)) (la_behind_325 h1878_)
    have e1916_ : S 1100001 x8 = S 1100001 (S 12 (5 * x8)) := congrArg ((S 1100001)) (la_behind_325 h1878_)
    have e1917_ : S 1100001 x8 = S 1100001 (S 12 (5 * x8 + 1)) := congrArg ((S 1100001)) (la_behind_325 h1878_)
    have e1918_ : S 1100001 x8 = S 1100001 p1 := congrArg ((S 1100001)) (la_behind_325 h1878_)
    have e1919_ : S 1100001 x8 = S 1100001 x11 := congrArg ((S 1100001)) (la_behind_325 h1878_)
    have e1920_ : S 1100002 (S 12 (5 * x8 + 1)) = S 1100002 (S 12 (5 * x8)) := congrArg ((S 1100002)) (la_behind_325 h1878_)
    have e1921_ : S 1100002 p1 = S 1100002 (S 12 (5 * x8)) := congrArg ((S 1100002)) (la_behind_325 h1878_)
    have e1922_ : S 1100002 p1 = S 1100002 (S 12 (5 * x8 + 1)) := congrArg ((S 1100002)) (la_behind_325 h1878_)
    have e1923_ : S 1100002 x11 = S 1100002 (S 12 (5 * x8)) := congrArg ((S 1100002)) (la_behind_325 h1878_)
    have e1924_ : S 1100002 x11 = S 1100002 (S 12 (5 * x8 + 1)) := congrArg ((S 1100002)) (la_behind_325 h1878_)
    have e1925_ : S 1100002 x11 = S 1100002 p1 := congrArg ((S 1100002)) (la_behind_325 h1878_)
    have e1926_ : S 1100002 x8 = S 1100002 (S 12 (5 * x8)) := congrArg ((S 1100002)) (la_behind_325 h1878_)
    have e1927_ : S 1100002 x8 = S 1100002 (S 12 (5 * x8 + 1)) := congrArg ((S 1100002)) (la_behind_325 h1878_)
    have e1928_ : S 1100002 x8 = S 1100002 p1 := congrArg ((S 1100002)) (la_behind_325 h1878_)
    have e1929_ : S 1100002 x8 = S 1100002 x11 := congrArg ((S 1100002)) (la_behind_325 h1878_)
    have e1930_ : S 1100005 (S 12 (5 * x8 + 1)) = S 1100005 (S 12 (5 * x8)) := congrArg ((S 1100005)) (la_behind_325 h1878_)
    have e1931_ : S 1100005 p1 = S 1100005 (S 12 (5 * x8)) := congrArg ((S 1100005)) (la_behind_325 h1878_)
    have e1932_ : S 1100005 p1 = S 1100005 (S 12 (5 * x8 + 1)) := congrArg ((S 1100005)) (la_behind_325 h1878_)
    have e1933_ : S 1100005 x11 = S 1100005 (S 12 (5 * x8)) := congrArg ((S 1100005)) (la_behind_325 h1878_)
    have e1934_ : S 1100005 x11 = S 1100005 (S 12 (5 * x8 + 1)) := congrArg ((S 1100005)) (la_behind_325 h1878_)
    have e1935_ : S 1100005 x11 = S 1100005 p1 := congrArg ((S 1100005)) (la_behind_325 h1878_)
    have e1936_ : S 1100005 x8 = S 1100005 (S 12 (5 * x8)) := congrArg ((S 1100005)) (la_behind_325 h1878_)
    have e1937_ : S 1100005 x8 = S 1100005 (S 12 (5 * x8 + 1)) := congrArg ((S 1100005)) (la_behind_325 h1878_)
    have e1938_ : S 1100005 x8 = S 1100005 p1 := congrArg ((S 1100005)) (la_behind_325 h1878_)
    have e1939_ : S 1100005 x8 = S 1100005 x11 := congrArg ((S 1100005)) (la_behind_325 h1878_)
    have e1940_ : S 1100007 (S 1100023 (S 1046 0)) = S 1100007 (S 1046 0) := congrArg ((S 1100007)) (la_behind_325 h1878_)
    have e1941_ : S 1100007 (S 1100025 (S 1046 0)) = S 1100007 (S 1046 0) := congrArg ((S 1100007)) (la_behind_325 h1878_)
    have e1942_ : S 1100007 (S 1100025 (S 1046 0)) = S 1100007 (S 1100023 (S 1046 0)) := congrArg ((S 1100007)) (la_behind_325 h1878_)
    have e1943_ : S 1100023 (S 1100023 (S 1046 0)) = S 1100023 (S 1046 0) := congrArg ((S 1100023)) (la_behind_325 h1878_)
    have e1944_ : S 1100025 (S 1100025 (S 1046 0)) = S 1100025 (S 1046 0) := congrArg ((S 1100025)) (la_behind_325 h1878_)
    have e1945_ : S 12 (5 * x8) = S 12 (5 * p1) := congrArg ((S 12)) (la_behind_326 h1878_)
    have e1946_ : S 12 (5 * S 12 (5 * x8 + 1) + 1) = S 12 (5 * p1) := congrArg ((S 12)) (la_behind_327 h1878_)
    have e1947_ : S 12 (5 * S 12 (5 * x8 + 1) + 1) = S 12 (5 * x8) := congrArg ((S 12)) (la_behind_327 h1878_)
    have e1948_ : S 12 (5 * p1 + 0) = S 12 (5 * p1) := congrArg ((S 12)) la_behind_26
    have e1949_ : S 12 (5 * p1 + 0) = S 12 (5 * x8) := congrArg ((S 12)) (la_behind_328 h1878_)
    have e1950_ : S 12 (5 * p1 + 0) = S 12 (5 * S 12 (5 * x8 + 1) + 1) := congrArg ((S 12)) (la_behind_329 h1878_)
    have e1951_ : S 12 (5 * p1 + 1) = S 12 (5 * p1) := congrArg ((S 12)) (la_behind_330 h1878_)
    have e1952_ : S 12 (5 * p1 + 1) = S 12 (5 * x8) := congrArg ((S 12)) (la_behind_327 h1878_)
    have e1953_ : S 12 (5 * p1 + 1) = S 12 (5 * S 12 (5 * x8 + 1) + 1) := congrArg ((S 12)) (la_behind_331 h1878_)
    have e1954_ : S 12 (5 * p1 + 1) = S 12 (5 * p1 + 0) := congrArg ((S 12)) (la_behind_332 h1878_)
    have e1955_ : S 12 (5 * x11 + 1) = S 12 (5 * p1) := congrArg ((S 12)) (la_behind_327 h1878_)
    have e1956_ : S 12 (5 * x11 + 1) = S 12 (5 * x8) := congrArg ((S 12)) (la_behind_327 h1878_)
    have e1957_ : S 12 (5 * x11 + 1) = S 12 (5 * S 12 (5 * x8 + 1) + 1) := congrArg ((S 12)) (la_behind_331 h1878_)
    have e1958_ : S 12 (5 * x11 + 1) = S 12 (5 * p1 + 0) := congrArg ((S 12)) (la_behind_333 h1878_)
    have e1959_ : S 12 (5 * x11 + 1) = S 12 (5 * p1 + 1) := congrArg ((S 12)) (la_behind_331 h1878_)
    have e1960_ : S 12 (5 * x8 + 1) = S 12 (5 * p1) := congrArg ((S 12)) (la_behind_327 h1878_)
    have e1961_ : S 12 (5 * x8 + 1) = S 12 (5 * x8) := congrArg ((S 12)) (la_behind_330 h1878_)
    have e1962_ : S 12 (5 * x8 + 1) = S 12 (5 * S 12 (5 * x8 + 1) + 1) := congrArg ((S 12)) (la_behind_331 h1878_)
    have e1963_ : S 12 (5 * x8 + 1) = S 12 (5 * p1 + 0) := congrArg ((S 12)) (la_behind_333 h1878_)
    have e1964_ : S 12 (5 * x8 + 1) = S 12 (5 * p1 + 1) := congrArg ((S 12)) (la_behind_331 h1878_)
    have e1965_ : S 12 (5 * x8 + 1) = S 12 (5 * x11 + 1) := congrArg ((S 12)) (la_behind_331 h1878_)
    exact ((la_behind_334 h1878_)).elim
  intro g162
  rintro ⟨h1966_, ⟨h1967_, ⟨h1968_, ⟨h1969_, ⟨h1970_, ⟨h1971_, ⟨h1972_, ⟨h1973_, ⟨h1974_, ⟨h1975_, ⟨h1976_, ⟨h1977_, ⟨h1978_, ⟨h1979_, ⟨h1980_, ⟨h1981_, h1982_⟩⟩⟩⟩⟩⟩⟩⟩⟩⟩⟩⟩⟩⟩⟩⟩
  refine ⟨(la_behind_335 h8_ h21_ h1406_ (sm_ex_e h1861_).1 h1862_), ?_⟩
  refine ⟨?_, ?_⟩
  · skip
    refine ⟨h3_, ?_⟩
    refine ⟨h4_, ?_⟩
    refine ⟨h5_, ?_⟩
    refine ⟨h6_, ?_⟩
    refine ⟨h7_, ?_⟩
    refine ⟨h8_, ?_⟩
    refine ⟨h9_, ?_⟩
    refine ⟨h10_, ?_⟩
    refine ⟨h11_, ?_⟩
    refine ⟨h12_, ?_⟩
    refine ⟨h13_, ?_⟩
    refine ⟨(la_behind_44 h1968_), ?_⟩
    refine ⟨h1971_, ?_⟩
    refine ⟨h1966_, ?_⟩
    refine ⟨h1967_, ?_⟩
    refine ⟨h18_, ?_⟩
    refine ⟨h19_, ?_⟩
    refine ⟨(sm_ex_e h1863_).1, ?_⟩
    refine ⟨(sm_ex_e h1863_).2.1, ?_⟩
    refine ⟨(sm_ex_e h1863_).2.2.1, ?_⟩
    refine ⟨(sm_LF_w h24_ sm_F1_rf (Int.le_refl _) (Int.le_refl _) h19_ (la_behind_336 (sm_ex_e h1405_).2.2.2.1 h1406_ (sm_ex_e h1863_).2.2.2.1 h1864_)), ?_⟩
    intro h1983_
    obtain ⟨h1984_, ⟨h1985_, ⟨h1986_, ⟨h1987_, ⟨h1988_, ⟨h1989_, ⟨h1990_, ⟨h1991_, ⟨h1992_, ⟨h1993_, ⟨h1994_, ⟨h1995_, ⟨h1996_, h1997_⟩⟩⟩⟩⟩⟩⟩⟩⟩⟩⟩⟩⟩ := (h1982_ h1983_)
    have h1998_ := (h1997_ la_behind_337)
    have h1999_ := (h1998_ la_behind_339)
    refine ⟨h1986_, ?_⟩
    refine ⟨h29_, ?_⟩
    refine ⟨h30_, ?_⟩
    refine ⟨(la_behind_49 h31_ h1985_), ?_⟩
    refine ⟨(la_behind_340 h32_ h40_ h1990_ (sm_dl_18 : sm_dl 18 0 = 1) h1991_ (sm_nt_18 : sm_nt 18 (S 1046 0) (S 1100023 (S 1046 0)) (S 1100023 (S 1100023 (S 1046 0))) = S 1100023 (S 1046 0)) h1994_ (sm_nt_18 : sm_nt 18 (S 1100007 (S 1046 0)) (S 1100007 (S 1100023 (S 1046 0))) (S 1100007 (S 1100023 (S 1100023 (S 1046 0)))) = S 1100007 (S 1100023 (S 1046 0)))), ?_⟩
    refine ⟨(la_behind_341 h33_ h40_ h1990_ (sm_dl_18 : sm_dl 18 0 = 1) h1993_ (sm_nl_18 : sm_nl 18 (S 1046 0) (S 1100007 (S 1046 0)) (S 1100025 (S 1046 0)) (S 1100007 (S 1100025 (S 1046 0))) (S 1100025 (S 1100025 (S 1046 0))) = S 1100025 (S 1046 0)) h1999_), ?_⟩
    refine ⟨(la_behind_342 h34_ h1985_ h1990_ (sm_dl_18 : sm_dl 18 0 = 1)), ?_⟩
    exact (la_behind_343 h35_ (sm_ex_e h1405_).2.2.2.1 (sm_ex_e h1863_).2.2.2.1 h1985_)
  refine ⟨?_, ?_⟩
  · skip
    refine ⟨?_, ?_⟩
    · skip
      have e2000_ : S 12 (5 * p1 + 0) = S 12 (5 * p1) := congrArg ((S 12)) la_behind_26
      have e2001_ : S 11 x8 = S 11 (S 12 (5 * p1)) := congrArg ((S 11)) (la_behind_344 h53_ e2000_)
      by_cases c2002_ : g162 1047 0 = 0
      · skip
        have e2003_ : (if g162 1047 0 = 0 then S 1100002 (S 12 (5 * x8 + 1)) + (600 - g162 1046 0) + 8 else 4 : Int) = S 1100002 (S 12 (5 * x8 + 1)) + (600 - g162 1046 0) + 8 := if_pos c2002_
        obtain ⟨h2004_, ⟨h2005_, ⟨h2006_, ⟨h2007_, ⟨h2008_, ⟨h2009_, ⟨h2010_, ⟨h2011_, ⟨h2012_, ⟨h2013_, ⟨h2014_, ⟨h2015_, ⟨h2016_, h2017_⟩⟩⟩⟩⟩⟩⟩⟩⟩⟩⟩⟩⟩ := (h1982_ c2002_)
        have h2018_ := (h2017_ la_behind_337)
        have h2019_ := (h2018_ la_behind_339)
        exact (la_behind_54 h1872_ h1971_ e2003_)
      · skip
        have e2020_ : (if g162 1047 0 = 0 then S 1100002 (S 12 (5 * x8 + 1)) + (600 - g162 1046 0) + 8 else 4 : Int) = 4 := if_neg c2002_
        have h2021_ := (h1973_ (la_behind_56 h1967_ (la_behind_55 h1966_ c2002_)))
        have h2022_ := (h2021_.resolve_left (la_behind_43 h25_))
        exact (la_behind_57 e2020_)
    have e2023_ : S 12 (5 * p1 + 0) = S 12 (5 * p1) := congrArg ((S 12)) la_behind_26
    have e2024_ : S 11 x8 = S 11 (S 12 (5 * p1)) := congrArg ((S 11)) (la_behind_344 h53_ e2023_)
    by_cases c2025_ : g162 1047 0 = 1
    · skip
      have e2026_ : (if g162 1047 0 = 0 then S 1100002 (S 12 (5 * x8 + 1)) + (600 - g162 1046 0) + 8 else 4 : Int) = 4 := if_neg (la_behind_58 c2025_)
      have h2027_ := (h1973_ c2025_)
      have h2028_ := (h2027_.resolve_left (la_behind_43 h25_))
      exact (la_behind_151 h36_ h49_ e2026_ h2028_)
    · skip
      obtain ⟨h2029_, ⟨h2030_, ⟨h2031_, ⟨h2032_, ⟨h2033_, ⟨h2034_, ⟨h2035_, ⟨h2036_, ⟨h2037_, ⟨h2038_, ⟨h2039_, ⟨h2040_, ⟨h2041_, h2042_⟩⟩⟩⟩⟩⟩⟩⟩⟩⟩⟩⟩⟩ := (h1982_ (la_behind_61 h1966_ (la_behind_60 h1967_ c2025_)))
      have e2043_ : (if g162 1047 0 = 0 then S 1100002 (S 12 (5 * x8 + 1)) + (600 - g162 1046 0) + 8 else 4 : Int) = S 1100002 (S 12 (5 * x8 + 1)) + (600 - g162 1046 0) + 8 := if_pos (la_behind_61 h1966_ (la_behind_60 h1967_ c2025_))
      have h2044_ := (h2042_ la_behind_337)
      have h2045_ := (h2044_ la_behind_339)
      exact (la_behind_345 h36_ (sm_ex_e h1405_).2.2.2.1 (sm_ex_e h1863_).2.2.2.1 h2030_ e2043_)
  refine ⟨?_, ?_⟩
  · skip
    refine ⟨?_, ?_⟩
    · skip
      have e2046_ : S 12 (5 * p1 + 0) = S 12 (5 * p1) := congrArg ((S 12)) la_behind_26
      have e2047_ : S 11 x8 = S 11 (S 12 (5 * p1)) := congrArg ((S 11)) (la_behind_344 h53_ e2046_)
      by_cases c2048_ : g162 1047 0 = 0
      · skip
        have e2049_ : (if g162 1047 0 = 0 then S 1100002 (S 12 (5 * x8 + 1)) + (600 - g162 1046 0) + 8 else 4 : Int) = S 1100002 (S 12 (5 * x8 + 1)) + (600 - g162 1046 0) + 8 := if_pos c2048_
        obtain ⟨h2050_, ⟨h2051_, ⟨h2052_, ⟨h2053_, ⟨h2054_, ⟨h2055_, ⟨h2056_, ⟨h2057_, ⟨h2058_, ⟨h2059_, ⟨h2060_, ⟨h2061_, ⟨h2062_, h2063_⟩⟩⟩⟩⟩⟩⟩⟩⟩⟩⟩⟩⟩ := (h1982_ c2048_)
        have h2064_ := (h2063_ la_behind_337)
        have h2065_ := (h2064_ la_behind_339)
        exact (la_behind_54 h1872_ h1971_ e2049_)
      · skip
        have e2066_ : (if g162 1047 0 = 0 then S 1100002 (S 12 (5 * x8 + 1)) + (600 - g162 1046 0) + 8 else 4 : Int) = 4 := if_neg c2048_
        have h2067_ := (h1973_ (la_behind_56 h1967_ (la_behind_55 h1966_ c2048_)))
        have h2068_ := (h2067_.resolve_left (la_behind_43 h25_))
        exact (la_behind_57 e2066_)
    have e2069_ : S 12 (5 * p1 + 0) = S 12 (5 * p1) := congrArg ((S 12)) la_behind_26
    have e2070_ : S 11 x8 = S 11 (S 12 (5 * p1)) := congrArg ((S 11)) (la_behind_344 h53_ e2069_)
    by_cases c2071_ : g162 1047 0 = 1
    · skip
      have e2072_ : (if g162 1047 0 = 0 then S 1100002 (S 12 (5 * x8 + 1)) + (600 - g162 1046 0) + 8 else 4 : Int) = 4 := if_neg (la_behind_58 c2071_)
      have h2073_ := (h1973_ c2071_)
      have h2074_ := (h2073_.resolve_left (la_behind_43 h25_))
      exact (la_behind_63 h49_ e2072_ h2074_)
    · skip
      obtain ⟨h2075_, ⟨h2076_, ⟨h2077_, ⟨h2078_, ⟨h2079_, ⟨h2080_, ⟨h2081_, ⟨h2082_, ⟨h2083_, ⟨h2084_, ⟨h2085_, ⟨h2086_, ⟨h2087_, h2088_⟩⟩⟩⟩⟩⟩⟩⟩⟩⟩⟩⟩⟩ := (h1982_ (la_behind_61 h1966_ (la_behind_60 h1967_ c2071_)))
      have e2089_ : (if g162 1047 0 = 0 then S 1100002 (S 12 (5 * x8 + 1)) + (600 - g162 1046 0) + 8 else 4 : Int) = S 1100002 (S 12 (5 * x8 + 1)) + (600 - g162 1046 0) + 8 := if_pos (la_behind_61 h1966_ (la_behind_60 h1967_ c2071_))
      have h2090_ := (h2088_ la_behind_337)
      have h2091_ := (h2090_ la_behind_339)
      exact (la_behind_346 (sm_ex_e h1405_).2.2.2.1 (sm_ex_e h1863_).2.2.2.1 h2076_ e2089_)
  intro g171
  rintro ⟨h2092_, ⟨h2093_, ⟨h2094_, ⟨h2095_, ⟨h2096_, ⟨h2097_, ⟨h2098_, ⟨h2099_, ⟨h2100_, ⟨h2101_, ⟨h2102_, ⟨h2103_, ⟨h2104_, ⟨h2105_, ⟨h2106_, ⟨h2107_, ⟨h2108_, ⟨h2109_, ⟨h2110_, ⟨h2111_, ⟨h2112_, ⟨h2113_, ⟨h2114_, ⟨h2115_, ⟨h2116_, ⟨h2117_, ⟨h2118_, h2119_⟩⟩⟩⟩⟩⟩⟩⟩⟩⟩⟩⟩⟩⟩⟩⟩⟩⟩⟩⟩⟩⟩⟩⟩⟩⟩⟩
  refine ⟨?_, ?_⟩
  · skip
    refine ⟨h2092_, ?_⟩
    refine ⟨h2093_, ?_⟩
    refine ⟨h2094_, ?_⟩
    refine ⟨h2095_, ?_⟩
    intro h2120_
    have h2121_ : ¬ (g162 1047 0 = 1) := fun q_ => (la_behind_43 h2120_) (h2099_ q_)
    obtain ⟨h2122_, ⟨h2123_, ⟨h2124_, ⟨h2125_, ⟨h2126_, ⟨h2127_, ⟨h2128_, ⟨h2129_, ⟨h2130_, ⟨h2131_, ⟨h2132_, ⟨h2133_, ⟨h2134_, ⟨h2135_, ⟨h2136_, ⟨h2137_, -⟩⟩⟩⟩⟩⟩⟩⟩⟩⟩⟩⟩⟩⟩⟩⟩ := (h2119_ h2120_)
    have h2138_ := (h2118_ h2122_)
    obtain ⟨h2139_, ⟨h2140_, ⟨h2141_, ⟨h2142_, ⟨h2143_, ⟨h2144_, ⟨h2145_, ⟨h2146_, ⟨h2147_, ⟨h2148_, ⟨h2149_, ⟨h2150_, ⟨h2151_, h2152_⟩⟩⟩⟩⟩⟩⟩⟩⟩⟩⟩⟩⟩ := (h1982_ h2122_)
    have h2153_ := (h2152_ la_behind_337)
    have h2154_ := (h2153_ la_behind_339)
    refine ⟨h2123_, ?_⟩
    refine ⟨la_behind_173, ?_⟩
    refine ⟨la_behind_174, ?_⟩
    refine ⟨(sm_ci_10 (la_behind_347 (sm_KC_n h28_).2.1.1 h32_ h33_ h40_ h2129_ h2130_ h2132_ h2133_ h2134_ h2145_ (sm_dl_18 : sm_dl 18 0 = 1) h2146_ (sm_nt_18 : sm_nt 18 (S 1046 0) (S 1100023 (S 1046 0)) (S 1100023 (S 1100023 (S 1046 0))) = S 1100023 (S 1046 0)) h2148_ (sm_nl_18 : sm_nl 18 (S 1046 0) (S 1100007 (S 1046 0)) (S 1100025 (S 1046 0)) (S 1100007 (S 1100025 (S 1046 0))) (S 1100025 (S 1100025 (S 1046 0))) = S 1100025 (S 1046 0)) h2149_ (sm_nt_18 : sm_nt 18 (S 1100007 (S 1046 0)) (S 1100007 (S 1100023 (S 1046 0))) (S 1100007 (S 1100023 (S 1100023 (S 1046 0)))) = S 1100007 (S 1100023 (S 1046 0))) h2154_ (sm_dl_10 : sm_dl 10 0 = (-1)) (sm_nt_10 : sm_nt 10 (g171 1046 0) (g171 1100023 (g171 1046 0)) (g171 1100023 (g171 1100023 (g171 1046 0))) = g171 1100023 (g171 1046 0)) (sm_nl_10 : sm_nl 10 (g171 1046 0) (g171 1100007 (g171 1046 0)) (g171 1100025 (g171 1046 0)) (g171 1100007 (g171 1100025 (g171 1046 0))) (g171 1100025 (g171 1100025 (g171 1046 0))) = g171 1100025 (g171 1046 0)))), ?_⟩
    refine ⟨la_behind_176, ?_⟩
    intro h2155_
    have h2156_ := (h2155_.resolve_left la_behind_177)
    have h2157_ := (h32_ (la_behind_179 h2156_))
    have h2158_ := (h33_ (la_behind_179 h2156_))
    have h2159_ := (h1397_ (sm_ex_e (sm_li_r h1407_ (la_behind_349 h2156_))).1)
    have h2160_ := (h1410_ (sm_ex_e (sm_li_r h1407_ (la_behind_349 h2156_))).1)
    have h2161_ := (h1873_ (la_behind_181 h2156_))
    have h2162_ := (h1874_ (la_behind_182 h2156_))
    have h2163_ := (h2159_ (sm_ex_e (sm_li_r h1407_ (la_behind_349 h2156_))).2.1)
    obtain ⟨h2164_, ⟨h2165_, ⟨h2166_, h2167_⟩⟩⟩ := (h2160_ (sm_ex_e (sm_li_r h1407_ (la_behind_349 h2156_))).2.1)
    obtain ⟨h2168_, h2169_⟩ := (h2163_ (sm_ex_e (sm_li_r h1407_ (la_behind_349 h2156_))).2.2.1)
    obtain ⟨h2170_, ⟨h2171_, ⟨h2172_, h2173_⟩⟩⟩ := (h2164_ (la_behind_350 h2156_))
    obtain ⟨h2174_, ⟨h2175_, h2176_⟩⟩ := (h2165_ (la_behind_351 h2156_))
    obtain ⟨h2177_, ⟨h2178_, h2179_⟩⟩ := (h2166_ (la_behind_352 h2156_))
    have h2180_ := (h2167_ (sm_ex_e (sm_li_r h1407_ (la_behind_349 h2156_))).2.2.1)
    have h2181_ := (h2171_ (la_behind_181 h2156_))
    have h2182_ := (h2172_ (la_behind_182 h2156_))
    have h2183_ := (h2176_ (la_behind_353 h2156_))
    have h2184_ := (h2179_ (la_behind_354 h2156_))
    have e2185_ : S 11 p1 = S 11 (S 12 (5 * p1)) := congrArg ((S 11)) (la_behind_183 h2156_)
    have e2186_ : S 11 x8 = S 11 (S 12 (5 * p1)) := congrArg ((S 11)) (la_behind_183 h2156_)
    have e2187_ : S 11 x8 = S 11 p1 := congrArg ((S 11)) (la_behind_183 h2156_)
    have e2188_ : S 1100001 (S 12 (5 * x8 + 1)) = S 1100001 (S 12 (5 * x8)) := congrArg ((S 1100001)) (la_behind_183 h2156_)
    have e2189_ : S 1100001 p1 = S 1100001 (S 12 (5 * x8)) := congrArg ((S 1100001)) (la_behind_183 h2156_)
    have e2190_ : S 1100001 p1 = S 1100001 (S 12 (5 * x8 + 1)) := congrArg ((S 1100001)) (la_behind_183 h2156_)
    have e2191_ : S 1100001 x11 = S 1100001 (S 12 (5 * x8)) := congrArg ((S 1100001)) (la_behind_183 h2156_)
    have e2192_ : S 1100001 x11 = S 1100001 (S 12 (5 * x8 + 1)) := congrArg ((S 1100001)) (la_behind_183 h2156_)
    have e2193_ : S 1100001 x11 = S 1100001 p1 := congrArg ((S 1100001)) (la_behind_183 h2156_)
    have e2194_ : S 1100001 x8 = S 1100001 (S 12 (5 * x8)) := congrArg ((S 1100001)) (la_behind_183 h2156_)
    have e2195_ : S 1100001 x8 = S 1100001 (S 12 (5 * x8 + 1)) := congrArg ((S 1100001)) (la_behind_183 h2156_)
    have e2196_ : S 1100001 x8 = S 1100001 p1 := congrArg ((S 1100001)) (la_behind_183 h2156_)
    have e2197_ : S 1100001 x8 = S 1100001 x11 := congrArg ((S 1100001)) (la_behind_183 h2156_)
    have e2198_ : S 1100002 (S 12 (5 * x8 + 1)) = S 1100002 (S 12 (5 * x8)) := congrArg ((S 1100002)) (la_behind_183 h2156_)
    have e2199_ : S 1100002 p1 = S 1100002 (S 12 (5 * x8)) := congrArg ((S 1100002)) (la_behind_183 h2156_)
    have e2200_ : S 1100002 p1 = S 1100002 (S 12 (5 * x8 + 1)) := congrArg ((S 1100002)) (la_behind_183 h2156_)
    have e2201_ : S 1100002 x11 = S 1100002 (S 12 (5 * x8)) := congrArg ((S 1100002)) (la_behind_183 h2156_)
    have e2202_ : S 1100002 x11 = S 1100002 (S 12 (5 * x8 + 1)) := congrArg ((S 1100002)) (la_behind_183 h2156_)
    have e2203_ : S 1100002 x11 = S 1100002 p1 := congrArg ((S 1100002)) (la_behind_183 h2156_)
    have e2204_ : S 1100002 x8 = S 1100002 (S 12 (5 * x8)) := congrArg ((S 1100002)) (la_behind_183 h2156_)
    have e2205_ : S 1100002 x8 = S 1100002 (S 12 (5 * x8 + 1)) := congrArg ((S 1100002)) (la_behind_183 h2156_)
    have e2206_ : S 1100002 x8 = S 1100002 p1 := congrArg ((S 1100002)) (la_behind_183 h2156_)
    have e2207_ : S 1100002 x8 = S 1100002 x11 := congrArg ((S 1100002)) (la_behind_183 h2156_)
    have e2208_ : S 1100005 (S 12 (5 * x8 + 1)) = S 1100005 (S 12 (5 * x8)) := congrArg ((S 1100005)) (la_behind_183 h2156_)
    have e2209_ : S 1100005 p1 = S 1100005 (S 12 (5 * x8)) := congrArg ((S 1100005)) (la_behind_183 h2156_)
    have e2210_ : S 1100005 p1 = S 1100005 (S 12 (5 * x8 + 1)) := congrArg ((S 1100005)) (la_behind_183 h2156_)
    have e2211_ : S 1100005 x11 = S 1100005 (S 12 (5 * x8)) := congrArg ((S 1100005)) (la_behind_183 h2156_)
    have e2212_ : S 1100005 x11 = S 1100005 (S 12 (5 * x8 + 1)) := congrArg ((S 1100005)) (la_behind_183 h2156_)
    have e2213_ : S 1100005 x11 = S 1100005 p1 := congrArg ((S 1100005)) (la_behind_183 h2156_)
    have e2214_ : S 1100005 x8 = S 1100005 (S 12 (5 * x8)) := congrArg ((S 1100005)) (la_behind_183 h2156_)
    have e2215_ : S 1100005 x8 = S 1100005 (S 12 (5 * x8 + 1)) := congrArg ((S 1100005)) (la_behind_183 h2156_)
    have e2216_ : S 1100005 x8 = S 1100005 p1 := congrArg ((S 1100005)) (la_behind_183 h2156_)
    have e2217_ : S 1100005 x8 = S 1100005 x11 := congrArg ((S 1100005)) (la_behind_183 h2156_)
    have e2218_ : S 1100007 (S 1100023 (S 1046 0)) = S 1100007 (S 1046 0) := congrArg ((S 1100007)) (la_behind_183 h2156_)
    have e2219_ : S 1100007 (S 1100023 (S 1100023 (S 1046 0))) = S 1100007 (S 1046 0) := congrArg ((S 1100007)) (la_behind_183 h2156_)
    have e2220_ : S 1100007 (S 1100023 (S 1100023 (S 1046 0))) = S 1100007 (S 1100023 (S 1046 0)) := congrArg ((S 1100007)) (la_behind_183 h2156_)
    have e2221_ : S 1100007 (S 1100025 (S 1046 0)) = S 1100007 (S 1046 0) := congrArg ((S 1100007)) (la_behind_183 h2156_)
    have e2222_ : S 1100007 (S 1100025 (S 1046 0)) = S 1100007 (S 1100023 (S 1046 0)) := congrArg ((S 1100007)) (la_behind_183 h2156_)
    have e2223_ : S 1100007 (S 1100025 (S 1046 0)) = S 1100007 (S 1100023 (S 1100023 (S 1046 0))) := congrArg ((S 1100007)) (la_behind_183 h2156_)
    have e2224_ : S 1100007 (g162 1046 0) = S 1100007 (S 1046 0) := congrArg ((S 1100007)) (la_behind_183 h2156_)
    have e2225_ : S 1100007 (g162 1046 0) = S 1100007 (S 1100023 (S 1046 0)) := congrArg ((S 1100007)) (la_behind_183 h2156_)
    have e2226_ : S 1100007 (g162 1046 0) = S 1100007 (S 1100023 (S 1100023 (S 1046 0))) := congrArg ((S 1100007)) (la_behind_183 h2156_)
    have e2227_ : S 1100007 (g162 1046 0) = S 1100007 (S 1100025 (S 1046 0)) := congrArg ((S 1100007)) (la_behind_183 h2156_)
    have e2228_ : S 1100007 (g162 1100023 (g162 1046 0)) = S 1100007 (S 1046 0) := congrArg ((S 1100007)) (la_behind_183 h2156_)
    have e2229_ : S 1100007 (g162 1100023 (g162 1046 0)) = S 1100007 (S 1100023 (S 1046 0)) := congrArg ((S 1100007)) (la_behind_183 h2156_)
    have e2230_ : S 1100007 (g162 1100023 (g162 1046 0)) = S 1100007 (S 1100023 (S 1100023 (S 1046 0))) := congrArg ((S 1100007)) (la_behind_183 h2156_)
    have e2231_ : S 1100007 (g162 1100023 (g162 1046 0)) = S 1100007 (S 1100025 (S 1046 0)) := congrArg ((S 1100007)) (la_behind_183 h2156_)
    have e2232_ : S 1100007 (g162 1100023 (g162 1046 0)) = S 1100007 (g162 1046 0) := congrArg ((S 1100007)) (la_behind_183 h2156_)
    have e2233_ : S 1100007 (g162 1100025 (g162 1046 0)) = S 1100007 (S 1046 0) := congrArg ((S 1100007)) (la_behind_183 h2156_)
    have e2234_ : S 1100007 (g162 1100025 (g162 1046 0)) = S 1100007 (S 1100023 (S 1046 0)) := congrArg ((S 1100007)) (la_behind_183 h2156_)
    have e2235_ : S 1100007 (g162 1100025 (g162 1046 0)) = S 1100007 (S 1100023 (S 1100023 (S 1046 0))) := congrArg ((S 1100007)) (la_behind_183 h2156_)
    have e2236_ : S 1100007 (g162 1100025 (g162 1046 0)) = S 1100007 (S 1100025 (S 1046 0)) := congrArg ((S 1100007)) (la_behind_183 h2156_)
    have e2237_ : S 1100007 (g162 1100025 (g162 1046 0)) = S 1100007 (g162 1046 0) := congrArg ((S 1100007)) (la_behind_183 h2156_)
    have e2238_ : S 1100007 (g162 1100025 (g162 1046 0)) = S 1100007 (g162 1100023 (g162 1046 0)) := congrArg ((S 1100007)) (la_behind_183 h2156_)
    have e2239_ : S 1100007 (g171 1046 0) = S 1100007 (S 1046 0) := congrArg ((S 1100007)) (la_behind_183 h2156_)
    have e2240_ : S 1100007 (g171 1046 0) = S 1100007 (S 1100023 (S 1046 0)) := congrArg ((S 1100007)) (la_behind_183 h2156_)
    have e2241_ : S 1100007 (g171 1046 0) = S 1100007 (S 1100023 (S 1100023 (S 1046 0))) := congrArg ((S 1100007)) (la_behind_183 h2156_)
    have e2242_ : S 1100007 (g171 1046 0) = S 1100007 (S 1100025 (S 1046 0)) := congrArg ((S 1100007)) (la_behind_183 h2156_)
    have e2243_ : S 1100007 (g171 1046 0) = S 1100007 (g162 1046 0) := congrArg ((S 1100007)) (la_behind_183 h2156_)
    have e2244_ : S 1100007 (g171 1046 0) = S 1100007 (g162 1100023 (g162 1046 0)) := congrArg ((S 1100007)) (la_behind_183 h2156_)
    have e2245_ : S 1100007 (g171 1046 0) = S 1100007 (g162 1100025 (g162 1046 0)) := congrArg ((S 1100007)) (la_behind_183 h2156_)
    have e2246_ : S 1100007 (g171 1100023 (g171 1046 0)) = S 1100007 (S 1046 0) := congrArg ((S 1100007)) (la_behind_183 h2156_)
    have e2247_ : S 1100007 (g171 1100023 (g171 1046 0)) = S 1100007 (S 1100023 (S 1046 0)) := congrArg ((S 1100007)) (la_behind_183 h2156_)
    have e2248_ : S 1100007 (g171 1100023 (g171 1046 0)) = S 1100007 (S 1100023 (S 1100023 (S 1046 0))) := congrArg ((S 1100007)) (la_behind_183 h2156_)
    have e2249_ : S 1100007 (g171 1100023 (g171 1046 0)) = S 1100007 (S 1100025 (S 1046 0)) := congrArg ((S 1100007)) (la_behind_183 h2156_)
    have e2250_ : S 1100007 (g171 1100023 (g171 1046 0)) = S 1100007 (g162 1046 0) := congrArg ((S 1100007)) (la_behind_183 h2156_)
    have e2251_ : S 1100007 (g171 1100023 (g171 1046 0)) = S 1100007 (g162 1100023 (g162 1046 0)) := congrArg ((S 1100007)) h2130_
    have e2252_ : S 1100007 (g171 1100023 (g171 1046 0)) = S 1100007 (g162 1100025 (g162 1046 0)) := congrArg ((S 1100007)) (la_behind_183 h2156_)
    have e2253_ : S 1100007 (g171 1100023 (g171 1046 0)) = S 1100007 (g171 1046 0) := congrArg ((S 1100007)) (la_behind_183 h2156_)
    have e2254_ : S 1100007 (g171 1100025 (g171 1046 0)) = S 1100007 (S 1046 0) := congrArg ((S 1100007)) (la_behind_183 h2156_)
    have e2255_ : S 1100007 (g171 1100025 (g171 1046 0)) = S 1100007 (S 1100023 (S 1046 0)) := congrArg ((S 1100007)) (la_behind_183 h2156_)
    have e2256_ : S 1100007 (g171 1100025 (g171 1046 0)) = S 1100007 (S 1100023 (S 1100023 (S 1046 0))) := congrArg ((S 1100007)) (la_behind_183 h2156_)
    have e2257_ : S 1100007 (g171 1100025 (g171 1046 0)) = S 1100007 (S 1100025 (S 1046 0)) := congrArg ((S 1100007)) (la_behind_183 h2156_)
    have e2258_ : S 1100007 (g171 1100025 (g171 1046 0)) = S 1100007 (g162 1046 0) := congrArg ((S 1100007)) (la_behind_183 h2156_)
    have e2259_ : S 1100007 (g171 1100025 (g171 1046 0)) = S 1100007 (g162 1100023 (g162 1046 0)) := congrArg ((S 1100007)) (la_behind_183 h2156_)
    have e2260_ : S 1100007 (g171 1100025 (g171 1046 0)) = S 1100007 (g162 1100025 (g162 1046 0)) := congrArg ((S 1100007)) h2132_
    have e2261_ : S 1100007 (g171 1100025 (g171 1046 0)) = S 1100007 (g171 1046 0) := congrArg ((S 1100007)) (la_behind_183 h2156_)
    have e2262_ : S 1100007 (g171 1100025 (g171 1046 0)) = S 1100007 (g171 1100023 (g171 1046 0)) := congrArg ((S 1100007)) (la_behind_183 h2156_)
    have e2263_ : S 1100023 (S 1100023 (S 1046 0)) = S 1100023 (S 1046 0) := congrArg ((S 1100023)) (la_behind_183 h2156_)
    have e2264_ : S 1100023 (g162 1046 0) = S 1100023 (S 1046 0) := congrArg ((S 1100023)) (la_behind_183 h2156_)
    have e2265_ : S 1100023 (g162 1046 0) = S 1100023 (S 1100023 (S 1046 0)) := congrArg ((S 1100023)) (la_behind_183 h2156_)
    have e2266_ : S 1100023 (g171 1046 0) = S 1100023 (S 1046 0) := congrArg ((S 1100023)) (la_behind_183 h2156_)
    have e2267_ : S 1100023 (g171 1046 0) = S 1100023 (S 1100023 (S 1046 0)) := congrArg ((S 1100023)) (la_behind_183 h2156_)
    have e2268_ : S 1100023 (g171 1046 0) = S 1100023 (g162 1046 0) := congrArg ((S 1100023)) (la_behind_183 h2156_)
    have e2269_ : S 1100024 (g162 1046 0) = S 1100024 (S 1046 0) := congrArg ((S 1100024)) (la_behind_183 h2156_)
    have e2270_ : S 1100024 (g171 1046 0) = S 1100024 (S 1046 0) := congrArg ((S 1100024)) (la_behind_183 h2156_)
    have e2271_ : S 1100024 (g171 1046 0) = S 1100024 (g162 1046 0) := congrArg ((S 1100024)) (la_behind_183 h2156_)
    have e2272_ : S 1100025 (S 1100025 (S 1046 0)) = S 1100025 (S 1046 0) := congrArg ((S 1100025)) (la_behind_183 h2156_)
    have e2273_ : S 1100025 (g162 1046 0) = S 1100025 (S 1046 0) := congrArg ((S 1100025)) (la_behind_183 h2156_)
    have e2274_ : S 1100025 (g162 1046 0) = S 1100025 (S 1100025 (S 1046 0)) := congrArg ((S 1100025)) (la_behind_183 h2156_)
    have e2275_ : S 1100025 (g171 1046 0) = S 1100025 (S 1046 0) := congrArg ((S 1100025)) (la_behind_183 h2156_)
    have e2276_ : S 1100025 (g171 1046 0) = S 1100025 (S 1100025 (S 1046 0)) := congrArg ((S 1100025)) (la_behind_183 h2156_)
    have e2277_ : S 1100025 (g171 1046 0) = S 1100025 (g162 1046 0) := congrArg ((S 1100025)) (la_behind_183 h2156_)
    have e2278_ : S 12 (5 * x8) = S 12 (5 * p1) := congrArg ((S 12)) (la_behind_355 h2156_)
    have e2279_ : S 12 (5 * S 12 (5 * x8 + 1) + 1) = S 12 (5 * p1) := congrArg ((S 12)) (la_behind_186 h2156_)
    have e2280_ : S 12 (5 * S 12 (5 * x8 + 1) + 1) = S 12 (5 * x8) := congrArg ((S 12)) (la_behind_186 h2156_)
    have e2281_ : S 12 (5 * p1 + 0) = S 12 (5 * p1) := congrArg ((S 12)) la_behind_26
    have e2282_ : S 12 (5 * p1 + 0) = S 12 (5 * x8) := congrArg ((S 12)) (la_behind_356 h2156_)
    have e2283_ : S 12 (5 * p1 + 0) = S 12 (5 * S 12 (5 * x8 + 1) + 1) := congrArg ((S 12)) (la_behind_357 h2156_)
    have e2284_ : S 12 (5 * p1 + 1) = S 12 (5 * p1) := congrArg ((S 12)) (la_behind_184 h2156_)
    have e2285_ : S 12 (5 * p1 + 1) = S 12 (5 * x8) := congrArg ((S 12)) (la_behind_186 h2156_)
    have e2286_ : S 12 (5 * p1 + 1) = S 12 (5 * S 12 (5 * x8 + 1) + 1) := congrArg ((S 12)) (la_behind_188 h2156_)
    have e2287_ : S 12 (5 * p1 + 1) = S 12 (5 * p1 + 0) := congrArg ((S 12)) (la_behind_185 h2156_)
    have e2288_ : S 12 (5 * x11 + 1) = S 12 (5 * p1) := congrArg ((S 12)) (la_behind_186 h2156_)
    have e2289_ : S 12 (5 * x11 + 1) = S 12 (5 * x8) := congrArg ((S 12)) (la_behind_186 h2156_)
    have e2290_ : S 12 (5 * x11 + 1) = S 12 (5 * S 12 (5 * x8 + 1) + 1) := congrArg ((S 12)) (la_behind_188 h2156_)
    have e2291_ : S 12 (5 * x11 + 1) = S 12 (5 * p1 + 0) := congrArg ((S 12)) (la_behind_187 h2156_)
    have e2292_ : S 12 (5 * x11 + 1) = S 12 (5 * p1 + 1) := congrArg ((S 12)) (la_behind_188 h2156_)
    have e2293_ : S 12 (5 * x8 + 1) = S 12 (5 * p1) := congrArg ((S 12)) (la_behind_186 h2156_)
    have e2294_ : S 12 (5 * x8 + 1) = S 12 (5 * x8) := congrArg ((S 12)) (la_behind_184 h2156_)
    have e2295_ : S 12 (5 * x8 + 1) = S 12 (5 * S 12 (5 * x8 + 1) + 1) := congrArg ((S 12)) (la_behind_188 h2156_)
    have e2296_ : S 12 (5 * x8 + 1) = S 12 (5 * p1 + 0) := congrArg ((S 12)) (la_behind_187 h2156_)
    have e2297_ : S 12 (5 * x8 + 1) = S 12 (5 * p1 + 1) := congrArg ((S 12)) (la_behind_188 h2156_)
    have e2298_ : S 12 (5 * x8 + 1) = S 12 (5 * x11 + 1) := congrArg ((S 12)) (la_behind_188 h2156_)
    have e2299_ : g162 1100007 (g162 1100023 (g162 1046 0)) = g162 1100007 (g162 1046 0) := congrArg ((g162 1100007)) (la_behind_183 h2156_)
    have e2300_ : g162 1100007 (g162 1100025 (g162 1046 0)) = g162 1100007 (g162 1046 0) := congrArg ((g162 1100007)) (la_behind_183 h2156_)
    have e2301_ : g162 1100007 (g162 1100025 (g162 1046 0)) = g162 1100007 (g162 1100023 (g162 1046 0)) := congrArg ((g162 1100007)) (la_behind_183 h2156_)
    have e2302_ : g162 1100007 (g171 1046 0) = g162 1100007 (g162 1046 0) := congrArg ((g162 1100007)) (la_behind_183 h2156_)
    have e2303_ : g162 1100007 (g171 1046 0) = g162 1100007 (g162 1100023 (g162 1046 0)) := congrArg ((g162 1100007)) (la_behind_183 h2156_)
    have e2304_ : g162 1100007 (g171 1046 0) = g162 1100007 (g162 1100025 (g162 1046 0)) := congrArg ((g162 1100007)) (la_behind_183 h2156_)
    have e2305_ : g162 1100007 (g171 1100023 (g171 1046 0)) = g162 1100007 (g162 1046 0) := congrArg ((g162 1100007)) (la_behind_183 h2156_)
    have e2306_ : g162 1100007 (g171 1100023 (g171 1046 0)) = g162 1100007 (g162 1100023 (g162 1046 0)) := congrArg ((g162 1100007)) h2130_
    have e2307_ : g162 1100007 (g171 1100023 (g171 1046 0)) = g162 1100007 (g162 1100025 (g162 1046 0)) := congrArg ((g162 1100007)) (la_behind_183 h2156_)
    have e2308_ : g162 1100007 (g171 1100023 (g171 1046 0)) = g162 1100007 (g171 1046 0) := congrArg ((g162 1100007)) (la_behind_183 h2156_)
    have e2309_ : g162 1100007 (g171 1100025 (g171 1046 0)) = g162 1100007 (g162 1046 0) := congrArg ((g162 1100007)) (la_behind_183 h2156_)
    have e2310_ : g162 1100007 (g171 1100025 (g171 1046 0)) = g162 1100007 (g162 1100023 (g162 1046 0)) := congrArg ((g162 1100007)) (la_behind_183 h2156_)
    have e2311_ : g162 1100007 (g171 1100025 (g171 1046 0)) = g162 1100007 (g162 1100025 (g162 1046 0)) := congrArg ((g162 1100007)) h2132_
    have e2312_ : g162 1100007 (g171 1100025 (g171 1046 0)) = g162 1100007 (g171 1046 0) := congrArg ((g162 1100007)) (la_behind_183 h2156_)
    have e2313_ : g162 1100007 (g171 1100025 (g171 1046 0)) = g162 1100007 (g171 1100023 (g171 1046 0)) := congrArg ((g162 1100007)) (la_behind_183 h2156_)
    have e2314_ : g162 1100023 (g171 1046 0) = g162 1100023 (g162 1046 0) := congrArg ((g162 1100023)) (la_behind_183 h2156_)
    have e2315_ : g162 1100024 (g171 1046 0) = g162 1100024 (g162 1046 0) := congrArg ((g162 1100024)) (la_behind_183 h2156_)
    have e2316_ : g162 1100025 (g171 1046 0) = g162 1100025 (g162 1046 0) := congrArg ((g162 1100025)) (la_behind_183 h2156_)
    have e2317_ : g171 1100007 (g171 1100023 (g171 1046 0)) = g171 1100007 (g171 1046 0) := congrArg ((g171 1100007)) (la_behind_183 h2156_)
    have e2318_ : g171 1100007 (g171 1100025 (g171 1046 0)) = g171 1100007 (g171 1046 0) := congrArg ((g171 1100007)) (la_behind_183 h2156_)
    have e2319_ : g171 1100007 (g171 1100025 (g171 1046 0)) = g171 1100007 (g171 1100023 (g171 1046 0)) := congrArg ((g171 1100007)) (la_behind_183 h2156_)
    have e2320_ : g171 1100023 (g171 1100023 (g171 1046 0)) = g171 1100023 (g171 1046 0) := congrArg ((g171 1100023)) (la_behind_183 h2156_)
    have e2321_ : g171 1100025 (g171 1100025 (g171 1046 0)) = g171 1100025 (g171 1046 0) := congrArg ((g171 1100025)) (la_behind_183 h2156_)
    have e2322_ : S 1100023 (g171 1100023 (g171 1046 0)) = S 1100023 (S 1046 0) := congrArg ((S 1100023)) (la_behind_183 h2156_)
    have e2323_ : S 1100023 (g171 1100023 (g171 1046 0)) = S 1100023 (S 1100023 (S 1046 0)) := congrArg ((S 1100023)) (la_behind_183 h2156_)
    have e2324_ : S 1100023 (g171 1100023 (g171 1046 0)) = S 1100023 (g162 1046 0) := congrArg ((S 1100023)) (la_behind_183 h2156_)
    have e2325_ : S 1100023 (g171 1100023 (g171 1046 0)) = S 1100023 (g171 1046 0) := congrArg ((S 1100023)) (la_behind_183 h2156_)
    have e2326_ : S 1100025 (g171 1100025 (g171 1046 0)) = S 1100025 (S 1046 0) := congrArg ((S 1100025)) (la_behind_183 h2156_)
    have e2327_ : S 1100025 (g171 1100025 (g171 1046 0)) = S 1100025 (S 1100025 (S 1046 0)) := congrArg ((S 1100025)) (la_behind_183 h2156_)
    have e2328_ : S 1100025 (g171 1100025 (g171 1046 0)) = S 1100025 (g162 1046 0) := congrArg ((S 1100025)) (la_behind_183 h2156_)
    have e2329_ : S 1100025 (g171 1100025 (g171 1046 0)) = S 1100025 (g171 1046 0) := congrArg ((S 1100025)) (la_behind_183 h2156_)
    have e2330_ : g162 1100023 (g171 1100023 (g171 1046 0)) = g162 1100023 (g162 1046 0) := congrArg ((g162 1100023)) (la_behind_183 h2156_)
    have e2331_ : g162 1100023 (g171 1100023 (g171 1046 0)) = g162 1100023 (g171 1046 0) := congrArg ((g162 1100023)) (la_behind_183 h2156_)
    have e2332_ : g162 1100025 (g171 1100025 (g171 1046 0)) = g162 1100025 (g162 1046 0) := congrArg ((g162 1100025)) (la_behind_183 h2156_)
    have e2333_ : g162 1100025 (g171 1100025 (g171 1046 0)) = g162 1100025 (g171 1046 0) := congrArg ((g162 1100025)) (la_behind_183 h2156_)
    exact ((la_behind_189 h2156_)).elim
  intro g177
  rintro ⟨h2334_, ⟨h2335_, ⟨h2336_, ⟨h2337_, ⟨h2338_, ⟨h2339_, ⟨h2340_, ⟨h2341_, ⟨h2342_, ⟨h2343_, ⟨h2344_, ⟨h2345_, ⟨h2346_, ⟨h2347_, ⟨h2348_, ⟨h2349_, h2350_⟩⟩⟩⟩⟩⟩⟩⟩⟩⟩⟩⟩⟩⟩⟩⟩
  refine ⟨?_, ?_⟩
  · skip
    refine ⟨h3_, ?_⟩
    refine ⟨h4_, ?_⟩
    refine ⟨h5_, ?_⟩
    refine ⟨h6_, ?_⟩
    refine ⟨h7_, ?_⟩
    refine ⟨h8_, ?_⟩
    refine ⟨h9_, ?_⟩
    refine ⟨h10_, ?_⟩
    refine ⟨h11_, ?_⟩
    refine ⟨h12_, ?_⟩
    refine ⟨h13_, ?_⟩
    refine ⟨(la_behind_44 h2336_), ?_⟩
    refine ⟨h2339_, ?_⟩
    refine ⟨h2334_, ?_⟩
    refine ⟨h2335_, ?_⟩
    refine ⟨h2096_, ?_⟩
    refine ⟨h2097_, ?_⟩
    refine ⟨h1395_, ?_⟩
    refine ⟨?_, ?_⟩
    · skip
      intro h2351_
      have h2352_ := (h1397_ (la_behind_245 (la_behind_244 h1395_ h2351_)))
      have h2353_ := (h1410_ (la_behind_245 (la_behind_244 h1395_ h2351_)))
      refine ⟨(la_behind_245 (la_behind_244 h1395_ h2351_)), ?_⟩
      refine ⟨?_, ?_⟩
      · skip
        have h2354_ := (h2352_ (sm_ex_e (sm_li_r h1407_ h2351_)).2.1)
        obtain ⟨h2355_, ⟨h2356_, ⟨h2357_, h2358_⟩⟩⟩ := (h2353_ (sm_ex_e (sm_li_r h1407_ h2351_)).2.1)
        obtain ⟨h2359_, h2360_⟩ := (h2354_ (sm_ex_e (sm_li_r h1407_ h2351_)).2.2.1)
        have h2361_ := (h2358_ (sm_ex_e (sm_li_r h1407_ h2351_)).2.2.1)
        have e2362_ : S 12 (5 * p1 + 0) = S 12 (5 * p1) := congrArg ((S 12)) la_behind_26
        exact (sm_ex_e (sm_li_r h1407_ h2351_)).2.1
      refine ⟨?_, ?_⟩
      · skip
        have h2363_ := (h2352_ (sm_ex_e (sm_li_r h1407_ h2351_)).2.1)
        obtain ⟨h2364_, ⟨h2365_, ⟨h2366_, h2367_⟩⟩⟩ := (h2353_ (sm_ex_e (sm_li_r h1407_ h2351_)).2.1)
        obtain ⟨h2368_, h2369_⟩ := (h2363_ (sm_ex_e (sm_li_r h1407_ h2351_)).2.2.1)
        have h2370_ := (h2367_ (sm_ex_e (sm_li_r h1407_ h2351_)).2.2.1)
        have e2371_ : S 12 (5 * p1 + 0) = S 12 (5 * p1) := congrArg ((S 12)) la_behind_26
        exact (sm_ex_e (sm_li_r h1407_ h2351_)).2.2.1
      refine ⟨?_, ?_⟩
      · skip
        have h2372_ := (h2352_ (sm_ex_e (sm_li_r h1407_ h2351_)).2.1)
        obtain ⟨h2373_, ⟨h2374_, ⟨h2375_, h2376_⟩⟩⟩ := (h2353_ (sm_ex_e (sm_li_r h1407_ h2351_)).2.1)
        obtain ⟨h2377_, h2378_⟩ := (h2372_ (sm_ex_e (sm_li_r h1407_ h2351_)).2.2.1)
        have h2379_ := (h2376_ (sm_ex_e (sm_li_r h1407_ h2351_)).2.2.1)
        have e2380_ : S 12 (5 * p1 + 0) = S 12 (5 * p1) := congrArg ((S 12)) la_behind_26
        exact h2377_
      refine ⟨?_, ?_⟩
      · skip
        have h2381_ := (h2352_ (sm_ex_e (sm_li_r h1407_ h2351_)).2.1)
        obtain ⟨h2382_, ⟨h2383_, ⟨h2384_, h2385_⟩⟩⟩ := (h2353_ (sm_ex_e (sm_li_r h1407_ h2351_)).2.1)
        obtain ⟨h2386_, h2387_⟩ := (h2381_ (sm_ex_e (sm_li_r h1407_ h2351_)).2.2.1)
        have h2388_ := (h2385_ (sm_ex_e (sm_li_r h1407_ h2351_)).2.2.1)
        have e2389_ : S 12 (5 * p1 + 0) = S 12 (5 * p1) := congrArg ((S 12)) la_behind_26
        exact (sm_ex_e (sm_li_r h1407_ h2351_)).2.2.2.1
      refine ⟨?_, ?_⟩
      · skip
        have h2390_ := (h2352_ (sm_ex_e (sm_li_r h1407_ h2351_)).2.1)
        obtain ⟨h2391_, ⟨h2392_, ⟨h2393_, h2394_⟩⟩⟩ := (h2353_ (sm_ex_e (sm_li_r h1407_ h2351_)).2.1)
        obtain ⟨h2395_, h2396_⟩ := (h2390_ (sm_ex_e (sm_li_r h1407_ h2351_)).2.2.1)
        have h2397_ := (h2394_ (sm_ex_e (sm_li_r h1407_ h2351_)).2.2.1)
        have e2398_ : S 12 (5 * p1 + 0) = S 12 (5 * p1) := congrArg ((S 12)) la_behind_26
        exact h2396_
      have h2399_ := (h2352_ (sm_ex_e (sm_li_r h1407_ h2351_)).2.1)
      obtain ⟨h2400_, ⟨h2401_, ⟨h2402_, h2403_⟩⟩⟩ := (h2353_ (sm_ex_e (sm_li_r h1407_ h2351_)).2.1)
      obtain ⟨h2404_, h2405_⟩ := (h2399_ (sm_ex_e (sm_li_r h1407_ h2351_)).2.2.1)
      have h2406_ := (h2403_ (sm_ex_e (sm_li_r h1407_ h2351_)).2.2.1)
      have e2407_ : S 12 (5 * p1 + 0) = S 12 (5 * p1) := congrArg ((S 12)) la_behind_26
      exact (sm_LF_w h24_ (sm_F1_le h2116_ (la_behind_358 h2115_)) (Int.le_refl _) (la_behind_358 h2115_) h2097_ (la_behind_359 h1386_ h1406_ (sm_ex_e h1861_).1 h1862_ (sm_ex_e (sm_li_r h1407_ h2351_)).2.2.2.2))
    refine ⟨h2097_, ?_⟩
    intro h2408_
    have h2409_ : ¬ (g171 1047 0 = 1) := fun q_ => (la_behind_43 h2408_) (h2340_ q_)
    obtain ⟨h2410_, ⟨h2411_, ⟨h2412_, ⟨h2413_, ⟨h2414_, ⟨h2415_, ⟨h2416_, ⟨h2417_, ⟨h2418_, ⟨h2419_, ⟨h2420_, ⟨h2421_, ⟨h2422_, h2423_⟩⟩⟩⟩⟩⟩⟩⟩⟩⟩⟩⟩⟩ := (h2350_ h2408_)
    have h2424_ : ¬ (g162 1047 0 = 1) := fun q_ => h2409_ (h2099_ q_)
    have h2425_ := (h2423_ la_behind_191)
    obtain ⟨h2426_, ⟨h2427_, ⟨h2428_, ⟨h2429_, ⟨h2430_, ⟨h2431_, ⟨h2432_, ⟨h2433_, ⟨h2434_, ⟨h2435_, ⟨h2436_, ⟨h2437_, ⟨h2438_, ⟨h2439_, ⟨h2440_, ⟨h2441_, -⟩⟩⟩⟩⟩⟩⟩⟩⟩⟩⟩⟩⟩⟩⟩⟩ := (h2119_ h2410_)
    have h2442_ := (h2118_ h2426_)
    have h2443_ := (h2425_ la_behind_193)
    obtain ⟨h2444_, ⟨h2445_, ⟨h2446_, ⟨h2447_, ⟨h2448_, ⟨h2449_, ⟨h2450_, ⟨h2451_, ⟨h2452_, ⟨h2453_, ⟨h2454_, ⟨h2455_, ⟨h2456_, h2457_⟩⟩⟩⟩⟩⟩⟩⟩⟩⟩⟩⟩⟩ := (h1982_ h2426_)
    have h2458_ := (h2457_ la_behind_337)
    have h2459_ := (h2458_ la_behind_339)
    refine ⟨h2412_, ?_⟩
    refine ⟨h2428_, ?_⟩
    refine ⟨h2429_, ?_⟩
    refine ⟨(la_behind_194 h2411_ h2430_), ?_⟩
    refine ⟨(la_behind_360 h32_ h40_ h2416_ (sm_dl_10 : sm_dl 10 0 = (-1)) h2417_ (sm_nt_10 : sm_nt 10 (g171 1046 0) (g171 1100023 (g171 1046 0)) (g171 1100023 (g171 1100023 (g171 1046 0))) = g171 1100023 (g171 1046 0)) h2420_ (sm_nt_10 : sm_nt 10 (g171 1100007 (g171 1046 0)) (g171 1100007 (g171 1100023 (g171 1046 0))) (g171 1100007 (g171 1100023 (g171 1100023 (g171 1046 0)))) = g171 1100007 (g171 1100023 (g171 1046 0))) h2433_ h2434_ h2437_ h2450_ (sm_dl_18 : sm_dl 18 0 = 1) h2451_ (sm_nt_18 : sm_nt 18 (S 1046 0) (S 1100023 (S 1046 0)) (S 1100023 (S 1100023 (S 1046 0))) = S 1100023 (S 1046 0)) h2454_ (sm_nt_18 : sm_nt 18 (S 1100007 (S 1046 0)) (S 1100007 (S 1100023 (S 1046 0))) (S 1100007 (S 1100023 (S 1100023 (S 1046 0)))) = S 1100007 (S 1100023 (S 1046 0)))), ?_⟩
    refine ⟨(la_behind_361 h33_ h40_ h2416_ (sm_dl_10 : sm_dl 10 0 = (-1)) h2419_ (sm_nl_10 : sm_nl 10 (g171 1046 0) (g171 1100007 (g171 1046 0)) (g171 1100025 (g171 1046 0)) (g171 1100007 (g171 1100025 (g171 1046 0))) (g171 1100025 (g171 1100025 (g171 1046 0))) = g171 1100025 (g171 1046 0)) h2433_ h2436_ h2438_ h2443_ h2450_ (sm_dl_18 : sm_dl 18 0 = 1) h2453_ (sm_nl_18 : sm_nl 18 (S 1046 0) (S 1100007 (S 1046 0)) (S 1100025 (S 1046 0)) (S 1100007 (S 1100025 (S 1046 0))) (S 1100025 (S 1100025 (S 1046 0))) = S 1100025 (S 1046 0)) h2459_), ?_⟩
    refine ⟨(la_behind_362 h2411_ h2416_ (sm_dl_10 : sm_dl 10 0 = (-1)) (sm_KC_n h2427_).2.1.2.1), ?_⟩
    have e2460_ : S 1100007 (g162 1100023 (g162 1046 0)) = S 1100007 (S 1100023 (S 1046 0)) := congrArg ((S 1100007)) (la_behind_70 h2451_ (sm_nt_18 : sm_nt 18 (S 1046 0) (S 1100023 (S 1046 0)) (S 1100023 (S 1100023 (S 1046 0))) = S 1100023 (S 1046 0)))
    have e2461_ : S 1100007 (g162 1100025 (g162 1046 0)) = S 1100007 (S 1100025 (S 1046 0)) := congrArg ((S 1100007)) (la_behind_70 h2453_ (sm_nl_18 : sm_nl 18 (S 1046 0) (S 1100007 (S 1046 0)) (S 1100025 (S 1046 0)) (S 1100007 (S 1100025 (S 1046 0))) (S 1100025 (S 1100025 (S 1046 0))) = S 1100025 (S 1046 0)))
    have e2462_ : S 1100007 (g171 1100023 (g171 1046 0)) = S 1100007 (S 1100023 (S 1046 0)) := congrArg ((S 1100007)) (la_behind_71 h2434_ h2451_ (sm_nt_18 : sm_nt 18 (S 1046 0) (S 1100023 (S 1046 0)) (S 1100023 (S 1100023 (S 1046 0))) = S 1100023 (S 1046 0)))
    have e2463_ : S 1100007 (g171 1100023 (g171 1046 0)) = S 1100007 (g162 1100023 (g162 1046 0)) := congrArg ((S 1100007)) h2434_
    have e2464_ : S 1100007 (g171 1100025 (g171 1046 0)) = S 1100007 (S 1100025 (S 1046 0)) := congrArg ((S 1100007)) (la_behind_71 h2436_ h2453_ (sm_nl_18 : sm_nl 18 (S 1046 0) (S 1100007 (S 1046 0)) (S 1100025 (S 1046 0)) (S 1100007 (S 1100025 (S 1046 0))) (S 1100025 (S 1100025 (S 1046 0))) = S 1100025 (S 1046 0)))
    have e2465_ : S 1100007 (g171 1100025 (g171 1046 0)) = S 1100007 (g162 1100025 (g162 1046 0)) := congrArg ((S 1100007)) h2436_
    have e2466_ : S 1100007 (g177 1100023 (g177 1046 0)) = S 1100007 (S 1100023 (S 1046 0)) := congrArg ((S 1100007)) (la_behind_366 h2417_ (sm_nt_10 : sm_nt 10 (g171 1046 0) (g171 1100023 (g171 1046 0)) (g171 1100023 (g171 1100023 (g171 1046 0))) = g171 1100023 (g171 1046 0)) h2434_ h2451_ (sm_nt_18 : sm_nt 18 (S 1046 0) (S 1100023 (S 1046 0)) (S 1100023 (S 1100023 (S 1046 0))) = S 1100023 (S 1046 0)))
    have e2467_ : S 1100007 (g177 1100023 (g177 1046 0)) = S 1100007 (g162 1100023 (g162 1046 0)) := congrArg ((S 1100007)) (la_behind_71 h2417_ (sm_nt_10 : sm_nt 10 (g171 1046 0) (g171 1100023 (g171 1046 0)) (g171 1100023 (g171 1100023 (g171 1046 0))) = g171 1100023 (g171 1046 0)) h2434_)
    have e2468_ : S 1100007 (g177 1100023 (g177 1046 0)) = S 1100007 (g171 1100023 (g171 1046 0)) := congrArg ((S 1100007)) (la_behind_70 h2417_ (sm_nt_10 : sm_nt 10 (g171 1046 0) (g171 1100023 (g171 1046 0)) (g171 1100023 (g171 1100023 (g171 1046 0))) = g171 1100023 (g171 1046 0)))
    have e2469_ : S 1100007 (g177 1100025 (g177 1046 0)) = S 1100007 (S 1100025 (S 1046 0)) := congrArg ((S 1100007)) (la_behind_366 h2419_ (sm_nl_10 : sm_nl 10 (g171 1046 0) (g171 1100007 (g171 1046 0)) (g171 1100025 (g171 1046 0)) (g171 1100007 (g171 1100025 (g171 1046 0))) (g171 1100025 (g171 1100025 (g171 1046 0))) = g171 1100025 (g171 1046 0)) h2436_ h2453_ (sm_nl_18 : sm_nl 18 (S 1046 0) (S 1100007 (S 1046 0)) (S 1100025 (S 1046 0)) (S 1100007 (S 1100025 (S 1046 0))) (S 1100025 (S 1100025 (S 1046 0))) = S 1100025 (S 1046 0)))
    have e2470_ : S 1100007 (g177 1100025 (g177 1046 0)) = S 1100007 (g162 1100025 (g162 1046 0)) := congrArg ((S 1100007)) (la_behind_71 h2419_ (sm_nl_10 : sm_nl 10 (g171 1046 0) (g171 1100007 (g171 1046 0)) (g171 1100025 (g171 1046 0)) (g171 1100007 (g171 1100025 (g171 1046 0))) (g171 1100025 (g171 1100025 (g171 1046 0))) = g171 1100025 (g171 1046 0)) h2436_)
    have e2471_ : S 1100007 (g177 1100025 (g177 1046 0)) = S 1100007 (g171 1100025 (g171 1046 0)) := congrArg ((S 1100007)) (la_behind_70 h2419_ (sm_nl_10 : sm_nl 10 (g171 1046 0) (g171 1100007 (g171 1046 0)) (g171 1100025 (g171 1046 0)) (g171 1100007 (g171 1100025 (g171 1046 0))) (g171 1100025 (g171 1100025 (g171 1046 0))) = g171 1100025 (g171 1046 0)))
    have e2472_ : S 12 (5 * p1 + 0) = S 12 (5 * p1) := congrArg ((S 12)) la_behind_26
    have e2473_ : g162 1100007 (g171 1100023 (g171 1046 0)) = g162 1100007 (g162 1100023 (g162 1046 0)) := congrArg ((g162 1100007)) h2434_
    have e2474_ : g162 1100007 (g171 1100025 (g171 1046 0)) = g162 1100007 (g162 1100025 (g162 1046 0)) := congrArg ((g162 1100007)) h2436_
    have e2475_ : g162 1100007 (g177 1100023 (g177 1046 0)) = g162 1100007 (g162 1100023 (g162 1046 0)) := congrArg ((g162 1100007)) (la_behind_71 h2417_ (sm_nt_10 : sm_nt 10 (g171 1046 0) (g171 1100023 (g171 1046 0)) (g171 1100023 (g171 1100023 (g171 1046 0))) = g171 1100023 (g171 1046 0)) h2434_)
    have e2476_ : g162 1100007 (g177 1100023 (g177 1046 0)) = g162 1100007 (g171 1100023 (g171 1046 0)) := congrArg ((g162 1100007)) (la_behind_70 h2417_ (sm_nt_10 : sm_nt 10 (g171 1046 0) (g171 1100023 (g171 1046 0)) (g171 1100023 (g171 1100023 (g171 1046 0))) = g171 1100023 (g171 1046 0)))
    have e2477_ : g162 1100007 (g177 1100025 (g177 1046 0)) = g162 1100007 (g162 1100025 (g162 1046 0)) := congrArg ((g162 1100007)) (la_behind_71 h2419_ (sm_nl_10 : sm_nl 10 (g171 1046 0) (g171 1100007 (g171 1046 0)) (g171 1100025 (g171 1046 0)) (g171 1100007 (g171 1100025 (g171 1046 0))) (g171 1100025 (g171 1100025 (g171 1046 0))) = g171 1100025 (g171 1046 0)) h2436_)
    have e2478_ : g162 1100007 (g177 1100025 (g177 1046 0)) = g162 1100007 (g171 1100025 (g171 1046 0)) := congrArg ((g162 1100007)) (la_behind_70 h2419_ (sm_nl_10 : sm_nl 10 (g171 1046 0) (g171 1100007 (g171 1046 0)) (g171 1100025 (g171 1046 0)) (g171 1100007 (g171 1100025 (g171 1046 0))) (g171 1100025 (g171 1100025 (g171 1046 0))) = g171 1100025 (g171 1046 0)))
    have e2479_ : g171 1100007 (g177 1100023 (g177 1046 0)) = g171 1100007 (g171 1100023 (g171 1046 0)) := congrArg ((g171 1100007)) (la_behind_70 h2417_ (sm_nt_10 : sm_nt 10 (g171 1046 0) (g171 1100023 (g171 1046 0)) (g171 1100023 (g171 1100023 (g171 1046 0))) = g171 1100023 (g171 1046 0)))
    have e2480_ : g171 1100007 (g177 1100025 (g177 1046 0)) = g171 1100007 (g171 1100025 (g171 1046 0)) := congrArg ((g171 1100007)) (la_behind_70 h2419_ (sm_nl_10 : sm_nl 10 (g171 1046 0) (g171 1100007 (g171 1046 0)) (g171 1100025 (g171 1046 0)) (g171 1100007 (g171 1100025 (g171 1046 0))) (g171 1100025 (g171 1100025 (g171 1046 0))) = g171 1100025 (g171 1046 0)))
    have e2481_ : S 11 x8 = S 11 (S 12 (5 * p1)) := congrArg ((S 11)) (la_behind_344 h53_ e2472_)
    by_cases c2482_ : x11 = (-1)
    · skip
      have e2483_ : (if x11 = (-1) then 0 else 17 * S 1100005 x11 + 17 : Int) = 0 := if_pos c2482_
      exact (la_behind_367 h35_ (sm_ex_e h1405_).2.2.2.1 (sm_ex_e h1863_).2.2.2.1 h1872_ h2411_ h2441_ h2445_ e2483_)
    · skip
      have e2484_ : (if x11 = (-1) then 0 else 17 * S 1100005 x11 + 17 : Int) = 17 * S 1100005 x11 + 17 := if_neg c2482_
      have h2485_ := (h1397_ (la_behind_245 (la_behind_244 h1395_ c2482_)))
      have h2486_ := (h1410_ (la_behind_245 (la_behind_244 h1395_ c2482_)))
      have h2487_ := (h2485_ (sm_ex_e (sm_li_r h1407_ c2482_)).2.1)
      obtain ⟨h2488_, ⟨h2489_, ⟨h2490_, h2491_⟩⟩⟩ := (h2486_ (sm_ex_e (sm_li_r h1407_ c2482_)).2.1)
      obtain ⟨h2492_, h2493_⟩ := (h2487_ (sm_ex_e (sm_li_r h1407_ c2482_)).2.2.1)
      have h2494_ := (h2491_ (sm_ex_e (sm_li_r h1407_ c2482_)).2.2.1)
      exact (la_behind_368 h35_ h1386_ h2411_ h2441_ h2445_ e2484_ (sm_ex_e (sm_li_r h1407_ c2482_)).2.2.2.2)
  refine ⟨?_, ?_⟩
  · skip
    refine ⟨?_, ?_⟩
    · skip
      have e2495_ : S 12 (5 * p1 + 0) = S 12 (5 * p1) := congrArg ((S 12)) la_behind_26
      have e2496_ : S 11 x8 = S 11 (S 12 (5 * p1)) := congrArg ((S 11)) (la_behind_344 h53_ e2495_)
      by_cases c2497_ : g177 1047 0 = 0
      · skip
        have e2498_ : (if g177 1047 0 = 0 then (if x11 = (-1) then 0 else 17 * S 1100005 x11 + 17) + (600 - g177 1046 0) + 9 else 5 : Int) = (if x11 = (-1) then 0 else 17 * S 1100005 x11 + 17) + (600 - g177 1046 0) + 9 := if_pos c2497_
        have h2499_ : ¬ (g171 1047 0 = 1) := fun q_ => (la_behind_43 c2497_) (h2340_ q_)
        obtain ⟨h2500_, ⟨h2501_, ⟨h2502_, ⟨h2503_, ⟨h2504_, ⟨h2505_, ⟨h2506_, ⟨h2507_, ⟨h2508_, ⟨h2509_, ⟨h2510_, ⟨h2511_, ⟨h2512_, h2513_⟩⟩⟩⟩⟩⟩⟩⟩⟩⟩⟩⟩⟩ := (h2350_ c2497_)
        have h2514_ : ¬ (g162 1047 0 = 1) := fun q_ => h2499_ (h2099_ q_)
        have h2515_ := (h2513_ la_behind_191)
        obtain ⟨h2516_, ⟨h2517_, ⟨h2518_, ⟨h2519_, ⟨h2520_, ⟨h2521_, ⟨h2522_, ⟨h2523_, ⟨h2524_, ⟨h2525_, ⟨h2526_, ⟨h2527_, ⟨h2528_, ⟨h2529_, ⟨h2530_, ⟨h2531_, -⟩⟩⟩⟩⟩⟩⟩⟩⟩⟩⟩⟩⟩⟩⟩⟩ := (h2119_ h2500_)
        have h2532_ := (h2118_ h2516_)
        have h2533_ := (h2515_ la_behind_193)
        obtain ⟨h2534_, ⟨h2535_, ⟨h2536_, ⟨h2537_, ⟨h2538_, ⟨h2539_, ⟨h2540_, ⟨h2541_, ⟨h2542_, ⟨h2543_, ⟨h2544_, ⟨h2545_, ⟨h2546_, h2547_⟩⟩⟩⟩⟩⟩⟩⟩⟩⟩⟩⟩⟩ := (h1982_ h2516_)
        have h2548_ := (h2547_ la_behind_337)
        have h2549_ := (h2548_ la_behind_339)
        have e2550_ : S 1100007 (g162 1100023 (g162 1046 0)) = S 1100007 (S 1100023 (S 1046 0)) := congrArg ((S 1100007)) (la_behind_70 h2541_ (sm_nt_18 : sm_nt 18 (S 1046 0) (S 1100023 (S 1046 0)) (S 1100023 (S 1100023 (S 1046 0))) = S 1100023 (S 1046 0)))
        have e2551_ : S 1100007 (g162 1100025 (g162 1046 0)) = S 1100007 (S 1100025 (S 1046 0)) := congrArg ((S 1100007)) (la_behind_70 h2543_ (sm_nl_18 : sm_nl 18 (S 1046 0) (S 1100007 (S 1046 0)) (S 1100025 (S 1046 0)) (S 1100007 (S 1100025 (S 1046 0))) (S 1100025 (S 1100025 (S 1046 0))) = S 1100025 (S 1046 0)))
        have e2552_ : S 1100007 (g171 1100023 (g171 1046 0)) = S 1100007 (S 1100023 (S 1046 0)) := congrArg ((S 1100007)) (la_behind_71 h2524_ h2541_ (sm_nt_18 : sm_nt 18 (S 1046 0) (S 1100023 (S 1046 0)) (S 1100023 (S 1100023 (S 1046 0))) = S 1100023 (S 1046 0)))
        have e2553_ : S 1100007 (g171 1100023 (g171 1046 0)) = S 1100007 (g162 1100023 (g162 1046 0)) := congrArg ((S 1100007)) h2524_
        have e2554_ : S 1100007 (g171 1100025 (g171 1046 0)) = S 1100007 (S 1100025 (S 1046 0)) := congrArg ((S 1100007)) (la_behind_71 h2526_ h2543_ (sm_nl_18 : sm_nl 18 (S 1046 0) (S 1100007 (S 1046 0)) (S 1100025 (S 1046 0)) (S 1100007 (S 1100025 (S 1046 0))) (S 1100025 (S 1100025 (S 1046 0))) = S 1100025 (S 1046 0)))
        have e2555_ : S 1100007 (g171 1100025 (g171 1046 0)) = S 1100007 (g162 1100025 (g162 1046 0)) := congrArg ((S 1100007)) h2526_
        have e2556_ : S 1100007 (g177 1100023 (g177 1046 0)) = S 1100007 (S 1100023 (S 1046 0)) := congrArg ((S 1100007)) (la_behind_366 h2507_ (sm_nt_10 : sm_nt 10 (g171 1046 0) (g171 1100023 (g171 1046 0)) (g171 1100023 (g171 1100023 (g171 1046 0))) = g171 1100023 (g171 1046 0)) h2524_ h2541_ (sm_nt_18 : sm_nt 18 (S 1046 0) (S 1100023 (S 1046 0)) (S 1100023 (S 1100023 (S 1046 0))) = S 1100023 (S 1046 0)))
        have e2557_ : S 1100007 (g177 1100023 (g177 1046 0)) = S 1100007 (g162 1100023 (g162 1046 0)) := congrArg ((S 1100007)) (la_behind_71 h2507_ (sm_nt_10 : sm_nt 10 (g171 1046 0) (g171 1100023 (g171 1046 0)) (g171 1100023 (g171 1100023 (g171 1046 0))) = g171 1100023 (g171 1046 0)) h2524_)
        have e2558_ : S 1100007 (g177 1100023 (g177 1046 0)) = S 1100007 (g171 1100023 (g171 1046 0)) := congrArg ((S 1100007)) (la_behind_70 h2507_ (sm_nt_10 : sm_nt 10 (g171 1046 0) (g171 1100023 (g171 1046 0)) (g171 1100023 (g171 1100023 (g171 1046 0))) = g171 1100023 (g171 1046 0)))
        have e2559_ : S 1100007 (g177 1100025 (g177 1046 0)) = S 1100007 (S 1100025 (S 1046 0)) := congrArg ((S 1100007)) (la_behind_366 h2509_ (sm_nl_10 : sm_nl 10 (g171 1046 0) (g171 1100007 (g171 1046 0)) (g171 1100025 (g171 1046 0)) (g171 1100007 (g171 1100025 (g171 1046 0))) (g171 1100025 (g171 1100025 (g171 1046 0))) = g171 1100025 (g171 1046 0)) h2526_ h2543_ (sm_nl_18 : sm_nl 18 (S 1046 0) (S 1100007 (S 1046 0)) (S 1100025 (S 1046 0)) (S 1100007 (S 1100025 (S 1046 0))) (S 1100025 (S 1100025 (S 1046 0))) = S 1100025 (S 1046 0)))
        have e2560_ : S 1100007 (g177 1100025 (g177 1046 0)) = S 1100007 (g162 1100025 (g162 1046 0)) := congrArg ((S 1100007)) (la_behind_71 h2509_ (sm_nl_10 : sm_nl 10 (g171 1046 0) (g171 1100007 (g171 1046 0)) (g171 1100025 (g171 1046 0)) (g171 1100007 (g171 1100025 (g171 1046 0))) (g171 1100025 (g171 1100025 (g171 1046 0))) = g171 1100025 (g171 1046 0)) h2526_)
        have e2561_ : S 1100007 (g177 1100025 (g177 1046 0)) = S 1100007 (g171 1100025 (g171 1046 0)) := congrArg ((S 1100007)) (la_behind_70 h2509_ (sm_nl_10 : sm_nl 10 (g171 1046 0) (g171 1100007 (g171 1046 0)) (g171 1100025 (g171 1046 0)) (g171 1100007 (g171 1100025 (g171 1046 0))) (g171 1100025 (g171 1100025 (g171 1046 0))) = g171 1100025 (g171 1046 0)))
        have e2562_ : g162 1100007 (g171 1100023 (g171 1046 0)) = g162 1100007 (g162 1100023 (g162 1046 0)) := congrArg ((g162 1100007)) h2524_
        have e2563_ : g162 1100007 (g171 1100025 (g171 1046 0)) = g162 1100007 (g162 1100025 (g162 1046 0)) := congrArg ((g162 1100007)) h2526_
        have e2564_ : g162 1100007 (g177 1100023 (g177 1046 0)) = g162 1100007 (g162 1100023 (g162 1046 0)) := congrArg ((g162 1100007)) (la_behind_71 h2507_ (sm_nt_10 : sm_nt 10 (g171 1046 0) (g171 1100023 (g171 1046 0)) (g171 1100023 (g171 1100023 (g171 1046 0))) = g171 1100023 (g171 1046 0)) h2524_)
        have e2565_ : g162 1100007 (g177 1100023 (g177 1046 0)) = g162 1100007 (g171 1100023 (g171 1046 0)) := congrArg ((g162 1100007)) (la_behind_70 h2507_ (sm_nt_10 : sm_nt 10 (g171 1046 0) (g171 1100023 (g171 1046 0)) (g171 1100023 (g171 1100023 (g171 1046 0))) = g171 1100023 (g171 1046 0)))
        have e2566_ : g162 1100007 (g177 1100025 (g177 1046 0)) = g162 1100007 (g162 1100025 (g162 1046 0)) := congrArg ((g162 1100007)) (la_behind_71 h2509_ (sm_nl_10 : sm_nl 10 (g171 1046 0) (g171 1100007 (g171 1046 0)) (g171 1100025 (g171 1046 0)) (g171 1100007 (g171 1100025 (g171 1046 0))) (g171 1100025 (g171 1100025 (g171 1046 0))) = g171 1100025 (g171 1046 0)) h2526_)
        have e2567_ : g162 1100007 (g177 1100025 (g177 1046 0)) = g162 1100007 (g171 1100025 (g171 1046 0)) := congrArg ((g162 1100007)) (la_behind_70 h2509_ (sm_nl_10 : sm_nl 10 (g171 1046 0) (g171 1100007 (g171 1046 0)) (g171 1100025 (g171 1046 0)) (g171 1100007 (g171 1100025 (g171 1046 0))) (g171 1100025 (g171 1100025 (g171 1046 0))) = g171 1100025 (g171 1046 0)))
        have e2568_ : g171 1100007 (g177 1100023 (g177 1046 0)) = g171 1100007 (g171 1100023 (g171 1046 0)) := congrArg ((g171 1100007)) (la_behind_70 h2507_ (sm_nt_10 : sm_nt 10 (g171 1046 0) (g171 1100023 (g171 1046 0)) (g171 1100023 (g171 1100023 (g171 1046 0))) = g171 1100023 (g171 1046 0)))
        have e2569_ : g171 1100007 (g177 1100025 (g177 1046 0)) = g171 1100007 (g171 1100025 (g171 1046 0)) := congrArg ((g171 1100007)) (la_behind_70 h2509_ (sm_nl_10 : sm_nl 10 (g171 1046 0) (g171 1100007 (g171 1046 0)) (g171 1100025 (g171 1046 0)) (g171 1100007 (g171 1100025 (g171 1046 0))) (g171 1100025 (g171 1100025 (g171 1046 0))) = g171 1100025 (g171 1046 0)))
        by_cases c2570_ : x11 = (-1)
        · skip
          have e2571_ : (if x11 = (-1) then 0 else 17 * S 1100005 x11 + 17 : Int) = 0 := if_pos c2570_
          exact (la_behind_254 h2339_ e2498_ e2571_)
        · skip
          have e2572_ : (if x11 = (-1) then 0 else 17 * S 1100005 x11 + 17 : Int) = 17 * S 1100005 x11 + 17 := if_neg c2570_
          have h2573_ := (h1397_ (la_behind_245 (la_behind_244 h1395_ c2570_)))
          have h2574_ := (h1410_ (la_behind_245 (la_behind_244 h1395_ c2570_)))
          have h2575_ := (h2573_ (sm_ex_e (sm_li_r h1407_ c2570_)).2.1)
          obtain ⟨h2576_, ⟨h2577_, ⟨h2578_, h2579_⟩⟩⟩ := (h2574_ (sm_ex_e (sm_li_r h1407_ c2570_)).2.1)
          obtain ⟨h2580_, h2581_⟩ := (h2575_ (sm_ex_e (sm_li_r h1407_ c2570_)).2.2.1)
          have h2582_ := (h2579_ (sm_ex_e (sm_li_r h1407_ c2570_)).2.2.1)
          exact (la_behind_255 h2339_ e2498_ e2572_ h2581_)
      · skip
        have e2583_ : (if g177 1047 0 = 0 then (if x11 = (-1) then 0 else 17 * S 1100005 x11 + 17) + (600 - g177 1046 0) + 9 else 5 : Int) = 5 := if_neg c2497_
        have h2584_ := (h2341_ (la_behind_56 h2335_ (la_behind_55 h2334_ c2497_)))
        exact (la_behind_369 e2583_)
    have e2585_ : S 12 (5 * p1 + 0) = S 12 (5 * p1) := congrArg ((S 12)) la_behind_26
    have e2586_ : S 11 x8 = S 11 (S 12 (5 * p1)) := congrArg ((S 11)) (la_behind_344 h53_ e2585_)
    by_cases c2669_ : g177 1047 0 = 0
    · skip
      have e2670_ : (if g177 1047 0 = 0 then (if x11 = (-1) then 0 else 17 * S 1100005 x11 + 17) + (600 - g177 1046 0) + 9 else 5 : Int) = (if x11 = (-1) then 0 else 17 * S 1100005 x11 + 17) + (600 - g177 1046 0) + 9 := if_pos c2669_
      have h2671_ : ¬ (g171 1047 0 = 1) := fun q_ => (la_behind_43 c2669_) (h2340_ q_)
      obtain ⟨h2672_, ⟨h2673_, ⟨h2674_, ⟨h2675_, ⟨h2676_, ⟨h2677_, ⟨h2678_, ⟨h2679_, ⟨h2680_, ⟨h2681_, ⟨h2682_, ⟨h2683_, ⟨h2684_, h2685_⟩⟩⟩⟩⟩⟩⟩⟩⟩⟩⟩⟩⟩ := (h2350_ c2669_)
      have h2686_ : ¬ (g162 1047 0 = 1) := fun q_ => h2671_ (h2099_ q_)
      have h2687_ := (h2685_ la_behind_191)
      obtain ⟨h2688_, ⟨h2689_, ⟨h2690_, ⟨h2691_, ⟨h2692_, ⟨h2693_, ⟨h2694_, ⟨h2695_, ⟨h2696_, ⟨h2697_, ⟨h2698_, ⟨h2699_, ⟨h2700_, ⟨h2701_, ⟨h2702_, ⟨h2703_, -⟩⟩⟩⟩⟩⟩⟩⟩⟩⟩⟩⟩⟩⟩⟩⟩ := (h2119_ h2672_)
      have h2704_ := (h2118_ h2688_)
      have h2705_ := (h2687_ la_behind_193)
      obtain ⟨h2706_, ⟨h2707_, ⟨h2708_, ⟨h2709_, ⟨h2710_, ⟨h2711_, ⟨h2712_, ⟨h2713_, ⟨h2714_, ⟨h2715_, ⟨h2716_, ⟨h2717_, ⟨h2718_, h2719_⟩⟩⟩⟩⟩⟩⟩⟩⟩⟩⟩⟩⟩ := (h1982_ h2688_)
      have h2720_ := (h2719_ la_behind_337)
      have h2721_ := (h2720_ la_behind_339)
      have e2722_ : S 1100007 (g162 1100023 (g162 1046 0)) = S 1100007 (S 1100023 (S 1046 0)) := congrArg ((S 1100007)) (la_behind_70 h2713_ (sm_nt_18 : sm_nt 18 (S 1046 0) (S 1100023 (S 1046 0)) (S 1100023 (S 1100023 (S 1046 0))) = S 1100023 (S 1046 0)))
      have e2723_ : S 1100007 (g162 1100025 (g162 1046 0)) = S 1100007 (S 1100025 (S 1046 0)) := congrArg ((S 1100007)) (la_behind_70 h2715_ (sm_nl_18 : sm_nl 18 (S 1046 0) (S 1100007 (S 1046 0)) (S 1100025 (S 1046 0)) (S 1100007 (S 1100025 (S 1046 0))) (S 1100025 (S 1100025 (S 1046 0))) = S 1100025 (S 1046 0)))
      have e2724_ : S 1100007 (g171 1100023 (g171 1046 0)) = S 1100007 (S 1100023 (S 1046 0)) := congrArg ((S 1100007)) (la_behind_71 h2696_ h2713_ (sm_nt_18 : sm_nt 18 (S 1046 0) (S 1100023 (S 1046 0)) (S 1100023 (S 1100023 (S 1046 0))) = S 1100023 (S 1046 0)))
      have e2725_ : S 1100007 (g171 1100023 (g171 1046 0)) = S 1100007 (g162 1100023 (g162 1046 0)) := congrArg ((S 1100007)) h2696_
      have e2726_ : S 1100007 (g171 1100025 (g171 1046 0)) = S 1100007 (S 1100025 (S 1046 0)) := congrArg ((S 1100007)) (la_behind_71 h2698_ h2715_ (sm_nl_18 : sm_nl 18 (S 1046 0) (S 1100007 (S 1046 0)) (S 1100025 (S 1046 0)) (S 1100007 (S 1100025 (S 1046 0))) (S 1100025 (S 1100025 (S 1046 0))) = S 1100025 (S 1046 0)))
      have e2727_ : S 1100007 (g171 1100025 (g171 1046 0)) = S 1100007 (g162 1100025 (g162 1046 0)) := congrArg ((S 1100007)) h2698_
      have e2728_ : S 1100007 (g177 1100023 (g177 1046 0)) = S 1100007 (S 1100023 (S 1046 0)) := congrArg ((S 1100007)) (la_behind_366 h2679_ (sm_nt_10 : sm_nt 10 (g171 1046 0) (g171 1100023 (g171 1046 0)) (g171 1100023 (g171 1100023 (g171 1046 0))) = g171 1100023 (g171 1046 0)) h2696_ h2713_ (sm_nt_18 : sm_nt 18 (S 1046 0) (S 1100023 (S 1046 0)) (S 1100023 (S 1100023 (S 1046 0))) = S 1100023 (S 1046 0)))
      have e2729_ : S 1100007 (g177 1100023 (g177 1046 0)) = S 1100007 (g162 1100023 (g162 1046 0)) := congrArg ((S 1100007)) (la_behind_71 h2679_ (sm_nt_10 : sm_nt 10 (g171 1046 0) (g171 1100023 (g171 1046 0)) (g171 1100023 (g171 1100023 (g171 1046 0))) = g171 1100023 (g171 1046 0)) h2696_)
      have e2730_ : S 1100007 (g177 1100023 (g177 1046 0)) = S 1100007 (g171 1100023 (g171 1046 0)) := congrArg ((S 1100007)) (la_behind_70 h2679_ (sm_nt_10 : sm_nt 10 (g171 1046 0) (g171 1100023 (g171 1046 0)) (g171 1100023 (g171 1100023 (g171 1046 0))) = g171 1100023 (g171 1046 0)))
      have e2731_ : S 1100007 (g177 1100025 (g177 1046 0)) = S 1100007 (S 1100025 (S 1046 0)) := congrArg ((S 1100007)) (la_behind_366 h2681_ (sm_nl_10 : sm_nl 10 (g171 1046 0) (g171 1100007 (g171 1046 0)) (g171 1100025 (g171 1046 0)) (g171 1100007 (g171 1100025 (g171 1046 0))) (g171 1100025 (g171 1100025 (g171 1046 0))) = g171 1100025 (g171 1046 0)) h2698_ h2715_ (sm_nl_18 : sm_nl 18 (S 1046 0) (S 1100007 (S 1046 0)) (S 1100025 (S 1046 0)) (S 1100007 (S 1100025 (S 1046 0))) (S 1100025 (S 1100025 (S 1046 0))) = S 1100025 (S 1046 0)))
      have e2732_ : S 1100007 (g177 1100025 (g177 1046 0)) = S 1100007 (g162 1100025 (g162 1046 0)) := congrArg ((S 1100007)) (la_behind_71 h2681_ (sm_nl_10 : sm_nl 10 (g171 1046 0) (g171 1100007 (g171 1046 0)) (g171 1100025 (g171 1046 0)) (g171 1100007 (g171 1100025 (g171 1046 0))) (g171 1100025 (g171 1100025 (g171 1046 0))) = g171 1100025 (g171 1046 0)) h2698_)
      have e2733_ : S 1100007 (g177 1100025 (g177 1046 0)) = S 1100007 (g171 1100025 (g171 1046 0)) := congrArg ((S 1100007)) (la_behind_70 h2681_ (sm_nl_10 : sm_nl 10 (g171 1046 0) (g171 1100007 (g171 1046 0)) (g171 1100025 (g171 1046 0)) (g171 1100007 (g171 1100025 (g171 1046 0))) (g171 1100025 (g171 1100025 (g171 1046 0))) = g171 1100025 (g171 1046 0)))
      have e2734_ : g162 1100007 (g171 1100023 (g171 1046 0)) = g162 1100007 (g162 1100023 (g162 1046 0)) := congrArg ((g162 1100007)) h2696_
      have e2735_ : g162 1100007 (g171 1100025 (g171 1046 0)) = g162 1100007 (g162 1100025 (g162 1046 0)) := congrArg ((g162 1100007)) h2698_
      have e2736_ : g162 1100007 (g177 1100023 (g177 1046 0)) = g162 1100007 (g162 1100023 (g162 1046 0)) := congrArg ((g162 1100007)) (la_behind_71 h2679_ (sm_nt_10 : sm_nt 10 (g171 1046 0) (g171 1100023 (g171 1046 0)) (g171 1100023 (g171 1100023 (g171 1046 0))) = g171 1100023 (g171 1046 0)) h2696_)
      have e2737_ : g162 1100007 (g177 1100023 (g177 1046 0)) = g162 1100007 (g171 1100023 (g171 1046 0)) := congrArg ((g162 1100007)) (la_behind_70 h2679_ (sm_nt_10 : sm_nt 10 (g171 1046 0) (g171 1100023 (g171 1046 0)) (g171 1100023 (g171 1100023 (g171 1046 0))) = g171 1100023 (g171 1046 0)))
      have e2738_ : g162 1100007 (g177 1100025 (g177 1046 0)) = g162 1100007 (g162 1100025 (g162 1046 0)) := congrArg ((g162 1100007)) (la_behind_71 h2681_ (sm_nl_10 : sm_nl 10 (g171 1046 0) (g171 1100007 (g171 1046 0)) (g171 1100025 (g171 1046 0)) (g171 1100007 (g171 1100025 (g171 1046 0))) (g171 1100025 (g171 1100025 (g171 1046 0))) = g171 1100025 (g171 1046 0)) h2698_)
      have e2739_ : g162 1100007 (g177 1100025 (g177 1046 0)) = g162 1100007 (g171 1100025 (g171 1046 0)) := congrArg ((g162 1100007)) (la_behind_70 h2681_ (sm_nl_10 : sm_nl 10 (g171 1046 0) (g171 1100007 (g171 1046 0)) (g171 1100025 (g171 1046 0)) (g171 1100007 (g171 1100025 (g171 1046 0))) (g171 1100025 (g171 1100025 (g171 1046 0))) = g171 1100025 (g171 1046 0)))
      have e2740_ : g171 1100007 (g177 1100023 (g177 1046 0)) = g171 1100007 (g171 1100023 (g171 1046 0)) := congrArg ((g171 1100007)) (la_behind_70 h2679_ (sm_nt_10 : sm_nt 10 (g171 1046 0) (g171 1100023 (g171 1046 0)) (g171 1100023 (g171 1100023 (g171 1046 0))) = g171 1100023 (g171 1046 0)))
      have e2741_ : g171 1100007 (g177 1100025 (g177 1046 0)) = g171 1100007 (g171 1100025 (g171 1046 0)) := congrArg ((g171 1100007)) (la_behind_70 h2681_ (sm_nl_10 : sm_nl 10 (g171 1046 0) (g171 1100007 (g171 1046 0)) (g171 1100025 (g171 1046 0)) (g171 1100007 (g171 1100025 (g171 1046 0))) (g171 1100025 (g171 1100025 (g171 1046 0))) = g171 1100025 (g171 1046 0)))
      by_cases c2742_ : x11 = (-1)
      · skip
        have e2743_ : (if x11 = (-1) then 0 else 17 * S 1100005 x11 + 17 : Int) = 0 := if_pos c2742_
        exact (la_behind_376 h36_ h49_ e2670_ h2673_ h2693_ h2707_ e2743_)
      · skip
        have e2744_ : (if x11 = (-1) then 0 else 17 * S 1100005 x11 + 17 : Int) = 17 * S 1100005 x11 + 17 := if_neg c2742_
        have h2745_ := (h1397_ (la_behind_245 (la_behind_244 h1395_ c2742_)))
        have h2746_ := (h1410_ (la_behind_245 (la_behind_244 h1395_ c2742_)))
        have h2747_ := (h2745_ (sm_ex_e (sm_li_r h1407_ c2742_)).2.1)
        obtain ⟨h2748_, ⟨h2749_, ⟨h2750_, h2751_⟩⟩⟩ := (h2746_ (sm_ex_e (sm_li_r h1407_ c2742_)).2.1)
        obtain ⟨h2752_, h2753_⟩ := (h2747_ (sm_ex_e (sm_li_r h1407_ c2742_)).2.2.1)
        have h2754_ := (h2751_ (sm_ex_e (sm_li_r h1407_ c2742_)).2.2.1)
        exact (la_behind_377 h36_ h1386_ e2670_ h2673_ h2693_ h2707_ e2744_ (sm_ex_e (sm_li_r h1407_ c2742_)).2.2.2.2)
    · skip
      have e2755_ : (if g177 1047 0 = 0 then (if x11 = (-1) then 0 else 17 * S 1100005 x11 + 17) + (600 - g177 1046 0) + 9 else 5 : Int) = 5 := if_neg c2669_
      have h2756_ := (h2341_ (la_behind_56 h2335_ (la_behind_55 h2334_ c2669_)))
      exact (la_behind_378 h15_ h36_ h49_ e2755_)
  refine ⟨?_, ?_⟩
  · skip
    refine ⟨?_, ?_⟩
    · skip
      have e2757_ : S 12 (5 * p1 + 0) = S 12 (5 * p1) := congrArg ((S 12)) la_behind_26
      have e2758_ : S 11 x8 = S 11 (S 12 (5 * p1)) := congrArg ((S 11)) (la_behind_344 h53_ e2757_)
      by_cases c2759_ : g177 1047 0 = 0
      · skip
        have e2760_ : (if g177 1047 0 = 0 then (if x11 = (-1) then 0 else 17 * S 1100005 x11 + 17) + (600 - g177 1046 0) + 9 else 5 : Int) = (if x11 = (-1) then 0 else 17 * S 1100005 x11 + 17) + (600 - g177 1046 0) + 9 := if_pos c2759_
        have h2761_ : ¬ (g171 1047 0 = 1) := fun q_ => (la_behind_43 c2759_) (h2340_ q_)
        obtain ⟨h2762_, ⟨h2763_, ⟨h2764_, ⟨h2765_, ⟨h2766_, ⟨h2767_, ⟨h2768_, ⟨h2769_, ⟨h2770_, ⟨h2771_, ⟨h2772_, ⟨h2773_, ⟨h2774_, h2775_⟩⟩⟩⟩⟩⟩⟩⟩⟩⟩⟩⟩⟩ := (h2350_ c2759_)
        have h2776_ : ¬ (g162 1047 0 = 1) := fun q_ => h2761_ (h2099_ q_)
        have h2777_ := (h2775_ la_behind_191)
        obtain ⟨h2778_, ⟨h2779_, ⟨h2780_, ⟨h2781_, ⟨h2782_, ⟨h2783_, ⟨h2784_, ⟨h2785_, ⟨h2786_, ⟨h2787_, ⟨h2788_, ⟨h2789_, ⟨h2790_, ⟨h2791_, ⟨h2792_, ⟨h2793_, -⟩⟩⟩⟩⟩⟩⟩⟩⟩⟩⟩⟩⟩⟩⟩⟩ := (h2119_ h2762_)
        have h2794_ := (h2118_ h2778_)
        have h2795_ := (h2777_ la_behind_193)
        obtain ⟨h2796_, ⟨h2797_, ⟨h2798_, ⟨h2799_, ⟨h2800_, ⟨h2801_, ⟨h2802_, ⟨h2803_, ⟨h2804_, ⟨h2805_, ⟨h2806_, ⟨h2807_, ⟨h2808_, h2809_⟩⟩⟩⟩⟩⟩⟩⟩⟩⟩⟩⟩⟩ := (h1982_ h2778_)
        have h2810_ := (h2809_ la_behind_337)
        have h2811_ := (h2810_ la_behind_339)
        have e2812_ : S 1100007 (g162 1100023 (g162 1046 0)) = S 1100007 (S 1100023 (S 1046 0)) := congrArg ((S 1100007)) (la_behind_70 h2803_ (sm_nt_18 : sm_nt 18 (S 1046 0) (S 1100023 (S 1046 0)) (S 1100023 (S 1100023 (S 1046 0))) = S 1100023 (S 1046 0)))
        have e2813_ : S 1100007 (g162 1100025 (g162 1046 0)) = S 1100007 (S 1100025 (S 1046 0)) := congrArg ((S 1100007)) (la_behind_70 h2805_ (sm_nl_18 : sm_nl 18 (S 1046 0) (S 1100007 (S 1046 0)) (S 1100025 (S 1046 0)) (S 1100007 (S 1100025 (S 1046 0))) (S 1100025 (S 1100025 (S 1046 0))) = S 1100025 (S 1046 0)))
        have e2814_ : S 1100007 (g171 1100023 (g171 1046 0)) = S 1100007 (S 1100023 (S 1046 0)) := congrArg ((S 1100007)) (la_behind_71 h2786_ h2803_ (sm_nt_18 : sm_nt 18 (S 1046 0) (S 1100023 (S 1046 0)) (S 1100023 (S 1100023 (S 1046 0))) = S 1100023 (S 1046 0)))
        have e2815_ : S 1100007 (g171 1100023 (g171 1046 0)) = S 1100007 (g162 1100023 (g162 1046 0)) := congrArg ((S 1100007)) h2786_
        have e2816_ : S 1100007 (g171 1100025 (g171 1046 0)) = S 1100007 (S 1100025 (S 1046 0)) := congrArg ((S 1100007)) (la_behind_71 h2788_ h2805_ (sm_nl_18 : sm_nl 18 (S 1046 0) (S 1100007 (S 1046 0)) (S 1100025 (S 1046 0)) (S 1100007 (S 1100025 (S 1046 0))) (S 1100025 (S 1100025 (S 1046 0))) = S 1100025 (S 1046 0)))
        have e2817_ : S 1100007 (g171 1100025 (g171 1046 0)) = S 1100007 (g162 1100025 (g162 1046 0)) := congrArg ((S 1100007)) h2788_
        have e2818_ : S 1100007 (g177 1100023 (g177 1046 0)) = S 1100007 (S 1100023 (S 1046 0)) := congrArg ((S 1100007)) (la_behind_366 h2769_ (sm_nt_10 : sm_nt 10 (g171 1046 0) (g171 1100023 (g171 1046 0)) (g171 1100023 (g171 1100023 (g171 1046 0))) = g171 1100023 (g171 1046 0)) h2786_ h2803_ (sm_nt_18 : sm_nt 18 (S 1046 0) (S 1100023 (S 1046 0)) (S 1100023 (S 1100023 (S 1046 0))) = S 1100023 (S 1046 0)))
        have e2819_ : S 1100007 (g177 1100023 (g177 1046 0)) = S 1100007 (g162 1100023 (g162 1046 0)) := congrArg ((S 1100007)) (la_behind_71 h2769_ (sm_nt_10 : sm_nt 10 (g171 1046 0) (g171 1100023 (g171 1046 0)) (g171 1100023 (g171 1100023 (g171 1046 0))) = g171 1100023 (g171 1046 0)) h2786_)
        have e2820_ : S 1100007 (g177 1100023 (g177 1046 0)) = S 1100007 (g171 1100023 (g171 1046 0)) := congrArg ((S 1100007)) (la_behind_70 h2769_ (sm_nt_10 : sm_nt 10 (g171 1046 0) (g171 1100023 (g171 1046 0)) (g171 1100023 (g171 1100023 (g171 1046 0))) = g171 1100023 (g171 1046 0)))
        have e2821_ : S 1100007 (g177 1100025 (g177 1046 0)) = S 1100007 (S 1100025 (S 1046 0)) := congrArg ((S 1100007)) (la_behind_366 h2771_ (sm_nl_10 : sm_nl 10 (g171 1046 0) (g171 1100007 (g171 1046 0)) (g171 1100025 (g171 1046 0)) (g171 1100007 (g171 1100025 (g171 1046 0))) (g171 1100025 (g171 1100025 (g171 1046 0))) = g171 1100025 (g171 1046 0)) h2788_ h2805_ (sm_nl_18 : sm_nl 18 (S 1046 0) (S 1100007 (S 1046 0)) (S 1100025 (S 1046 0)) (S 1100007 (S 1100025 (S 1046 0))) (S 1100025 (S 1100025 (S 1046 0))) = S 1100025 (S 1046 0)))
        have e2822_ : S 1100007 (g177 1100025 (g177 1046 0)) = S 1100007 (g162 1100025 (g162 1046 0)) := congrArg ((S 1100007)) (la_behind_71 h2771_ (sm_nl_10 : sm_nl 10 (g171 1046 0) (g171 1100007 (g171 1046 0)) (g171 1100025 (g171 1046 0)) (g171 1100007 (g171 1100025 (g171 1046 0))) (g171 1100025 (g171 1100025 (g171 1046 0))) = g171 1100025 (g171 1046 0)) h2788_)
        have e2823_ : S 1100007 (g177 1100025 (g177 1046 0)) = S 1100007 (g171 1100025 (g171 1046 0)) := congrArg ((S 1100007)) (la_behind_70 h2771_ (sm_nl_10 : sm_nl 10 (g171 1046 0) (g171 1100007 (g171 1046 0)) (g171 1100025 (g171 1046 0)) (g171 1100007 (g171 1100025 (g171 1046 0))) (g171 1100025 (g171 1100025 (g171 1046 0))) = g171 1100025 (g171 1046 0)))
        have e2824_ : g162 1100007 (g171 1100023 (g171 1046 0)) = g162 1100007 (g162 1100023 (g162 1046 0)) := congrArg ((g162 1100007)) h2786_
        have e2825_ : g162 1100007 (g171 1100025 (g171 1046 0)) = g162 1100007 (g162 1100025 (g162 1046 0)) := congrArg ((g162 1100007)) h2788_
        have e2826_ : g162 1100007 (g177 1100023 (g177 1046 0)) = g162 1100007 (g162 1100023 (g162 1046 0)) := congrArg ((g162 1100007)) (la_behind_71 h2769_ (sm_nt_10 : sm_nt 10 (g171 1046 0) (g171 1100023 (g171 1046 0)) (g171 1100023 (g171 1100023 (g171 1046 0))) = g171 1100023 (g171 1046 0)) h2786_)
        have e2827_ : g162 1100007 (g177 1100023 (g177 1046 0)) = g162 1100007 (g171 1100023 (g171 1046 0)) := congrArg ((g162 1100007)) (la_behind_70 h2769_ (sm_nt_10 : sm_nt 10 (g171 1046 0) (g171 1100023 (g171 1046 0)) (g171 1100023 (g171 1100023 (g171 1046 0))) = g171 1100023 (g171 1046 0)))
        have e2828_ : g162 1100007 (g177 1100025 (g177 1046 0)) = g162 1100007 (g162 1100025 (g162 1046 0)) := congrArg ((g162 1100007)) (la_behind_71 h2771_ (sm_nl_10 : sm_nl 10 (g171 1046 0) (g171 1100007 (g171 1046 0)) (g171 1100025 (g171 1046 0)) (g171 1100007 (g171 1100025 (g171 1046 0))) (g171 1100025 (g171 1100025 (g171 1046 0))) = g171 1100025 (g171 1046 0)) h2788_)
        have e2829_ : g162 1100007 (g177 1100025 (g177 1046 0)) = g162 1100007 (g171 1100025 (g171 1046 0)) := congrArg ((g162 1100007)) (la_behind_70 h2771_ (sm_nl_10 : sm_nl 10 (g171 1046 0) (g171 1100007 (g171 1046 0)) (g171 1100025 (g171 1046 0)) (g171 1100007 (g171 1100025 (g171 1046 0))) (g171 1100025 (g171 1100025 (g171 1046 0))) = g171 1100025 (g171 1046 0)))
        have e2830_ : g171 1100007 (g177 1100023 (g177 1046 0)) = g171 1100007 (g171 1100023 (g171 1046 0)) := congrArg ((g171 1100007)) (la_behind_70 h2769_ (sm_nt_10 : sm_nt 10 (g171 1046 0) (g171 1100023 (g171 1046 0)) (g171 1100023 (g171 1100023 (g171 1046 0))) = g171 1100023 (g171 1046 0)))
        have e2831_ : g171 1100007 (g177 1100025 (g177 1046 0)) = g171 1100007 (g171 1100025 (g171 1046 0)) := congrArg ((g171 1100007)) (la_behind_70 h2771_ (sm_nl_10 : sm_nl 10 (g171 1046 0) (g171 1100007 (g171 1046 0)) (g171 1100025 (g171 1046 0)) (g171 1100007 (g171 1100025 (g171 1046 0))) (g171 1100025 (g171 1100025 (g171 1046 0))) = g171 1100025 (g171 1046 0)))
        by_cases c2832_ : x11 = (-1)
        · skip
          have e2833_ : (if x11 = (-1) then 0 else 17 * S 1100005 x11 + 17 : Int) = 0 := if_pos c2832_
          exact (la_behind_254 h2339_ e2760_ e2833_)
        · skip
          have e2834_ : (if x11 = (-1) then 0 else 17 * S 1100005 x11 + 17 : Int) = 17 * S 1100005 x11 + 17 := if_neg c2832_
          have h2835_ := (h1397_ (la_behind_245 (la_behind_244 h1395_ c2832_)))
          have h2836_ := (h1410_ (la_behind_245 (la_behind_244 h1395_ c2832_)))
          have h2837_ := (h2835_ (sm_ex_e (sm_li_r h1407_ c2832_)).2.1)
          obtain ⟨h2838_, ⟨h2839_, ⟨h2840_, h2841_⟩⟩⟩ := (h2836_ (sm_ex_e (sm_li_r h1407_ c2832_)).2.1)
          obtain ⟨h2842_, h2843_⟩ := (h2837_ (sm_ex_e (sm_li_r h1407_ c2832_)).2.2.1)
          have h2844_ := (h2841_ (sm_ex_e (sm_li_r h1407_ c2832_)).2.2.1)
          exact (la_behind_255 h2339_ e2760_ e2834_ h2843_)
      · skip
        have e2845_ : (if g177 1047 0 = 0 then (if x11 = (-1) then 0 else 17 * S 1100005 x11 + 17) + (600 - g177 1046 0) + 9 else 5 : Int) = 5 := if_neg c2759_
        have h2846_ := (h2341_ (la_behind_56 h2335_ (la_behind_55 h2334_ c2759_)))
        exact (la_behind_369 e2845_)
    have e2847_ : S 12 (5 * p1 + 0) = S 12 (5 * p1) := congrArg ((S 12)) la_behind_26
    have e2848_ : S 11 x8 = S 11 (S 12 (5 * p1)) := congrArg ((S 11)) (la_behind_344 h53_ e2847_)
    by_cases c3140_ : g177 1047 0 = 0
    · skip
      have e3141_ : (if g177 1047 0 = 0 then (if x11 = (-1) then 0 else 17 * S 1100005 x11 + 17) + (600 - g177 1046 0) + 9 else 5 : Int) = (if x11 = (-1) then 0 else 17 * S 1100005 x11 + 17) + (600 - g177 1046 0) + 9 := if_pos c3140_
      have h3142_ : ¬ (g171 1047 0 = 1) := fun q_ => (la_behind_43 c3140_) (h2340_ q_)
      obtain ⟨h3143_, ⟨h3144_, ⟨h3145_, ⟨h3146_, ⟨h3147_, ⟨h3148_, ⟨h3149_, ⟨h3150_, ⟨h3151_, ⟨h3152_, ⟨h3153_, ⟨h3154_, ⟨h3155_, h3156_⟩⟩⟩⟩⟩⟩⟩⟩⟩⟩⟩⟩⟩ := (h2350_ c3140_)
      have h3157_ : ¬ (g162 1047 0 = 1) := fun q_ => h3142_ (h2099_ q_)
      have h3158_ := (h3156_ la_behind_191)
      obtain ⟨h3159_, ⟨h3160_, ⟨h3161_, ⟨h3162_, ⟨h3163_, ⟨h3164_, ⟨h3165_, ⟨h3166_, ⟨h3167_, ⟨h3168_, ⟨h3169_, ⟨h3170_, ⟨h3171_, ⟨h3172_, ⟨h3173_, ⟨h3174_, -⟩⟩⟩⟩⟩⟩⟩⟩⟩⟩⟩⟩⟩⟩⟩⟩ := (h2119_ h3143_)
      have h3175_ := (h2118_ h3159_)
      have h3176_ := (h3158_ la_behind_193)
      obtain ⟨h3177_, ⟨h3178_, ⟨h3179_, ⟨h3180_, ⟨h3181_, ⟨h3182_, ⟨h3183_, ⟨h3184_, ⟨h3185_, ⟨h3186_, ⟨h3187_, ⟨h3188_, ⟨h3189_, h3190_⟩⟩⟩⟩⟩⟩⟩⟩⟩⟩⟩⟩⟩ := (h1982_ h3159_)
      have h3191_ := (h3190_ la_behind_337)
      have h3192_ := (h3191_ la_behind_339)
      have e3193_ : S 1100007 (g162 1100023 (g162 1046 0)) = S 1100007 (S 1100023 (S 1046 0)) := congrArg ((S 1100007)) (la_behind_70 h3184_ (sm_nt_18 : sm_nt 18 (S 1046 0) (S 1100023 (S 1046 0)) (S 1100023 (S 1100023 (S 1046 0))) = S 1100023 (S 1046 0)))
      have e3194_ : S 1100007 (g162 1100025 (g162 1046 0)) = S 1100007 (S 1100025 (S 1046 0)) := congrArg ((S 1100007)) (la_behind_70 h3186_ (sm_nl_18 : sm_nl 18 (S 1046 0) (S 1100007 (S 1046 0)) (S 1100025 (S 1046 0)) (S 1100007 (S 1100025 (S 1046 0))) (S 1100025 (S 1100025 (S 1046 0))) = S 1100025 (S 1046 0)))
      have e3195_ : S 1100007 (g171 1100023 (g171 1046 0)) = S 1100007 (S 1100023 (S 1046 0)) := congrArg ((S 1100007)) (la_behind_71 h3167_ h3184_ (sm_nt_18 : sm_nt 18 (S 1046 0) (S 1100023 (S 1046 0)) (S 1100023 (S 1100023 (S 1046 0))) = S 1100023 (S 1046 0)))
      have e3196_ : S 1100007 (g171 1100023 (g171 1046 0)) = S 1100007 (g162 1100023 (g162 1046 0)) := congrArg ((S 1100007)) h3167_
      have e3197_ : S 1100007 (g171 1100025 (g171 1046 0)) = S 1100007 (S 1100025 (S 1046 0)) := congrArg ((S 1100007)) (la_behind_71 h3169_ h3186_ (sm_nl_18 : sm_nl 18 (S 1046 0) (S 1100007 (S 1046 0)) (S 1100025 (S 1046 0)) (S 1100007 (S 1100025 (S 1046 0))) (S 1100025 (S 1100025 (S 1046 0))) = S 1100025 (S 1046 0)))
      have e3198_ : S 1100007 (g171 1100025 (g171 1046 0)) = S 1100007 (g162 1100025 (g162 1046 0)) := congrArg ((S 1100007)) h3169_
      have e3199_ : S 1100007 (g177 1100023 (g177 1046 0)) = S 1100007 (S 1100023 (S 1046 0)) := congrArg ((S 1100007)) (la_behind_366 h3150_ (sm_nt_10 : sm_nt 10 (g171 1046 0) (g171 1100023 (g171 1046 0)) (g171 1100023 (g171 1100023 (g171 1046 0))) = g171 1100023 (g171 1046 0)) h3167_ h3184_ (sm_nt_18 : sm_nt 18 (S 1046 0) (S 1100023 (S 1046 0)) (S 1100023 (S 1100023 (S 1046 0))) = S 1100023 (S 1046 0)))
      have e3200_ : S 1100007 (g177 1100023 (g177 1046 0)) = S 1100007 (g162 1100023 (g162 1046 0)) := congrArg ((S 1100007)) (la_behind_71 h3150_ (sm_nt_10 : sm_nt 10 (g171 1046 0) (g171 1100023 (g171 1046 0)) (g171 1100023 (g171 1100023 (g171 1046 0))) = g171 1100023 (g171 1046 0)) h3167_)
      have e3201_ : S 1100007 (g177 1100023 (g177 1046 0)) = S 1100007 (g171 1100023 (g171 1046 0)) := congrArg ((S 1100007)) (la_behind_70 h3150_ (sm_nt_10 : sm_nt 10 (g171 1046 0) (g171 1100023 (g171 1046 0)) (g171 1100023 (g171 1100023 (g171 1046 0))) = g171 1100023 (g171 1046 0)))
      have e3202_ : S 1100007 (g177 1100025 (g177 1046 0)) = S 1100007 (S 1100025 (S 1046 0)) := congrArg ((S 1100007)) (la_behind_366 h3152_ (sm_nl_10 : sm_nl 10 (g171 1046 0) (g171 1100007 (g171 1046 0)) (g171 1100025 (g171 1046 0)) (g171 1100007 (g171 1100025 (g171 1046 0))) (g171 1100025 (g171 1100025 (g171 1046 0))) = g171 1100025 (g171 1046 0)) h3169_ h3186_ (sm_nl_18 : sm_nl 18 (S 1046 0) (S 1100007 (S 1046 0)) (S 1100025 (S 1046 0)) (S 1100007 (S 1100025 (S 1046 0))) (S 1100025 (S 1100025 (S 1046 0))) = S 1100025 (S 1046 0)))
      have e3203_ : S 1100007 (g177 1100025 (g177 1046 0)) = S 1100007 (g162 1100025 (g162 1046 0)) := congrArg ((S 1100007)) (la_behind_71 h3152_ (sm_nl_10 : sm_nl 10 (g171 1046 0) (g171 1100007 (g171 1046 0)) (g171 1100025 (g171 1046 0)) (g171 1100007 (g171 1100025 (g171 1046 0))) (g171 1100025 (g171 1100025 (g171 1046 0))) = g171 1100025 (g171 1046 0)) h3169_)
      have e3204_ : S 1100007 (g177 1100025 (g177 1046 0)) = S 1100007 (g171 1100025 (g171 1046 0)) := congrArg ((S 1100007)) (la_behind_70 h3152_ (sm_nl_10 : sm_nl 10 (g171 1046 0) (g171 1100007 (g171 1046 0)) (g171 1100025 (g171 1046 0)) (g171 1100007 (g171 1100025 (g171 1046 0))) (g171 1100025 (g171 1100025 (g171 1046 0))) = g171 1100025 (g171 1046 0)))
      have e3205_ : g162 1100007 (g171 1100023 (g171 1046 0)) = g162 1100007 (g162 1100023 (g162 1046 0)) := congrArg ((g162 1100007)) h3167_
      have e3206_ : g162 1100007 (g171 1100025 (g171 1046 0)) = g162 1100007 (g162 1100025 (g162 1046 0)) := congrArg ((g162 1100007)) h3169_
      have e3207_ : g162 1100007 (g177 1100023 (g177 1046 0)) = g162 1100007 (g162 1100023 (g162 1046 0)) := congrArg ((g162 1100007)) (la_behind_71 h3150_ (sm_nt_10 : sm_nt 10 (g171 1046 0) (g171 1100023 (g171 1046 0)) (g171 1100023 (g171 1100023 (g171 1046 0))) = g171 1100023 (g171 1046 0)) h3167_)
      have e3208_ : g162 1100007 (g177 1100023 (g177 1046 0)) = g162 1100007 (g171 1100023 (g171 1046 0)) := congrArg ((g162 1100007)) (la_behind_70 h3150_ (sm_nt_10 : sm_nt 10 (g171 1046 0) (g171 1100023 (g171 1046 0)) (g171 1100023 (g171 1100023 (g171 1046 0))) = g171 1100023 (g171 1046 0)))
      have e3209_ : g162 1100007 (g177 1100025 (g177 1046 0)) = g162 1100007 (g162 1100025 (g162 1046 0)) := congrArg ((g162 1100007)) (la_behind_71 h3152_ (sm_nl_10 : sm_nl 10 (g171 1046 0) (g171 1100007 (g171 1046 0)) (g171 1100025 (g171 1046 0)) (g171 1100007 (g171 1100025 (g171 1046 0))) (g171 1100025 (g171 1100025 (g171 1046 0))) = g171 1100025 (g171 1046 0)) h3169_)
      have e3210_ : g162 1100007 (g177 1100025 (g177 1046 0)) = g162 1100007 (g171 1100025 (g171 1046 0)) := congrArg ((g162 1100007)) (la_behind_70 h3152_ (sm_nl_10 : sm_nl 10 (g171 1046 0) (g171 1100007 (g171 1046 0)) (g171 1100025 (g171 1046 0)) (g171 1100007 (g171 1100025 (g171 1046 0))) (g171 1100025 (g171 1100025 (g171 1046 0))) = g171 1100025 (g171 1046 0)))
      have e3211_ : g171 1100007 (g177 1100023 (g177 1046 0)) = g171 1100007 (g171 1100023 (g171 1046 0)) := congrArg ((g171 1100007)) (la_behind_70 h3150_ (sm_nt_10 : sm_nt 10 (g171 1046 0) (g171 1100023 (g171 1046 0)) (g171 1100023 (g171 1100023 (g171 1046 0))) = g171 1100023 (g171 1046 0)))
      have e3212_ : g171 1100007 (g177 1100025 (g177 1046 0)) = g171 1100007 (g171 1100025 (g171 1046 0)) := congrArg ((g171 1100007)) (la_behind_70 h3152_ (sm_nl_10 : sm_nl 10 (g171 1046 0) (g171 1100007 (g171 1046 0)) (g171 1100025 (g171 1046 0)) (g171 1100007 (g171 1100025 (g171 1046 0))) (g171 1100025 (g171 1100025 (g171 1046 0))) = g171 1100025 (g171 1046 0)))
      by_cases c3217_ : x11 = (-1)
      · skip
        have e3218_ : (if x11 = (-1) then 0 else 17 * S 1100005 x11 + 17 : Int) = 0 := if_pos c3217_
        exact (la_behind_381 (sm_ex_e h1405_).2.2.2.1 (sm_ex_e h1863_).2.2.2.1 h1872_ e3141_ h3144_ h3164_ h3178_ e3218_)
      · skip
        have e3219_ : (if x11 = (-1) then 0 else 17 * S 1100005 x11 + 17 : Int) = 17 * S 1100005 x11 + 17 := if_neg c3217_
        have h3220_ := (h1397_ (la_behind_245 (la_behind_244 h1395_ c3217_)))
        have h3221_ := (h1410_ (la_behind_245 (la_behind_244 h1395_ c3217_)))
        have h3222_ := (h3220_ (sm_ex_e (sm_li_r h1407_ c3217_)).2.1)
        obtain ⟨h3223_, ⟨h3224_, ⟨h3225_, h3226_⟩⟩⟩ := (h3221_ (sm_ex_e (sm_li_r h1407_ c3217_)).2.1)
        obtain ⟨h3227_, h3228_⟩ := (h3222_ (sm_ex_e (sm_li_r h1407_ c3217_)).2.2.1)
        have h3229_ := (h3226_ (sm_ex_e (sm_li_r h1407_ c3217_)).2.2.1)
        exact (la_behind_382 h1386_ e3141_ h3144_ h3164_ h3178_ e3219_ (sm_ex_e (sm_li_r h1407_ c3217_)).2.2.2.2)
    · skip
      have e3230_ : (if g177 1047 0 = 0 then (if x11 = (-1) then 0 else 17 * S 1100005 x11 + 17) + (600 - g177 1046 0) + 9 else 5 : Int) = 5 := if_neg c3140_
      have h3231_ := (h2341_ (la_behind_56 h2335_ (la_behind_55 h2334_ c3140_)))
      exact (la_behind_380 h15_ h49_ e3230_)
  intro r189
  intro h3232_
  intro g185
  rintro ⟨h3233_, ⟨h3234_, ⟨h3235_, ⟨h3236_, ⟨h3237_, ⟨h3238_, ⟨h3239_, ⟨h3240_, ⟨h3241_, ⟨h3242_, ⟨h3243_, ⟨h3244_, ⟨h3245_, ⟨h3246_, ⟨h3247_, ⟨h3248_, ⟨h3249_, ⟨h3250_, ⟨h3251_, ⟨h3252_, ⟨h3253_, ⟨h3254_, ⟨h3255_, ⟨h3256_, ⟨h3257_, ⟨h3258_, ⟨h3259_, ⟨h3260_, ⟨h3261_, h3262_⟩⟩⟩⟩⟩⟩⟩⟩⟩⟩⟩⟩⟩⟩⟩⟩⟩⟩⟩⟩⟩⟩⟩⟩⟩⟩⟩⟩⟩
  intro h3263_
  refine ⟨?_, ?_⟩
  · skip
    refine ⟨h3235_, ?_⟩
    refine ⟨h3236_, ?_⟩
    refine ⟨h3237_, ?_⟩
    refine ⟨h3238_, ?_⟩
    intro h3264_
    have h3265_ : ¬ (g177 1047 0 = 1) := fun q_ => (la_behind_43 h3264_) (h3242_ q_)
    obtain ⟨h3266_, ⟨h3267_, ⟨h3268_, ⟨h3269_, ⟨h3270_, ⟨h3271_, ⟨h3272_, ⟨h3273_, ⟨h3274_, ⟨h3275_, ⟨h3276_, ⟨h3277_, ⟨h3278_, ⟨h3279_, ⟨h3280_, ⟨h3281_, -⟩⟩⟩⟩⟩⟩⟩⟩⟩⟩⟩⟩⟩⟩⟩⟩ := (h3262_ h3264_)
    have h3282_ : ¬ (g171 1047 0 = 1) := fun q_ => h3265_ (h2340_ q_)
    have h3283_ := (h3261_ h3266_)
    obtain ⟨h3284_, ⟨h3285_, ⟨h3286_, ⟨h3287_, ⟨h3288_, ⟨h3289_, ⟨h3290_, ⟨h3291_, ⟨h3292_, ⟨h3293_, ⟨h3294_, ⟨h3295_, ⟨h3296_, h3297_⟩⟩⟩⟩⟩⟩⟩⟩⟩⟩⟩⟩⟩ := (h2350_ h3266_)
    have h3298_ : ¬ (g162 1047 0 = 1) := fun q_ => h3282_ (h2099_ q_)
    have h3299_ := (h3297_ la_behind_191)
    obtain ⟨h3300_, ⟨h3301_, ⟨h3302_, ⟨h3303_, ⟨h3304_, ⟨h3305_, ⟨h3306_, ⟨h3307_, ⟨h3308_, ⟨h3309_, ⟨h3310_, ⟨h3311_, ⟨h3312_, ⟨h3313_, ⟨h3314_, ⟨h3315_, -⟩⟩⟩⟩⟩⟩⟩⟩⟩⟩⟩⟩⟩⟩⟩⟩ := (h2119_ h3284_)
    have h3316_ := (h2118_ h3300_)
    have h3317_ := (h3299_ la_behind_193)
    obtain ⟨h3318_, ⟨h3319_, ⟨h3320_, ⟨h3321_, ⟨h3322_, ⟨h3323_, ⟨h3324_, ⟨h3325_, ⟨h3326_, ⟨h3327_, ⟨h3328_, ⟨h3329_, ⟨h3330_, h3331_⟩⟩⟩⟩⟩⟩⟩⟩⟩⟩⟩⟩⟩ := (h1982_ h3300_)
    have h3332_ := (h3331_ la_behind_337)
    have h3333_ := (h3332_ la_behind_339)
    refine ⟨h3267_, ?_⟩
    refine ⟨la_behind_260, ?_⟩
    refine ⟨la_behind_261, ?_⟩
    refine ⟨(sm_ci_15 (la_behind_383 h26_ h32_ h33_ h40_ h3233_ h3234_ h3273_ h3274_ h3276_ h3277_ h3278_ h3290_ (sm_dl_10 : sm_dl 10 0 = (-1)) h3291_ (sm_nt_10 : sm_nt 10 (g171 1046 0) (g171 1100023 (g171 1046 0)) (g171 1100023 (g171 1100023 (g171 1046 0))) = g171 1100023 (g171 1046 0)) h3293_ (sm_nl_10 : sm_nl 10 (g171 1046 0) (g171 1100007 (g171 1046 0)) (g171 1100025 (g171 1046 0)) (g171 1100007 (g171 1100025 (g171 1046 0))) (g171 1100025 (g171 1100025 (g171 1046 0))) = g171 1100025 (g171 1046 0)) h3294_ (sm_nt_10 : sm_nt 10 (g171 1100007 (g171 1046 0)) (g171 1100007 (g171 1100023 (g171 1046 0))) (g171 1100007 (g171 1100023 (g171 1100023 (g171 1046 0)))) = g171 1100007 (g171 1100023 (g171 1046 0))) h3307_ h3308_ h3310_ h3311_ h3312_ h3317_ h3324_ (sm_dl_18 : sm_dl 18 0 = 1) h3325_ (sm_nt_18 : sm_nt 18 (S 1046 0) (S 1100023 (S 1046 0)) (S 1100023 (S 1100023 (S 1046 0))) = S 1100023 (S 1046 0)) h3327_ (sm_nl_18 : sm_nl 18 (S 1046 0) (S 1100007 (S 1046 0)) (S 1100025 (S 1046 0)) (S 1100007 (S 1100025 (S 1046 0))) (S 1100025 (S 1100025 (S 1046 0))) = S 1100025 (S 1046 0)) h3328_ (sm_nt_18 : sm_nt 18 (S 1100007 (S 1046 0)) (S 1100007 (S 1100023 (S 1046 0))) (S 1100007 (S 1100023 (S 1100023 (S 1046 0)))) = S 1100007 (S 1100023 (S 1046 0))) h3333_ (sm_dl_15 : sm_dl 15 r189 = -r189 - 1) (sm_nt_15 : sm_nt 15 (g185 1046 0) (g185 1100023 (g185 1046 0)) (g185 1100023 (g185 1100023 (g185 1046 0))) = g185 1100023 (g185 1046 0)) (sm_nl_15 : sm_nl 15 (g185 1046 0) (g185 1100007 (g185 1046 0)) (g185 1100025 (g185 1046 0)) (g185 1100007 (g185 1100025 (g185 1046 0))) (g185 1100025 (g185 1100025 (g185 1046 0))) = g185 1100025 (g185 1046 0)))), ?_⟩
    refine ⟨la_behind_263, ?_⟩
    intro h3334_
    have h3335_ := (h3334_.resolve_left la_behind_264)
    have e3336_ : (if x11 = (-1) then 0 else 17 * S 1100005 x11 + 17 : Int) = 0 := if_pos (la_behind_267 h3335_)
    have e3337_ : (if x11 = (-1) then 0 else 8 * S 1100005 x11 + 17 : Int) = 0 := if_pos (la_behind_267 h3335_)
    have h3338_ := (h32_ (la_behind_268 h3335_))
    have h3339_ := (h33_ (la_behind_268 h3335_))
    have h3340_ := (h1397_ (sm_ex_e (sm_li_r h1407_ (la_behind_266 h3335_))).1)
    have h3341_ := (h1410_ (sm_ex_e (sm_li_r h1407_ (la_behind_266 h3335_))).1)
    have h3342_ := (h1873_ (la_behind_273 h3335_))
    have h3343_ := (h1874_ (la_behind_274 h3335_))
    have h3344_ := (h3263_ (la_behind_269 h3335_))
    have h3345_ := (h3340_ (sm_ex_e (sm_li_r h1407_ (la_behind_266 h3335_))).2.1)
    obtain ⟨h3346_, ⟨h3347_, ⟨h3348_, h3349_⟩⟩⟩ := (h3341_ (sm_ex_e (sm_li_r h1407_ (la_behind_266 h3335_))).2.1)
    have h3350_ := (h3344_ h52_)
    obtain ⟨h3351_, h3352_⟩ := (h3345_ (sm_ex_e (sm_li_r h1407_ (la_behind_266 h3335_))).2.2.1)
    obtain ⟨h3353_, ⟨h3354_, ⟨h3355_, h3356_⟩⟩⟩ := (h3346_ (la_behind_270 h3335_))
    obtain ⟨h3357_, ⟨h3358_, h3359_⟩⟩ := (h3347_ (la_behind_271 h3335_))
    obtain ⟨h3360_, ⟨h3361_, h3362_⟩⟩ := (h3348_ (la_behind_272 h3335_))
    have h3363_ := (h3349_ (sm_ex_e (sm_li_r h1407_ (la_behind_266 h3335_))).2.2.1)
    have h3364_ := (h3354_ (la_behind_273 h3335_))
    have h3365_ := (h3355_ (la_behind_274 h3335_))
    have h3366_ := (h3359_ (la_behind_275 h3335_))
    have h3367_ := (h3362_ (la_behind_267 h3335_))
    have e3368_ : S 11 p1 = S 11 (S 12 (5 * p1)) := congrArg ((S 11)) (la_behind_276 h3335_)
    have e3369_ : S 11 x8 = S 11 (S 12 (5 * p1)) := congrArg ((S 11)) (la_behind_276 h3335_)
    have e3370_ : S 11 x8 = S 11 p1 := congrArg ((S 11)) (la_behind_276 h3335_)
    have e3371_ : S 1100001 (S 12 (5 * x8 + 1)) = S 1100001 (S 12 (5 * x8)) := congrArg ((S 1100001)) (la_behind_276 h3335_)
    have e3372_ : S 1100001 p1 = S 1100001 (S 12 (5 * x8)) := congrArg ((S 1100001)) (la_behind_276 h3335_)
    have e3373_ : S 1100001 p1 = S 1100001 (S 12 (5 * x8 + 1)) := congrArg ((S 1100001)) (la_behind_276 h3335_)
    have e3374_ : S 1100001 x11 = S 1100001 (S 12 (5 * x8)) := congrArg ((S 1100001)) (la_behind_276 h3335_)
    have e3375_ : S 1100001 x11 = S 1100001 (S 12 (5 * x8 + 1)) := congrArg ((S 1100001)) (la_behind_276 h3335_)
    have e3376_ : S 1100001 x11 = S 1100001 p1 := congrArg ((S 1100001)) (la_behind_276 h3335_)
    have e3377_ : S 1100001 x8 = S 1100001 (S 12 (5 * x8)) := congrArg ((S 1100001)) (la_behind_276 h3335_)
    have e3378_ : S 1100001 x8 = S 1100001 (S 12 (5 * x8 + 1)) := congrArg ((S 1100001)) (la_behind_276 h3335_)
    have e3379_ : S 1100001 x8 = S 1100001 p1 := congrArg ((S 1100001)) (la_behind_276 h3335_)
    have e3380_ : S 1100001 x8 = S 1100001 x11 := congrArg ((S 1100001)) (la_behind_276 h3335_)
    have e3381_ : S 1100002 (S 12 (5 * x8 + 1)) = S 1100002 (S 12 (5 * x8)) := congrArg ((S 1100002)) (la_behind_276 h3335_)
    have e3382_ : S 1100002 p1 = S 1100002 (S 12 (5 * x8)) := congrArg ((S 1100002)) (la_behind_276 h3335_)
    have e3383_ : S 1100002 p1 = S 1100002 (S 12 (5 * x8 + 1)) := congrArg ((S 1100002)) (la_behind_276 h3335_)
    have e3384_ : S 1100002 x11 = S 1100002 (S 12 (5 * x8)) := congrArg ((S 1100002)) (la_behind_276 h3335_)
    have e3385_ : S 1100002 x11 = S 1100002 (S 12 (5 * x8 + 1)) := congrArg ((S 1100002)) (la_behind_276 h3335_)
    have e3386_ : S 1100002 x11 = S 1100002 p1 := congrArg ((S 1100002)) (la_behind_276 h3335_)
    have e3387_ : S 1100002 x8 = S 1100002 (S 12 (5 * x8)) := congrArg ((S 1100002)) (la_behind_276 h3335_)
    have e3388_ : S 1100002 x8 = S 1100002 (S 12 (5 * x8 + 1)) := congrArg ((S 1100002)) (la_behind_276 h3335_)
    have e3389_ : S 1100002 x8 = S 1100002 p1 := congrArg ((S 1100002)) (la_behind_276 h3335_)
    have e3390_ : S 1100002 x8 = S 1100002 x11 := congrArg ((S 1100002)) (la_behind_276 h3335_)
    have e3391_ : S 1100005 (S 12 (5 * x8 + 1)) = S 1100005 (S 12 (5 * x8)) := congrArg ((S 1100005)) (la_behind_276 h3335_)
    have e3392_ : S 1100005 p1 = S 1100005 (S 12 (5 * x8)) := congrArg ((S 1100005)) (la_behind_276 h3335_)
    have e3393_ : S 1100005 p1 = S 1100005 (S 12 (5 * x8 + 1)) := congrArg ((S 1100005)) (la_behind_276 h3335_)
    have e3394_ : S 1100005 x11 = S 1100005 (S 12 (5 * x8)) := congrArg ((S 1100005)) (la_behind_276 h3335_)
    have e3395_ : S 1100005 x11 = S 1100005 (S 12 (5 * x8 + 1)) := congrArg ((S 1100005)) (la_behind_276 h3335_)
    have e3396_ : S 1100005 x11 = S 1100005 p1 := congrArg ((S 1100005)) (la_behind_276 h3335_)
    have e3397_ : S 1100005 x8 = S 1100005 (S 12 (5 * x8)) := congrArg ((S 1100005)) (la_behind_276 h3335_)
    have e3398_ : S 1100005 x8 = S 1100005 (S 12 (5 * x8 + 1)) := congrArg ((S 1100005)) (la_behind_276 h3335_)
    have e3399_ : S 1100005 x8 = S 1100005 p1 := congrArg ((S 1100005)) (la_behind_276 h3335_)
    have e3400_ : S 1100005 x8 = S 1100005 x11 := congrArg ((S 1100005)) (la_behind_276 h3335_)
    have e3401_ : S 1100007 (S 1100023 (S 1046 0)) = S 1100007 (S 1046 0) := congrArg ((S 1100007)) (la_behind_276 h3335_)
    have e3402_ : S 1100007 (S 1100023 (S 1100023 (S 1046 0))) = S 1100007 (S 1046 0) := congrArg ((S 1100007)) (la_behind_276 h3335_)
    have e3403_ : S 1100007 (S 1100023 (S 1100023 (S 1046 0))) = S 1100007 (S 1100023 (S 1046 0)) := congrArg ((S 1100007)) (la_behind_276 h3335_)
    have e3404_ : S 1100007 (S 1100025 (S 1046 0)) = S 1100007 (S 1046 0) := congrArg ((S 1100007)) (la_behind_276 h3335_)
    have e3405_ : S 1100007 (S 1100025 (S 1046 0)) = S 1100007 (S 1100023 (S 1046 0)) := congrArg ((S 1100007)) (la_behind_276 h3335_)
    have e3406_ : S 1100007 (S 1100025 (S 1046 0)) = S 1100007 (S 1100023 (S 1100023 (S 1046 0))) := congrArg ((S 1100007)) (la_behind_276 h3335_)
    have e3407_ : S 1100007 (g162 1046 0) = S 1100007 (S 1046 0) := congrArg ((S 1100007)) (la_behind_276 h3335_)
    have e3408_ : S 1100007 (g162 1046 0) = S 1100007 (S 1100023 (S 1046 0)) := congrArg ((S 1100007)) (la_behind_276 h3335_)
    have e3409_ : S 1100007 (g162 1046 0) = S 1100007 (S 1100023 (S 1100023 (S 1046 0))) := congrArg ((S 1100007)) (la_behind_276 h3335_)
    have e3410_ : S 1100007 (g162 1046 0) = S 1100007 (S 1100025 (S 1046 0)) := congrArg ((S 1100007)) (la_behind_276 h3335_)
    have e3411_ : S 1100007 (g162 1100023 (g162 1046 0)) = S 1100007 (S 1046 0) := congrArg ((S 1100007)) (la_behind_276 h3335_)
    have e3412_ : S 1100007 (g162 1100023 (g162 1046 0)) = S 1100007 (S 1100023 (S 1046 0)) := congrArg ((S 1100007)) (la_behind_276 h3335_)
    have e3413_ : S 1100007 (g162 1100023 (g162 1046 0)) = S 1100007 (S 1100023 (S 1100023 (S 1046 0))) := congrArg ((S 1100007)) (la_behind_276 h3335_)
    have e3414_ : S 1100007 (g162 1100023 (g162 1046 0)) = S 1100007 (S 1100025 (S 1046 0)) := congrArg ((S 1100007)) (la_behind_276 h3335_)
    have e3415_ : S 1100007 (g162 1100023 (g162 1046 0)) = S 1100007 (g162 1046 0) := congrArg ((S 1100007)) (la_behind_276 h3335_)
    have e3416_ : S 1100007 (g162 1100025 (g162 1046 0)) = S 1100007 (S 1046 0) := congrArg ((S 1100007)) (la_behind_276 h3335_)
    have e3417_ : S 1100007 (g162 1100025 (g162 1046 0)) = S 1100007 (S 1100023 (S 1046 0)) := congrArg ((S 1100007)) (la_behind_276 h3335_)
    have e3418_ : S 1100007 (g162 1100025 (g162 1046 0)) = S 1100007 (S 1100023 (S 1100023 (S 1046 0))) := congrArg ((S 1100007)) (la_behind_276 h3335_)
    have e3419_ : S 1100007 (g162 1100025 (g162 1046 0)) = S 1100007 (S 1100025 (S 1046 0)) := congrArg ((S 1100007)) (la_behind_276 h3335_)
    have e3420_ : S 1100007 (g162 1100025 (g162 1046 0)) = S 1100007 (g162 1046 0) := congrArg ((S 1100007)) (la_behind_276 h3335_)
    have e3421_ : S 1100007 (g162 1100025 (g162 1046 0)) = S 1100007 (g162 1100023 (g162 1046 0)) := congrArg ((S 1100007)) (la_behind_276 h3335_)
    have e3422_ : S 1100007 (g171 1046 0) = S 1100007 (S 1046 0) := congrArg ((S 1100007)) (la_behind_276 h3335_)
    have e3423_ : S 1100007 (g171 1046 0) = S 1100007 (S 1100023 (S 1046 0)) := congrArg ((S 1100007)) (la_behind_276 h3335_)
    have e3424_ : S 1100007 (g171 1046 0) = S 1100007 (S 1100023 (S 1100023 (S 1046 0))) := congrArg ((S 1100007)) (la_behind_276 h3335_)
    have e3425_ : S 1100007 (g171 1046 0) = S 1100007 (S 1100025 (S 1046 0)) := congrArg ((S 1100007)) (la_behind_276 h3335_)
    have e3426_ : S 1100007 (g171 1046 0) = S 1100007 (g162 1046 0) := congrArg ((S 1100007)) (la_behind_276 h3335_)
    have e3427_ : S 1100007 (g171 1046 0) = S 1100007 (g162 1100023 (g162 1046 0)) := congrArg ((S 1100007)) (la_behind_276 h3335_)
    have e3428_ : S 1100007 (g171 1046 0) = S 1100007 (g162 1100025 (g162 1046 0)) := congrArg ((S 1100007)) (la_behind_276 h3335_)
    have e3429_ : S 1100007 (g171 1100023 (g171 1046 0)) = S 1100007 (S 1046 0) := congrArg ((S 1100007)) (la_behind_276 h3335_)
    have e3430_ : S 1100007 (g171 1100023 (g171 1046 0)) = S 1100007 (S 1100023 (S 1046 0)) := congrArg ((S 1100007)) (la_behind_276 h3335_)
    have e3431_ : S 1100007 (g171 1100023 (g171 1046 0)) = S 1100007 (S 1100023 (S 1100023 (S 1046 0))) := congrArg ((S 1100007)) (la_behind_276 h3335_)
    have e3432_ : S 1100007 (g171 1100023 (g171 1046 0)) = S 1100007 (S 1100025 (S 1046 0)) := congrArg ((S 1100007)) (la_behind_276 h3335_)
    have e3433_ : S 1100007 (g171 1100023 (g171 1046 0)) = S 1100007 (g162 1046 0) := congrArg ((S 1100007)) (la_behind_276 h3335_)
    have e3434_ : S 1100007 (g171 1100023 (g171 1046 0)) = S 1100007 (g162 1100023 (g162 1046 0)) := congrArg ((S 1100007)) h3308_
    have e3435_ : S 1100007 (g171 1100023 (g171 1046 0)) = S 1100007 (g162 1100025 (g162 1046 0)) := congrArg ((S 1100007)) (la_behind_276 h3335_)
    have e3436_ : S 1100007 (g171 1100023 (g171 1046 0)) = S 1100007 (g171 1046 0) := congrArg ((S 1100007)) (la_behind_276 h3335_)
    have e3437_ : S 1100007 (g171 1100025 (g171 1046 0)) = S 1100007 (S 1046 0) := congrArg ((S 1100007)) (la_behind_276 h3335_)
    have e3438_ : S 1100007 (g171 1100025 (g171 1046 0)) = S 1100007 (S 1100023 (S 1046 0)) := congrArg ((S 1100007)) (la_behind_276 h3335_)
    have e3439_ : S 1100007 (g171 1100025 (g171 1046 0)) = S 1100007 (S 1100023 (S 1100023 (S 1046 0))) := congrArg ((S 1100007)) (la_behind_276 h3335_)
    have e3440_ : S 1100007 (g171 1100025 (g171 1046 0)) = S 1100007 (S 1100025 (S 1046 0)) := congrArg ((S 1100007)) (la_behind_276 h3335_)
    have e3441_ : S 1100007 (g171 1100025 (g171 1046 0)) = S 1100007 (g162 1046 0) := congrArg ((S 1100007)) (la_behind_276 h3335_)
    have e3442_ : S 1100007 (g171 1100025 (g171 1046 0)) = S 1100007 (g162 1100023 (g162 1046 0)) := congrArg ((S 1100007)) (la_behind_276 h3335_)
    have e3443_ : S 1100007 (g171 1100025 (g171 1046 0)) = S 1100007 (g162 1100025 (g162 1046 0)) := congrArg ((S 1100007)) h3310_
    have e3444_ : S 1100007 (g171 1100025 (g171 1046 0)) = S 1100007 (g171 1046 0) := congrArg ((S 1100007)) (la_behind_276 h3335_)
    have e3445_ : S 1100007 (g171 1100025 (g171 1046 0)) = S 1100007 (g171 1100023 (g171 1046 0)) := congrArg ((S 1100007)) (la_behind_276 h3335_)
    have e3446_ : S 1100007 (g177 1046 0) = S 1100007 (S 1046 0) := congrArg ((S 1100007)) (la_behind_276 h3335_)
    have e3447_ : S 1100007 (g177 1046 0) = S 1100007 (S 1100023 (S 1046 0)) := congrArg ((S 1100007)) (la_behind_276 h3335_)
    have e3448_ : S 1100007 (g177 1046 0) = S 1100007 (S 1100023 (S 1100023 (S 1046 0))) := congrArg ((S 1100007)) (la_behind_276 h3335_)
    have e3449_ : S 1100007 (g177 1046 0) = S 1100007 (S 1100025 (S 1046 0)) := congrArg ((S 1100007)) (la_behind_276 h3335_)
    have e3450_ : S 1100007 (g177 1046 0) = S 1100007 (g162 1046 0) := congrArg ((S 1100007)) (la_behind_276 h3335_)
    have e3451_ : S 1100007 (g177 1046 0) = S 1100007 (g162 1100023 (g162 1046 0)) := congrArg ((S 1100007)) (la_behind_276 h3335_)
    have e3452_ : S 1100007 (g177 1046 0) = S 1100007 (g162 1100025 (g162 1046 0)) := congrArg ((S 1100007)) (la_behind_276 h3335_)
    have e3453_ : S 1100007 (g177 1046 0) = S 1100007 (g171 1046 0) := congrArg ((S 1100007)) (la_behind_276 h3335_)
    have e3454_ : S 1100007 (g177 1046 0) = S 1100007 (g171 1100023 (g171 1046 0)) := congrArg ((S 1100007)) (la_behind_276 h3335_)
    have e3455_ : S 1100007 (g177 1046 0) = S 1100007 (g171 1100025 (g171 1046 0)) := congrArg ((S 1100007)) (la_behind_276 h3335_)
    have e3456_ : S 1100007 (g177 1100023 (g177 1046 0)) = S 1100007 (S 1046 0) := congrArg ((S 1100007)) (la_behind_276 h3335_)
    have e3457_ : S 1100007 (g177 1100023 (g177 1046 0)) = S 1100007 (S 1100023 (S 1046 0)) := congrArg ((S 1100007)) (la_behind_276 h3335_)
    have e3458_ : S 1100007 (g177 1100023 (g177 1046 0)) = S 1100007 (S 1100023 (S 1100023 (S 1046 0))) := congrArg ((S 1100007)) (la_behind_276 h3335_)
    have e3459_ : S 1100007 (g177 1100023 (g177 1046 0)) = S 1100007 (S 1100025 (S 1046 0)) := congrArg ((S 1100007)) (la_behind_276 h3335_)
    have e3460_ : S 1100007 (g177 1100023 (g177 1046 0)) = S 1100007 (g162 1046 0) := congrArg ((S 1100007)) (la_behind_276 h3335_)
    have e3461_ : S 1100007 (g177 1100023 (g177 1046 0)) = S 1100007 (g162 1100023 (g162 1046 0)) := congrArg ((S 1100007)) (la_behind_276 h3335_)
    have e3462_ : S 1100007 (g177 1100023 (g177 1046 0)) = S 1100007 (g162 1100025 (g162 1046 0)) := congrArg ((S 1100007)) (la_behind_276 h3335_)
    have e3463_ : S 1100007 (g177 1100023 (g177 1046 0)) = S 1100007 (g171 1046 0) := congrArg ((S 1100007)) (la_behind_276 h3335_)
    have e3464_ : S 1100007 (g177 1100023 (g177 1046 0)) = S 1100007 (g171 1100023 (g171 1046 0)) := congrArg ((S 1100007)) (la_behind_276 h3335_)
    have e3465_ : S 1100007 (g177 1100023 (g177 1046 0)) = S 1100007 (g171 1100025 (g171 1046 0)) := congrArg ((S 1100007)) (la_behind_276 h3335_)
    have e3466_ : S 1100007 (g177 1100023 (g177 1046 0)) = S 1100007 (g177 1046 0) := congrArg ((S 1100007)) (la_behind_276 h3335_)
    have e3467_ : S 1100007 (g177 1100025 (g177 1046 0)) = S 1100007 (S 1046 0) := congrArg ((S 1100007)) (la_behind_276 h3335_)
    have e3468_ : S 1100007 (g177 1100025 (g177 1046 0)) = S 1100007 (S 1100023 (S 1046 0)) := congrArg ((S 1100007)) (la_behind_276 h3335_)
    have e3469_ : S 1100007 (g177 1100025 (g177 1046 0)) = S 1100007 (S 1100023 (S 1100023 (S 1046 0))) := congrArg ((S 1100007)) (la_behind_276 h3335_)
    have e3470_ : S 1100007 (g177 1100025 (g177 1046 0)) = S 1100007 (S 1100025 (S 1046 0)) := congrArg ((S 1100007)) (la_behind_276 h3335_)
    have e3471_ : S 1100007 (g177 1100025 (g177 1046 0)) = S 1100007 (g162 1046 0) := congrArg ((S 1100007)) (la_behind_276 h3335_)
    have e3472_ : S 1100007 (g177 1100025 (g177 1046 0)) = S 1100007 (g162 1100023 (g162 1046 0)) := congrArg ((S 1100007)) (la_behind_276 h3335_)
    have e3473_ : S 1100007 (g177 1100025 (g177 1046 0)) = S 1100007 (g162 1100025 (g162 1046 0)) := congrArg ((S 1100007)) (la_behind_276 h3335_)
    have e3474_ : S 1100007 (g177 1100025 (g177 1046 0)) = S 1100007 (g171 1046 0) := congrArg ((S 1100007)) (la_behind_276 h3335_)
    have e3475_ : S 1100007 (g177 1100025 (g177 1046 0)) = S 1100007 (g171 1100023 (g171 1046 0)) := congrArg ((S 1100007)) (la_behind_276 h3335_)
    have e3476_ : S 1100007 (g177 1100025 (g177 1046 0)) = S 1100007 (g171 1100025 (g171 1046 0)) := congrArg ((S 1100007)) (la_behind_276 h3335_)
    have e3477_ : S 1100007 (g177 1100025 (g177 1046 0)) = S 1100007 (g177 1046 0) := congrArg ((S 1100007)) (la_behind_276 h3335_)
    have e3478_ : S 1100007 (g177 1100025 (g177 1046 0)) = S 1100007 (g177 1100023 (g177 1046 0)) := congrArg ((S 1100007)) (la_behind_276 h3335_)
    have e3479_ : S 1100023 (S 1100023 (S 1046 0)) = S 1100023 (S 1046 0) := congrArg ((S 1100023)) (la_behind_276 h3335_)
    have e3480_ : S 1100023 (g162 1046 0) = S 1100023 (S 1046 0) := congrArg ((S 1100023)) (la_behind_276 h3335_)
    have e3481_ : S 1100023 (g162 1046 0) = S 1100023 (S 1100023 (S 1046 0)) := congrArg ((S 1100023)) (la_behind_276 h3335_)
    have e3482_ : S 1100023 (g171 1046 0) = S 1100023 (S 1046 0) := congrArg ((S 1100023)) (la_behind_276 h3335_)
    have e3483_ : S 1100023 (g171 1046 0) = S 1100023 (S 1100023 (S 1046 0)) := congrArg ((S 1100023)) (la_behind_276 h3335_)
    have e3484_ : S 1100023 (g171 1046 0) = S 1100023 (g162 1046 0) := congrArg ((S 1100023)) (la_behind_276 h3335_)
    have e3485_ : S 1100023 (g177 1046 0) = S 1100023 (S 1046 0) := congrArg ((S 1100023)) (la_behind_276 h3335_)
    have e3486_ : S 1100023 (g177 1046 0) = S 1100023 (S 1100023 (S 1046 0)) := congrArg ((S 1100023)) (la_behind_276 h3335_)
    have e3487_ : S 1100023 (g177 1046 0) = S 1100023 (g162 1046 0) := congrArg ((S 1100023)) (la_behind_276 h3335_)
    have e3488_ : S 1100023 (g177 1046 0) = S 1100023 (g171 1046 0) := congrArg ((S 1100023)) (la_behind_276 h3335_)
    have e3489_ : S 1100024 (g162 1046 0) = S 1100024 (S 1046 0) := congrArg ((S 1100024)) (la_behind_276 h3335_)
    have e3490_ : S 1100024 (g171 1046 0) = S 1100024 (S 1046 0) := congrArg ((S 1100024)) (la_behind_276 h3335_)
    have e3491_ : S 1100024 (g171 1046 0) = S 1100024 (g162 1046 0) := congrArg ((S 1100024)) (la_behind_276 h3335_)
    have e3492_ : S 1100024 (g177 1046 0) = S 1100024 (S 1046 0) := congrArg ((S 1100024)) (la_behind_276 h3335_)
    have e3493_ : S 1100024 (g177 1046 0) = S 1100024 (g162 1046 0) := congrArg ((S 1100024)) (la_behind_276 h3335_)
    have e3494_ : S 1100024 (g177 1046 0) = S 1100024 (g171 1046 0) := congrArg ((S 1100024)) (la_behind_276 h3335_)
    have e3495_ : S 1100025 (S 1100025 (S 1046 0)) = S 1100025 (S 1046 0) := congrArg ((S 1100025)) (la_behind_276 h3335_)
    have e3496_ : S 1100025 (g162 1046 0) = S 1100025 (S 1046 0) := congrArg ((S 1100025)) (la_behind_276 h3335_)
    have e3497_ : S 1100025 (g162 1046 0) = S 1100025 (S 1100025 (S 1046 0)) := congrArg ((S 1100025)) (la_behind_276 h3335_)
    have e3498_ : S 1100025 (g171 1046 0) = S 1100025 (S 1046 0) := congrArg ((S 1100025)) (la_behind_276 h3335_)
    have e3499_ : S 1100025 (g171 1046 0) = S 1100025 (S 1100025 (S 1046 0)) := congrArg ((S 1100025)) (la_behind_276 h3335_)
    have e3500_ : S 1100025 (g171 1046 0) = S 1100025 (g162 1046 0) := congrArg ((S 1100025)) (la_behind_276 h3335_)
    have e3501_ : S 1100025 (g177 1046 0) = S 1100025 (S 1046 0) := congrArg ((S 1100025)) (la_behind_276 h3335_)
    have e3502_ : S 1100025 (g177 1046 0) = S 1100025 (S 1100025 (S 1046 0)) := congrArg ((S 1100025)) (la_behind_276 h3335_)
    have e3503_ : S 1100025 (g177 1046 0) = S 1100025 (g162 1046 0) := congrArg ((S 1100025)) (la_behind_276 h3335_)
    have e3504_ : S 1100025 (g177 1046 0) = S 1100025 (g171 1046 0) := congrArg ((S 1100025)) (la_behind_276 h3335_)
    have e3505_ : S 12 (5 * x8) = S 12 (5 * p1) := congrArg ((S 12)) (la_behind_386 h3335_)
    have e3506_ : S 12 (5 * S 12 (5 * x8 + 1) + 1) = S 12 (5 * p1) := congrArg ((S 12)) (la_behind_279 h3335_)
    have e3507_ : S 12 (5 * S 12 (5 * x8 + 1) + 1) = S 12 (5 * x8) := congrArg ((S 12)) (la_behind_279 h3335_)
    have e3508_ : S 12 (5 * p1 + 0) = S 12 (5 * p1) := congrArg ((S 12)) la_behind_26
    have e3509_ : S 12 (5 * p1 + 0) = S 12 (5 * x8) := congrArg ((S 12)) (la_behind_387 h3335_)
    have e3510_ : S 12 (5 * p1 + 0) = S 12 (5 * S 12 (5 * x8 + 1) + 1) := congrArg ((S 12)) (la_behind_388 h3335_)
    have e3511_ : S 12 (5 * p1 + 1) = S 12 (5 * p1) := congrArg ((S 12)) (la_behind_277 h3335_)
    have e3512_ : S 12 (5 * p1 + 1) = S 12 (5 * x8) := congrArg ((S 12)) (la_behind_279 h3335_)
    have e3513_ : S 12 (5 * p1 + 1) = S 12 (5 * S 12 (5 * x8 + 1) + 1) := congrArg ((S 12)) (la_behind_281 h3335_)
    have e3514_ : S 12 (5 * p1 + 1) = S 12 (5 * p1 + 0) := congrArg ((S 12)) (la_behind_278 h3335_)
    have e3515_ : S 12 (5 * x11 + 1) = S 12 (5 * p1) := congrArg ((S 12)) (la_behind_279 h3335_)
    have e3516_ : S 12 (5 * x11 + 1) = S 12 (5 * x8) := congrArg ((S 12)) (la_behind_279 h3335_)
    have e3517_ : S 12 (5 * x11 + 1) = S 12 (5 * S 12 (5 * x8 + 1) + 1) := congrArg ((S 12)) (la_behind_281 h3335_)
    have e3518_ : S 12 (5 * x11 + 1) = S 12 (5 * p1 + 0) := congrArg ((S 12)) (la_behind_280 h3335_)
    have e3519_ : S 12 (5 * x11 + 1) = S 12 (5 * p1 + 1) := congrArg ((S 12)) (la_behind_281 h3335_)
    have e3520_ : S 12 (5 * x8 + 1) = S 12 (5 * p1) := congrArg ((S 12)) (la_behind_279 h3335_)
    have e3521_ : S 12 (5 * x8 + 1) = S 12 (5 * x8) := congrArg ((S 12)) (la_behind_277 h3335_)
    have e3522_ : S 12 (5 * x8 + 1) = S 12 (5 * S 12 (5 * x8 + 1) + 1) := congrArg ((S 12)) (la_behind_281 h3335_)
    have e3523_ : S 12 (5 * x8 + 1) = S 12 (5 * p1 + 0) := congrArg ((S 12)) (la_behind_280 h3335_)
    have e3524_ : S 12 (5 * x8 + 1) = S 12 (5 * p1 + 1) := congrArg ((S 12)) (la_behind_281 h3335_)
    have e3525_ : S 12 (5 * x8 + 1) = S 12 (5 * x11 + 1) := congrArg ((S 12)) (la_behind_281 h3335_)
    have e3526_ : S 26 (g171 1046 0) = S 26 (S 1046 0) := congrArg ((S 26)) (la_behind_276 h3335_)
    have e3527_ : S 29 (g171 1046 0) = S 29 (S 1046 0) := congrArg ((S 29)) (la_behind_276 h3335_)
    have e3528_ : g162 1100007 (g162 1100023 (g162 1046 0)) = g162 1100007 (g162 1046 0) := congrArg ((g162 1100007)) (la_behind_276 h3335_)
    have e3529_ : g162 1100007 (g162 1100025 (g162 1046 0)) = g162 1100007 (g162 1046 0) := congrArg ((g162 1100007)) (la_behind_276 h3335_)
    have e3530_ : g162 1100007 (g162 1100025 (g162 1046 0)) = g162 1100007 (g162 1100023 (g162 1046 0)) := congrArg ((g162 1100007)) (la_behind_276 h3335_)
    have e3531_ : g162 1100007 (g171 1046 0) = g162 1100007 (g162 1046 0) := congrArg ((g162 1100007)) (la_behind_276 h3335_)
    have e3532_ : g162 1100007 (g171 1046 0) = g162 1100007 (g162 1100023 (g162 1046 0)) := congrArg ((g162 1100007)) (la_behind_276 h3335_)
    have e3533_ : g162 1100007 (g171 1046 0) = g162 1100007 (g162 1100025 (g162 1046 0)) := congrArg ((g162 1100007)) (la_behind_276 h3335_)
    have e3534_ : g162 1100007 (g171 1100023 (g171 1046 0)) = g162 1100007 (g162 1046 0) := congrArg ((g162 1100007)) (la_behind_276 h3335_)
    have e3535_ : g162 1100007 (g171 1100023 (g171 1046 0)) = g162 1100007 (g162 1100023 (g162 1046 0)) := congrArg ((g162 1100007)) h3308_
    have e3536_ : g162 1100007 (g171 1100023 (g171 1046 0)) = g162 1100007 (g162 1100025 (g162 1046 0)) := congrArg ((g162 1100007)) (la_behind_276 h3335_)
    have e3537_ : g162 1100007 (g171 1100023 (g171 1046 0)) = g162 1100007 (g171 1046 0) := congrArg ((g162 1100007)) (la_behind_276 h3335_)
    have e3538_ : g162 1100007 (g171 1100025 (g171 1046 0)) = g162 1100007 (g162 1046 0) := congrArg ((g162 1100007)) (la_behind_276 h3335_)
    have e3539_ : g162 1100007 (g171 1100025 (g171 1046 0)) = g162 1100007 (g162 1100023 (g162 1046 0)) := congrArg ((g162 1100007)) (la_behind_276 h3335_)
    have e3540_ : g162 1100007 (g171 1100025 (g171 1046 0)) = g162 1100007 (g162 1100025 (g162 1046 0)) := congrArg ((g162 1100007)) h3310_
    have e3541_ : g162 1100007 (g171 1100025 (g171 1046 0)) = g162 1100007 (g171 1046 0) := congrArg ((g162 1100007)) (la_behind_276 h3335_)
    have e3542_ : g162 1100007 (g171 1100025 (g171 1046 0)) = g162 1100007 (g171 1100023 (g171 1046 0)) := congrArg ((g162 1100007)) (la_behind_276 h3335_)
    have e3543_ : g162 1100007 (g177 1046 0) = g162 1100007 (g162 1046 0) := congrArg ((g162 1100007)) (la_behind_276 h3335_)
    have e3544_ : g162 1100007 (g177 1046 0) = g162 1100007 (g162 1100023 (g162 1046 0)) := congrArg ((g162 1100007)) (la_behind_276 h3335_)
    have e3545_ : g162 1100007 (g177 1046 0) = g162 1100007 (g162 1100025 (g162 1046 0)) := congrArg ((g162 1100007)) (la_behind_276 h3335_)
    have e3546_ : g162 1100007 (g177 1046 0) = g162 1100007 (g171 1046 0) := congrArg ((g162 1100007)) (la_behind_276 h3335_)
    have e3547_ : g162 1100007 (g177 1046 0) = g162 1100007 (g171 1100023 (g171 1046 0)) := congrArg ((g162 1100007)) (la_behind_276 h3335_)
    have e3548_ : g162 1100007 (g177 1046 0) = g162 1100007 (g171 1100025 (g171 1046 0)) := congrArg ((g162 1100007)) (la_behind_276 h3335_)
    have e3549_ : g162 1100007 (g177 1100023 (g177 1046 0)) = g162 1100007 (g162 1046 0) := congrArg ((g162 1100007)) (la_behind_276 h3335_)
    have e3550_ : g162 1100007 (g177 1100023 (g177 1046 0)) = g162 1100007 (g162 1100023 (g162 1046 0)) := congrArg ((g162 1100007)) (la_behind_276 h3335_)
    have e3551_ : g162 1100007 (g177 1100023 (g177 1046 0)) = g162 1100007 (g162 1100025 (g162 1046 0)) := congrArg ((g162 1100007)) (la_behind_276 h3335_)
    have e3552_ : g162 1100007 (g177 1100023 (g177 1046 0)) = g162 1100007 (g171 1046 0) := congrArg ((g162 1100007)) (la_behind_276 h3335_)
    have e3553_ : g162 1100007 (g177 1100023 (g177 1046 0)) = g162 1100007 (g171 1100023 (g171 1046 0)) := congrArg ((g162 1100007)) (la_behind_276 h3335_)
    have e3554_ : g162 1100007 (g177 1100023 (g177 1046 0)) = g162 1100007 (g171 1100025 (g171 1046 0)) := congrArg ((g162 1100007)) (la_behind_276 h3335_)
    have e3555_ : g162 1100007 (g177 1100023 (g177 1046 0)) = g162 1100007 (g177 1046 0) := congrArg ((g162 1100007)) (la_behind_276 h3335_)
    have e3556_ : g162 1100007 (g177 1100025 (g177 1046 0)) = g162 1100007 (g162 1046 0) := congrArg ((g162 1100007)) (la_behind_276 h3335_)
    have e3557_ : g162 1100007 (g177 1100025 (g177 1046 0)) = g162 1100007 (g162 1100023 (g162 1046 0)) := congrArg ((g162 1100007)) (la_behind_276 h3335_)
    have e3558_ : g162 1100007 (g177 1100025 (g177 1046 0)) = g162 1100007 (g162 1100025 (g162 1046 0)) := congrArg ((g162 1100007)) (la_behind_276 h3335_)
    have e3559_ : g162 1100007 (g177 1100025 (g177 1046 0)) = g162 1100007 (g171 1046 0) := congrArg ((g162 1100007)) (la_behind_276 h3335_)
    have e3560_ : g162 1100007 (g177 1100025 (g177 1046 0)) = g162 1100007 (g171 1100023 (g171 1046 0)) := congrArg ((g162 1100007)) (la_behind_276 h3335_)
    have e3561_ : g162 1100007 (g177 1100025 (g177 1046 0)) = g162 1100007 (g171 1100025 (g171 1046 0)) := congrArg ((g162 1100007)) (la_behind_276 h3335_)
    have e3562_ : g162 1100007 (g177 1100025 (g177 1046 0)) = g162 1100007 (g177 1046 0) := congrArg ((g162 1100007)) (la_behind_276 h3335_)
    have e3563_ : g162 1100007 (g177 1100025 (g177 1046 0)) = g162 1100007 (g177 1100023 (g177 1046 0)) := congrArg ((g162 1100007)) (la_behind_276 h3335_)
    have e3564_ : g162 1100007 (g185 1046 0) = g162 1100007 (g162 1046 0) := congrArg ((g162 1100007)) (la_behind_276 h3335_)
    have e3565_ : g162 1100007 (g185 1046 0) = g162 1100007 (g162 1100023 (g162 1046 0)) := congrArg ((g162 1100007)) (la_behind_276 h3335_)
    have e3566_ : g162 1100007 (g185 1046 0) = g162 1100007 (g162 1100025 (g162 1046 0)) := congrArg ((g162 1100007)) (la_behind_276 h3335_)
    have e3567_ : g162 1100007 (g185 1046 0) = g162 1100007 (g171 1046 0) := congrArg ((g162 1100007)) (la_behind_276 h3335_)
    have e3568_ : g162 1100007 (g185 1046 0) = g162 1100007 (g171 1100023 (g171 1046 0)) := congrArg ((g162 1100007)) (la_behind_276 h3335_)
    have e3569_ : g162 1100007 (g185 1046 0) = g162 1100007 (g171 1100025 (g171 1046 0)) := congrArg ((g162 1100007)) (la_behind_276 h3335_)
    have e3570_ : g162 1100007 (g185 1046 0) = g162 1100007 (g177 1046 0) := congrArg ((g162 1100007)) (la_behind_276 h3335_)
    have e3571_ : g162 1100007 (g185 1046 0) = g162 1100007 (g177 1100023 (g177 1046 0)) := congrArg ((g162 1100007)) (la_behind_276 h3335_)
    have e3572_ : g162 1100007 (g185 1046 0) = g162 1100007 (g177 1100025 (g177 1046 0)) := congrArg ((g162 1100007)) (la_behind_276 h3335_)
    have e3573_ : g162 1100007 (g185 1100023 (g185 1046 0)) = g162 1100007 (g162 1046 0) := congrArg ((g162 1100007)) (la_behind_276 h3335_)
    have e3574_ : g162 1100007 (g185 1100023 (g185 1046 0)) = g162 1100007 (g162 1100023 (g162 1046 0)) := congrArg ((g162 1100007)) (la_behind_276 h3335_)
    have e3575_ : g162 1100007 (g185 1100023 (g185 1046 0)) = g162 1100007 (g162 1100025 (g162 1046 0)) := congrArg ((g162 1100007)) (la_behind_276 h3335_)
    have e3576_ : g162 1100007 (g185 1100023 (g185 1046 0)) = g162 1100007 (g171 1046 0) := congrArg ((g162 1100007)) (la_behind_276 h3335_)
    have e3577_ : g162 1100007 (g185 1100023 (g185 1046 0)) = g162 1100007 (g171 1100023 (g171 1046 0)) := congrArg ((g162 1100007)) (la_behind_276 h3335_)
    have e3578_ : g162 1100007 (g185 1100023 (g185 1046 0)) = g162 1100007 (g171 1100025 (g171 1046 0)) := congrArg ((g162 1100007)) (la_behind_276 h3335_)
    have e3579_ : g162 1100007 (g185 1100023 (g185 1046 0)) = g162 1100007 (g177 1046 0) := congrArg ((g162 1100007)) (la_behind_276 h3335_)
    have e3580_ : g162 1100007 (g185 1100023 (g185 1046 0)) = g162 1100007 (g177 1100023 (g177 1046 0)) := congrArg ((g162 1100007)) h3274_
    have e3581_ : g162 1100007 (g185 1100023 (g185 1046 0)) = g162 1100007 (g177 1100025 (g177 1046 0)) := congrArg ((g162 1100007)) (la_behind_276 h3335_)
    have e3582_ : g162 1100007 (g185 1100023 (g185 1046 0)) = g162 1100007 (g185 1046 0) := congrArg ((g162 1100007)) (la_behind_276 h3335_)
    have e3583_ : g162 1100007 (g185 1100025 (g185 1046 0)) = g162 1100007 (g162 1046 0) := congrArg ((g162 1100007)) (la_behind_276 h3335_)
    have e3584_ : g162 1100007 (g185 1100025 (g185 1046 0)) = g162 1100007 (g162 1100023 (g162 1046 0)) := congrArg ((g162 1100007)) (la_behind_276 h3335_)
    have e3585_ : g162 1100007 (g185 1100025 (g185 1046 0)) = g162 1100007 (g162 1100025 (g162 1046 0)) := congrArg ((g162 1100007)) (la_behind_276 h3335_)
    have e3586_ : g162 1100007 (g185 1100025 (g185 1046 0)) = g162 1100007 (g171 1046 0) := congrArg ((g162 1100007)) (la_behind_276 h3335_)
    have e3587_ : g162 1100007 (g185 1100025 (g185 1046 0)) = g162 1100007 (g171 1100023 (g171 1046 0)) := congrArg ((g162 1100007)) (la_behind_276 h3335_)
    have e3588_ : g162 1100007 (g185 1100025 (g185 1046 0)) = g162 1100007 (g171 1100025 (g171 1046 0)) := congrArg ((g162 1100007)) (la_behind_276 h3335_)
    have e3589_ : g162 1100007 (g185 1100025 (g185 1046 0)) = g162 1100007 (g177 1046 0) := congrArg ((g162 1100007)) (la_behind_276 h3335_)
    have e3590_ : g162 1100007 (g185 1100025 (g185 1046 0)) = g162 1100007 (g177 1100023 (g177 1046 0)) := congrArg ((g162 1100007)) (la_behind_276 h3335_)
    have e3591_ : g162 1100007 (g185 1100025 (g185 1046 0)) = g162 1100007 (g177 1100025 (g177 1046 0)) := congrArg ((g162 1100007)) h3276_
    have e3592_ : g162 1100007 (g185 1100025 (g185 1046 0)) = g162 1100007 (g185 1046 0) := congrArg ((g162 1100007)) (la_behind_276 h3335_)
    have e3593_ : g162 1100007 (g185 1100025 (g185 1046 0)) = g162 1100007 (g185 1100023 (g185 1046 0)) := congrArg ((g162 1100007)) (la_behind_276 h3335_)
    have e3594_ : g162 1100023 (g171 1046 0) = g162 1100023 (g162 1046 0) := congrArg ((g162 1100023)) (la_behind_276 h3335_)
    have e3595_ : g162 1100023 (g177 1046 0) = g162 1100023 (g162 1046 0) := congrArg ((g162 1100023)) (la_behind_276 h3335_)
    have e3596_ : g162 1100023 (g177 1046 0) = g162 1100023 (g171 1046 0) := congrArg ((g162 1100023)) (la_behind_276 h3335_)
    have e3597_ : g162 1100023 (g185 1046 0) = g162 1100023 (g162 1046 0) := congrArg ((g162 1100023)) (la_behind_276 h3335_)
    have e3598_ : g162 1100023 (g185 1046 0) = g162 1100023 (g171 1046 0) := congrArg ((g162 1100023)) (la_behind_276 h3335_)
    have e3599_ : g162 1100023 (g185 1046 0) = g162 1100023 (g177 1046 0) := congrArg ((g162 1100023)) (la_behind_276 h3335_)
    have e3600_ : g162 1100024 (g171 1046 0) = g162 1100024 (g162 1046 0) := congrArg ((g162 1100024)) (la_behind_276 h3335_)
    have e3601_ : g162 1100024 (g177 1046 0) = g162 1100024 (g162 1046 0) := congrArg ((g162 1100024)) (la_behind_276 h3335_)
    have e3602_ : g162 1100024 (g177 1046 0) = g162 1100024 (g171 1046 0) := congrArg ((g162 1100024)) (la_behind_276 h3335_)
    have e3603_ : g162 1100024 (g185 1046 0) = g162 1100024 (g162 1046 0) := congrArg ((g162 1100024)) (la_behind_276 h3335_)
    have e3604_ : g162 1100024 (g185 1046 0) = g162 1100024 (g171 1046 0) := congrArg ((g162 1100024)) (la_behind_276 h3335_)
    have e3605_ : g162 1100024 (g185 1046 0) = g162 1100024 (g177 1046 0) := congrArg ((g162 1100024)) (la_behind_276 h3335_)
    have e3606_ : g162 1100025 (g171 1046 0) = g162 1100025 (g162 1046 0) := congrArg ((g162 1100025)) (la_behind_276 h3335_)
    have e3607_ : g162 1100025 (g177 1046 0) = g162 1100025 (g162 1046 0) := congrArg ((g162 1100025)) (la_behind_276 h3335_)
    have e3608_ : g162 1100025 (g177 1046 0) = g162 1100025 (g171 1046 0) := congrArg ((g162 1100025)) (la_behind_276 h3335_)
    have e3609_ : g162 1100025 (g185 1046 0) = g162 1100025 (g162 1046 0) := congrArg ((g162 1100025)) (la_behind_276 h3335_)
    have e3610_ : g162 1100025 (g185 1046 0) = g162 1100025 (g171 1046 0) := congrArg ((g162 1100025)) (la_behind_276 h3335_)
    have e3611_ : g162 1100025 (g185 1046 0) = g162 1100025 (g177 1046 0) := congrArg ((g162 1100025)) (la_behind_276 h3335_)
    have e3612_ : g162 26 (g171 1046 0) = g162 26 (S 1046 0) := congrArg ((g162 26)) (la_behind_276 h3335_)
    have e3613_ : g162 29 (g171 1046 0) = g162 29 (S 1046 0) := congrArg ((g162 29)) (la_behind_276 h3335_)
    have e3614_ : g171 1100007 (g171 1100023 (g171 1046 0)) = g171 1100007 (g171 1046 0) := congrArg ((g171 1100007)) (la_behind_276 h3335_)
    have e3615_ : g171 1100007 (g171 1100023 (g171 1100023 (g171 1046 0))) = g171 1100007 (g171 1046 0) := congrArg ((g171 1100007)) (la_behind_276 h3335_)
    have e3616_ : g171 1100007 (g171 1100023 (g171 1100023 (g171 1046 0))) = g171 1100007 (g171 1100023 (g171 1046 0)) := congrArg ((g171 1100007)) (la_behind_276 h3335_)
    have e3617_ : g171 1100007 (g171 1100025 (g171 1046 0)) = g171 1100007 (g171 1046 0) := congrArg ((g171 1100007)) (la_behind_276 h3335_)
    have e3618_ : g171 1100007 (g171 1100025 (g171 1046 0)) = g171 1100007 (g171 1100023 (g171 1046 0)) := congrArg ((g171 1100007)) (la_behind_276 h3335_)
    have e3619_ : g171 1100007 (g171 1100025 (g171 1046 0)) = g171 1100007 (g171 1100023 (g171 1100023 (g171 1046 0))) := congrArg ((g171 1100007)) (la_behind_276 h3335_)
    have e3620_ : g171 1100007 (g177 1046 0) = g171 1100007 (g171 1046 0) := congrArg ((g171 1100007)) (la_behind_276 h3335_)
    have e3621_ : g171 1100007 (g177 1046 0) = g171 1100007 (g171 1100023 (g171 1046 0)) := congrArg ((g171 1100007)) (la_behind_276 h3335_)
    have e3622_ : g171 1100007 (g177 1046 0) = g171 1100007 (g171 1100023 (g171 1100023 (g171 1046 0))) := congrArg ((g171 1100007)) (la_behind_276 h3335_)
    have e3623_ : g171 1100007 (g177 1046 0) = g171 1100007 (g171 1100025 (g171 1046 0)) := congrArg ((g171 1100007)) (la_behind_276 h3335_)
    have e3624_ : g171 1100007 (g177 1100023 (g177 1046 0)) = g171 1100007 (g171 1046 0) := congrArg ((g171 1100007)) (la_behind_276 h3335_)
    have e3625_ : g171 1100007 (g177 1100023 (g177 1046 0)) = g171 1100007 (g171 1100023 (g171 1046 0)) := congrArg ((g171 1100007)) (la_behind_276 h3335_)
    have e3626_ : g171 1100007 (g177 1100023 (g177 1046 0)) = g171 1100007 (g171 1100023 (g171 1100023 (g171 1046 0))) := congrArg ((g171 1100007)) (la_behind_276 h3335_)
    have e3627_ : g171 1100007 (g177 1100023 (g177 1046 0)) = g171 1100007 (g171 1100025 (g171 1046 0)) := congrArg ((g171 1100007)) (la_behind_276 h3335_)
    have e3628_ : g171 1100007 (g177 1100023 (g177 1046 0)) = g171 1100007 (g177 1046 0) := congrArg ((g171 1100007)) (la_behind_276 h3335_)
    have e3629_ : g171 1100007 (g177 1100025 (g177 1046 0)) = g171 1100007 (g171 1046 0) := congrArg ((g171 1100007)) (la_behind_276 h3335_)
    have e3630_ : g171 1100007 (g177 1100025 (g177 1046 0)) = g171 1100007 (g171 1100023 (g171 1046 0)) := congrArg ((g171 1100007)) (la_behind_276 h3335_)
    have e3631_ : g171 1100007 (g177 1100025 (g177 1046 0)) = g171 1100007 (g171 1100023 (g171 1100023 (g171 1046 0))) := congrArg ((g171 1100007)) (la_behind_276 h3335_)
    have e3632_ : g171 1100007 (g177 1100025 (g177 1046 0)) = g171 1100007 (g171 1100025 (g171 1046 0)) := congrArg ((g171 1100007)) (la_behind_276 h3335_)
    have e3633_ : g171 1100007 (g177 1100025 (g177 1046 0)) = g171 1100007 (g177 1046 0) := congrArg ((g171 1100007)) (la_behind_276 h3335_)
    have e3634_ : g171 1100007 (g177 1100025 (g177 1046 0)) = g171 1100007 (g177 1100023 (g177 1046 0)) := congrArg ((g171 1100007)) (la_behind_276 h3335_)
    have e3635_ : g171 1100007 (g185 1046 0) = g171 1100007 (g171 1046 0) := congrArg ((g171 1100007)) (la_behind_276 h3335_)
    have e3636_ : g171 1100007 (g185 1046 0) = g171 1100007 (g171 1100023 (g171 1046 0)) := congrArg ((g171 1100007)) (la_behind_276 h3335_)
    have e3637_ : g171 1100007 (g185 1046 0) = g171 1100007 (g171 1100023 (g171 1100023 (g171 1046 0))) := congrArg ((g171 1100007)) (la_behind_276 h3335_)
    have e3638_ : g171 1100007 (g185 1046 0) = g171 1100007 (g171 1100025 (g171 1046 0)) := congrArg ((g171 1100007)) (la_behind_276 h3335_)
    have e3639_ : g171 1100007 (g185 1046 0) = g171 1100007 (g177 1046 0) := congrArg ((g171 1100007)) (la_behind_276 h3335_)
    have e3640_ : g171 1100007 (g185 1046 0) = g171 1100007 (g177 1100023 (g177 1046 0)) := congrArg ((g171 1100007)) (la_behind_276 h3335_)
    have e3641_ : g171 1100007 (g185 1046 0) = g171 1100007 (g177 1100025 (g177 1046 0)) := congrArg ((g171 1100007)) (la_behind_276 h3335_)
    have e3642_ : g171 1100007 (g185 1100023 (g185 1046 0)) = g171 1100007 (g171 1046 0) := congrArg ((g171 1100007)) (la_behind_276 h3335_)
    have e3643_ : g171 1100007 (g185 1100023 (g185 1046 0)) = g171 1100007 (g171 1100023 (g171 1046 0)) := congrArg ((g171 1100007)) (la_behind_276 h3335_)
    have e3644_ : g171 1100007 (g185 1100023 (g185 1046 0)) = g171 1100007 (g171 1100023 (g171 1100023 (g171 1046 0))) := congrArg ((g171 1100007)) (la_behind_276 h3335_)
    have e3645_ : g171 1100007 (g185 1100023 (g185 1046 0)) = g171 1100007 (g171 1100025 (g171 1046 0)) := congrArg ((g171 1100007)) (la_behind_276 h3335_)
    have e3646_ : g171 1100007 (g185 1100023 (g185 1046 0)) = g171 1100007 (g177 1046 0) := congrArg ((g171 1100007)) (la_behind_276 h3335_)
    have e3647_ : g171 1100007 (g185 1100023 (g185 1046 0)) = g171 1100007 (g177 1100023 (g177 1046 0)) := congrArg ((g171 1100007)) h3274_
    have e3648_ : g171 1100007 (g185 1100023 (g185 1046 0)) = g171 1100007 (g177 1100025 (g177 1046 0)) := congrArg ((g171 1100007)) (la_behind_276 h3335_)
    have e3649_ : g171 1100007 (g185 1100023 (g185 1046 0)) = g171 1100007 (g185 1046 0) := congrArg ((g171 1100007)) (la_behind_276 h3335_)
    have e3650_ : g171 1100007 (g185 1100025 (g185 1046 0)) = g171 1100007 (g171 1046 0) := congrArg ((g171 1100007)) (la_behind_276 h3335_)
    have e3651_ : g171 1100007 (g185 1100025 (g185 1046 0)) = g171 1100007 (g171 1100023 (g171 1046 0)) := congrArg ((g171 1100007)) (la_behind_276 h3335_)
    have e3652_ : g171 1100007 (g185 1100025 (g185 1046 0)) = g171 1100007 (g171 1100023 (g171 1100023 (g171 1046 0))) := congrArg ((g171 1100007)) (la_behind_276 h3335_)
    have e3653_ : g171 1100007 (g185 1100025 (g185 1046 0)) = g171 1100007 (g171 1100025 (g171 1046 0)) := congrArg ((g171 1100007)) (la_behind_276 h3335_)
    have e3654_ : g171 1100007 (g185 1100025 (g185 1046 0)) = g171 1100007 (g177 1046 0) := congrArg ((g171 1100007)) (la_behind_276 h3335_)
    have e3655_ : g171 1100007 (g185 1100025 (g185 1046 0)) = g171 1100007 (g177 1100023 (g177 1046 0)) := congrArg ((g171 1100007)) (la_behind_276 h3335_)
    have e3656_ : g171 1100007 (g185 1100025 (g185 1046 0)) = g171 1100007 (g177 1100025 (g177 1046 0)) := congrArg ((g171 1100007)) h3276_
    have e3657_ : g171 1100007 (g185 1100025 (g185 1046 0)) = g171 1100007 (g185 1046 0) := congrArg ((g171 1100007)) (la_behind_276 h3335_)
    have e3658_ : g171 1100007 (g185 1100025 (g185 1046 0)) = g171 1100007 (g185 1100023 (g185 1046 0)) := congrArg ((g171 1100007)) (la_behind_276 h3335_)
    have e3659_ : g171 1100023 (g171 1100023 (g171 1046 0)) = g171 1100023 (g171 1046 0) := congrArg ((g171 1100023)) (la_behind_276 h3335_)
    have e3660_ : g171 1100023 (g177 1046 0) = g171 1100023 (g171 1046 0) := congrArg ((g171 1100023)) (la_behind_276 h3335_)
    have e3661_ : g171 1100023 (g177 1046 0) = g171 1100023 (g171 1100023 (g171 1046 0)) := congrArg ((g171 1100023)) (la_behind_276 h3335_)
    have e3662_ : g171 1100023 (g185 1046 0) = g171 1100023 (g171 1046 0) := congrArg ((g171 1100023)) (la_behind_276 h3335_)
    have e3663_ : g171 1100023 (g185 1046 0) = g171 1100023 (g171 1100023 (g171 1046 0)) := congrArg ((g171 1100023)) (la_behind_276 h3335_)
    have e3664_ : g171 1100023 (g185 1046 0) = g171 1100023 (g177 1046 0) := congrArg ((g171 1100023)) (la_behind_276 h3335_)
    have e3665_ : g171 1100024 (g177 1046 0) = g171 1100024 (g171 1046 0) := congrArg ((g171 1100024)) (la_behind_276 h3335_)
    have e3666_ : g171 1100024 (g185 1046 0) = g171 1100024 (g171 1046 0) := congrArg ((g171 1100024)) (la_behind_276 h3335_)
    have e3667_ : g171 1100024 (g185 1046 0) = g171 1100024 (g177 1046 0) := congrArg ((g171 1100024)) (la_behind_276 h3335_)
    have e3668_ : g171 1100025 (g171 1100025 (g171 1046 0)) = g171 1100025 (g171 1046 0) := congrArg ((g171 1100025)) (la_behind_276 h3335_)
    have e3669_ : g171 1100025 (g177 1046 0) = g171 1100025 (g171 1046 0) := congrArg ((g171 1100025)) (la_behind_276 h3335_)
    have e3670_ : g171 1100025 (g177 1046 0) = g171 1100025 (g171 1100025 (g171 1046 0)) := congrArg ((g171 1100025)) (la_behind_276 h3335_)
    have e3671_ : g171 1100025 (g185 1046 0) = g171 1100025 (g171 1046 0) := congrArg ((g171 1100025)) (la_behind_276 h3335_)
    have e3672_ : g171 1100025 (g185 1046 0) = g171 1100025 (g171 1100025 (g171 1046 0)) := congrArg ((g171 1100025)) (la_behind_276 h3335_)
    have e3673_ : g171 1100025 (g185 1046 0) = g171 1100025 (g177 1046 0) := congrArg ((g171 1100025)) (la_behind_276 h3335_)
    have e3674_ : g177 1100007 (g177 1100023 (g177 1046 0)) = g177 1100007 (g177 1046 0) := congrArg ((g177 1100007)) (la_behind_276 h3335_)
    have e3675_ : g177 1100007 (g177 1100025 (g177 1046 0)) = g177 1100007 (g177 1046 0) := congrArg ((g177 1100007)) (la_behind_276 h3335_)
    have e3676_ : g177 1100007 (g177 1100025 (g177 1046 0)) = g177 1100007 (g177 1100023 (g177 1046 0)) := congrArg ((g177 1100007)) (la_behind_276 h3335_)
    have e3677_ : g177 1100007 (g185 1046 0) = g177 1100007 (g177 1046 0) := congrArg ((g177 1100007)) (la_behind_276 h3335_)
    have e3678_ : g177 1100007 (g185 1046 0) = g177 1100007 (g177 1100023 (g177 1046 0)) := congrArg ((g177 1100007)) (la_behind_276 h3335_)
    have e3679_ : g177 1100007 (g185 1046 0) = g177 1100007 (g177 1100025 (g177 1046 0)) := congrArg ((g177 1100007)) (la_behind_276 h3335_)
    have e3680_ : g177 1100007 (g185 1100023 (g185 1046 0)) = g177 1100007 (g177 1046 0) := congrArg ((g177 1100007)) (la_behind_276 h3335_)
    have e3681_ : g177 1100007 (g185 1100023 (g185 1046 0)) = g177 1100007 (g177 1100023 (g177 1046 0)) := congrArg ((g177 1100007)) h3274_
    have e3682_ : g177 1100007 (g185 1100023 (g185 1046 0)) = g177 1100007 (g177 1100025 (g177 1046 0)) := congrArg ((g177 1100007)) (la_behind_276 h3335_)
    have e3683_ : g177 1100007 (g185 1100023 (g185 1046 0)) = g177 1100007 (g185 1046 0) := congrArg ((g177 1100007)) (la_behind_276 h3335_)
    have e3684_ : g177 1100007 (g185 1100025 (g185 1046 0)) = g177 1100007 (g177 1046 0) := congrArg ((g177 1100007)) (la_behind_276 h3335_)
    have e3685_ : g177 1100007 (g185 1100025 (g185 1046 0)) = g177 1100007 (g177 1100023 (g177 1046 0)) := congrArg ((g177 1100007)) (la_behind_276 h3335_)
    have e3686_ : g177 1100007 (g185 1100025 (g185 1046 0)) = g177 1100007 (g177 1100025 (g177 1046 0)) := congrArg ((g177 1100007)) h3276_
    have e3687_ : g177 1100007 (g185 1100025 (g185 1046 0)) = g177 1100007 (g185 1046 0) := congrArg ((g177 1100007)) (la_behind_276 h3335_)
    have e3688_ : g177 1100007 (g185 1100025 (g185 1046 0)) = g177 1100007 (g185 1100023 (g185 1046 0)) := congrArg ((g177 1100007)) (la_behind_276 h3335_)
    have e3689_ : g177 1100023 (g185 1046 0) = g177 1100023 (g177 1046 0) := congrArg ((g177 1100023)) (la_behind_276 h3335_)
    have e3690_ : g177 1100024 (g185 1046 0) = g177 1100024 (g177 1046 0) := congrArg ((g177 1100024)) (la_behind_276 h3335_)
    have e3691_ : g177 1100025 (g185 1046 0) = g177 1100025 (g177 1046 0) := congrArg ((g177 1100025)) (la_behind_276 h3335_)
    have e3692_ : g185 1100007 (g185 1100023 (g185 1046 0)) = g185 1100007 (g185 1046 0) := congrArg ((g185 1100007)) (la_behind_276 h3335_)
    have e3693_ : g185 1100007 (g185 1100025 (g185 1046 0)) = g185 1100007 (g185 1046 0) := congrArg ((g185 1100007)) (la_behind_276 h3335_)
    have e3694_ : g185 1100007 (g185 1100025 (g185 1046 0)) = g185 1100007 (g185 1100023 (g185 1046 0)) := congrArg ((g185 1100007)) (la_behind_276 h3335_)
    have e3695_ : g185 1100023 (g185 1100023 (g185 1046 0)) = g185 1100023 (g185 1046 0) := congrArg ((g185 1100023)) (la_behind_276 h3335_)
    have e3696_ : g185 1100025 (g185 1100025 (g185 1046 0)) = g185 1100025 (g185 1046 0) := congrArg ((g185 1100025)) (la_behind_276 h3335_)
    have e3697_ : S 1100023 (g171 1100023 (g171 1046 0)) = S 1100023 (S 1046 0) := congrArg ((S 1100023)) (la_behind_276 h3335_)
    have e3698_ : S 1100023 (g171 1100023 (g171 1046 0)) = S 1100023 (S 1100023 (S 1046 0)) := congrArg ((S 1100023)) (la_behind_276 h3335_)
    have e3699_ : S 1100023 (g171 1100023 (g171 1046 0)) = S 1100023 (g162 1046 0) := congrArg ((S 1100023)) (la_behind_276 h3335_)
    have e3700_ : S 1100023 (g171 1100023 (g171 1046 0)) = S 1100023 (g171 1046 0) := congrArg ((S 1100023)) (la_behind_276 h3335_)
    have e3701_ : S 1100023 (g177 1046 0) = S 1100023 (g171 1100023 (g171 1046 0)) := congrArg ((S 1100023)) (la_behind_276 h3335_)
    have e3702_ : S 1100023 (g185 1046 0) = S 1100023 (S 1046 0) := congrArg ((S 1100023)) (la_behind_276 h3335_)
    have e3703_ : S 1100023 (g185 1046 0) = S 1100023 (S 1100023 (S 1046 0)) := congrArg ((S 1100023)) (la_behind_276 h3335_)
    have e3704_ : S 1100023 (g185 1046 0) = S 1100023 (g162 1046 0) := congrArg ((S 1100023)) (la_behind_276 h3335_)
    have e3705_ : S 1100023 (g185 1046 0) = S 1100023 (g171 1046 0) := congrArg ((S 1100023)) (la_behind_276 h3335_)
    have e3706_ : S 1100023 (g185 1046 0) = S 1100023 (g171 1100023 (g171 1046 0)) := congrArg ((S 1100023)) (la_behind_276 h3335_)
    have e3707_ : S 1100023 (g185 1046 0) = S 1100023 (g177 1046 0) := congrArg ((S 1100023)) (la_behind_276 h3335_)
    have e3708_ : S 1100024 (g185 1046 0) = S 1100024 (S 1046 0) := congrArg ((S 1100024)) (la_behind_276 h3335_)
    have e3709_ : S 1100024 (g185 1046 0) = S 1100024 (g162 1046 0) := congrArg ((S 1100024)) (la_behind_276 h3335_)
    have e3710_ : S 1100024 (g185 1046 0) = S 1100024 (g171 1046 0) := congrArg ((S 1100024)) (la_behind_276 h3335_)
    have e3711_ : S 1100024 (g185 1046 0) = S 1100024 (g177 1046 0) := congrArg ((S 1100024)) (la_behind_276 h3335_)
    have e3712_ : S 1100025 (g171 1100025 (g171 1046 0)) = S 1100025 (S 1046 0) := congrArg ((S 1100025)) (la_behind_276 h3335_)
    have e3713_ : S 1100025 (g171 1100025 (g171 1046 0)) = S 1100025 (S 1100025 (S 1046 0)) := congrArg ((S 1100025)) (la_behind_276 h3335_)
    have e3714_ : S 1100025 (g171 1100025 (g171 1046 0)) = S 1100025 (g162 1046 0) := congrArg ((S 1100025)) (la_behind_276 h3335_)
    have e3715_ : S 1100025 (g171 1100025 (g171 1046 0)) = S 1100025 (g171 1046 0) := congrArg ((S 1100025)) (la_behind_276 h3335_)
    have e3716_ : S 1100025 (g177 1046 0) = S 1100025 (g171 1100025 (g171 1046 0)) := congrArg ((S 1100025)) (la_behind_276 h3335_)
    have e3717_ : S 1100025 (g185 1046 0) = S 1100025 (S 1046 0) := congrArg ((S 1100025)) (la_behind_276 h3335_)
    have e3718_ : S 1100025 (g185 1046 0) = S 1100025 (S 1100025 (S 1046 0)) := congrArg ((S 1100025)) (la_behind_276 h3335_)
    have e3719_ : S 1100025 (g185 1046 0) = S 1100025 (g162 1046 0) := congrArg ((S 1100025)) (la_behind_276 h3335_)
    have e3720_ : S 1100025 (g185 1046 0) = S 1100025 (g171 1046 0) := congrArg ((S 1100025)) (la_behind_276 h3335_)
    have e3721_ : S 1100025 (g185 1046 0) = S 1100025 (g171 1100025 (g171 1046 0)) := congrArg ((S 1100025)) (la_behind_276 h3335_)
    have e3722_ : S 1100025 (g185 1046 0) = S 1100025 (g177 1046 0) := congrArg ((S 1100025)) (la_behind_276 h3335_)
    have e3723_ : g162 1100007 (g171 1100023 (g171 1100023 (g171 1046 0))) = g162 1100007 (g162 1046 0) := congrArg ((g162 1100007)) (la_behind_276 h3335_)
    have e3724_ : g162 1100007 (g171 1100023 (g171 1100023 (g171 1046 0))) = g162 1100007 (g162 1100023 (g162 1046 0)) := congrArg ((g162 1100007)) (la_behind_276 h3335_)
    have e3725_ : g162 1100007 (g171 1100023 (g171 1100023 (g171 1046 0))) = g162 1100007 (g162 1100025 (g162 1046 0)) := congrArg ((g162 1100007)) (la_behind_276 h3335_)
    have e3726_ : g162 1100007 (g171 1100023 (g171 1100023 (g171 1046 0))) = g162 1100007 (g171 1046 0) := congrArg ((g162 1100007)) (la_behind_276 h3335_)
    have e3727_ : g162 1100007 (g171 1100023 (g171 1100023 (g171 1046 0))) = g162 1100007 (g171 1100023 (g171 1046 0)) := congrArg ((g162 1100007)) e3659_
    have e3728_ : g162 1100007 (g171 1100025 (g171 1046 0)) = g162 1100007 (g171 1100023 (g171 1100023 (g171 1046 0))) := congrArg ((g162 1100007)) (la_behind_276 h3335_)
    have e3729_ : g162 1100007 (g177 1046 0) = g162 1100007 (g171 1100023 (g171 1100023 (g171 1046 0))) := congrArg ((g162 1100007)) (la_behind_276 h3335_)
    have e3730_ : g162 1100007 (g177 1100023 (g177 1046 0)) = g162 1100007 (g171 1100023 (g171 1100023 (g171 1046 0))) := congrArg ((g162 1100007)) (la_behind_276 h3335_)
    have e3731_ : g162 1100007 (g177 1100025 (g177 1046 0)) = g162 1100007 (g171 1100023 (g171 1100023 (g171 1046 0))) := congrArg ((g162 1100007)) (la_behind_276 h3335_)
    have e3732_ : g162 1100007 (g185 1046 0) = g162 1100007 (g171 1100023 (g171 1100023 (g171 1046 0))) := congrArg ((g162 1100007)) (la_behind_276 h3335_)
    have e3733_ : g162 1100007 (g185 1100023 (g185 1046 0)) = g162 1100007 (g171 1100023 (g171 1100023 (g171 1046 0))) := congrArg ((g162 1100007)) (la_behind_276 h3335_)
    have e3734_ : g162 1100007 (g185 1100025 (g185 1046 0)) = g162 1100007 (g171 1100023 (g171 1100023 (g171 1046 0))) := congrArg ((g162 1100007)) (la_behind_276 h3335_)
    have e3735_ : g162 1100023 (g171 1100023 (g171 1046 0)) = g162 1100023 (g162 1046 0) := congrArg ((g162 1100023)) (la_behind_276 h3335_)
    have e3736_ : g162 1100023 (g171 1100023 (g171 1046 0)) = g162 1100023 (g171 1046 0) := congrArg ((g162 1100023)) (la_behind_276 h3335_)
    have e3737_ : g162 1100023 (g177 1046 0) = g162 1100023 (g171 1100023 (g171 1046 0)) := congrArg ((g162 1100023)) (la_behind_276 h3335_)
    have e3738_ : g162 1100023 (g185 1046 0) = g162 1100023 (g171 1100023 (g171 1046 0)) := congrArg ((g162 1100023)) (la_behind_276 h3335_)
    have e3739_ : g162 1100023 (g185 1100023 (g185 1046 0)) = g162 1100023 (g162 1046 0) := congrArg ((g162 1100023)) (la_behind_276 h3335_)
    have e3740_ : g162 1100023 (g185 1100023 (g185 1046 0)) = g162 1100023 (g171 1046 0) := congrArg ((g162 1100023)) (la_behind_276 h3335_)
    have e3741_ : g162 1100023 (g185 1100023 (g185 1046 0)) = g162 1100023 (g171 1100023 (g171 1046 0)) := congrArg ((g162 1100023)) (la_behind_276 h3335_)
    have e3742_ : g162 1100023 (g185 1100023 (g185 1046 0)) = g162 1100023 (g177 1046 0) := congrArg ((g162 1100023)) (la_behind_276 h3335_)
    have e3743_ : g162 1100023 (g185 1100023 (g185 1046 0)) = g162 1100023 (g185 1046 0) := congrArg ((g162 1100023)) (la_behind_276 h3335_)
    have e3744_ : g162 1100025 (g171 1100025 (g171 1046 0)) = g162 1100025 (g162 1046 0) := congrArg ((g162 1100025)) (la_behind_276 h3335_)
    have e3745_ : g162 1100025 (g171 1100025 (g171 1046 0)) = g162 1100025 (g171 1046 0) := congrArg ((g162 1100025)) (la_behind_276 h3335_)
    have e3746_ : g162 1100025 (g177 1046 0) = g162 1100025 (g171 1100025 (g171 1046 0)) := congrArg ((g162 1100025)) (la_behind_276 h3335_)
    have e3747_ : g162 1100025 (g185 1046 0) = g162 1100025 (g171 1100025 (g171 1046 0)) := congrArg ((g162 1100025)) (la_behind_276 h3335_)
    have e3748_ : g162 1100025 (g185 1100025 (g185 1046 0)) = g162 1100025 (g162 1046 0) := congrArg ((g162 1100025)) (la_behind_276 h3335_)
    have e3749_ : g162 1100025 (g185 1100025 (g185 1046 0)) = g162 1100025 (g171 1046 0) := congrArg ((g162 1100025)) (la_behind_276 h3335_)
    have e3750_ : g162 1100025 (g185 1100025 (g185 1046 0)) = g162 1100025 (g171 1100025 (g171 1046 0)) := congrArg ((g162 1100025)) (la_behind_276 h3335_)
    have e3751_ : g162 1100025 (g185 1100025 (g185 1046 0)) = g162 1100025 (g177 1046 0) := congrArg ((g162 1100025)) (la_behind_276 h3335_)
    have e3752_ : g162 1100025 (g185 1100025 (g185 1046 0)) = g162 1100025 (g185 1046 0) := congrArg ((g162 1100025)) (la_behind_276 h3335_)
    have e3753_ : g171 1100023 (g185 1100023 (g185 1046 0)) = g171 1100023 (g171 1046 0) := congrArg ((g171 1100023)) (la_behind_276 h3335_)
    have e3754_ : g171 1100023 (g185 1100023 (g185 1046 0)) = g171 1100023 (g171 1100023 (g171 1046 0)) := congrArg ((g171 1100023)) (la_behind_276 h3335_)
    have e3755_ : g171 1100023 (g185 1100023 (g185 1046 0)) = g171 1100023 (g177 1046 0) := congrArg ((g171 1100023)) (la_behind_276 h3335_)
    have e3756_ : g171 1100023 (g185 1100023 (g185 1046 0)) = g171 1100023 (g185 1046 0) := congrArg ((g171 1100023)) (la_behind_276 h3335_)
    have e3757_ : g171 1100025 (g185 1100025 (g185 1046 0)) = g171 1100025 (g171 1046 0) := congrArg ((g171 1100025)) (la_behind_276 h3335_)
    have e3758_ : g171 1100025 (g185 1100025 (g185 1046 0)) = g171 1100025 (g171 1100025 (g171 1046 0)) := congrArg ((g171 1100025)) (la_behind_276 h3335_)
    have e3759_ : g171 1100025 (g185 1100025 (g185 1046 0)) = g171 1100025 (g177 1046 0) := congrArg ((g171 1100025)) (la_behind_276 h3335_)
    have e3760_ : g171 1100025 (g185 1100025 (g185 1046 0)) = g171 1100025 (g185 1046 0) := congrArg ((g171 1100025)) (la_behind_276 h3335_)
    have e3761_ : g177 1100023 (g185 1100023 (g185 1046 0)) = g177 1100023 (g177 1046 0) := congrArg ((g177 1100023)) (la_behind_276 h3335_)
    have e3762_ : g177 1100023 (g185 1100023 (g185 1046 0)) = g177 1100023 (g185 1046 0) := congrArg ((g177 1100023)) (la_behind_276 h3335_)
    have e3763_ : g177 1100025 (g185 1100025 (g185 1046 0)) = g177 1100025 (g177 1046 0) := congrArg ((g177 1100025)) (la_behind_276 h3335_)
    have e3764_ : g177 1100025 (g185 1100025 (g185 1046 0)) = g177 1100025 (g185 1046 0) := congrArg ((g177 1100025)) (la_behind_276 h3335_)
    have e3765_ : S 1100023 (g185 1100023 (g185 1046 0)) = S 1100023 (S 1046 0) := congrArg ((S 1100023)) (la_behind_276 h3335_)
    have e3766_ : S 1100023 (g185 1100023 (g185 1046 0)) = S 1100023 (S 1100023 (S 1046 0)) := congrArg ((S 1100023)) (la_behind_276 h3335_)
    have e3767_ : S 1100023 (g185 1100023 (g185 1046 0)) = S 1100023 (g162 1046 0) := congrArg ((S 1100023)) (la_behind_276 h3335_)
    have e3768_ : S 1100023 (g185 1100023 (g185 1046 0)) = S 1100023 (g171 1046 0) := congrArg ((S 1100023)) (la_behind_276 h3335_)
    have e3769_ : S 1100023 (g185 1100023 (g185 1046 0)) = S 1100023 (g171 1100023 (g171 1046 0)) := congrArg ((S 1100023)) (la_behind_276 h3335_)
    have e3770_ : S 1100023 (g185 1100023 (g185 1046 0)) = S 1100023 (g177 1046 0) := congrArg ((S 1100023)) (la_behind_276 h3335_)
    have e3771_ : S 1100023 (g185 1100023 (g185 1046 0)) = S 1100023 (g185 1046 0) := congrArg ((S 1100023)) (la_behind_276 h3335_)
    have e3772_ : S 1100025 (g185 1100025 (g185 1046 0)) = S 1100025 (S 1046 0) := congrArg ((S 1100025)) (la_behind_276 h3335_)
    have e3773_ : S 1100025 (g185 1100025 (g185 1046 0)) = S 1100025 (S 1100025 (S 1046 0)) := congrArg ((S 1100025)) (la_behind_276 h3335_)
    have e3774_ : S 1100025 (g185 1100025 (g185 1046 0)) = S 1100025 (g162 1046 0) := congrArg ((S 1100025)) (la_behind_276 h3335_)
    have e3775_ : S 1100025 (g185 1100025 (g185 1046 0)) = S 1100025 (g171 1046 0) := congrArg ((S 1100025)) (la_behind_276 h3335_)
    have e3776_ : S 1100025 (g185 1100025 (g185 1046 0)) = S 1100025 (g171 1100025 (g171 1046 0)) := congrArg ((S 1100025)) (la_behind_276 h3335_)
    have e3777_ : S 1100025 (g185 1100025 (g185 1046 0)) = S 1100025 (g177 1046 0) := congrArg ((S 1100025)) (la_behind_276 h3335_)
    have e3778_ : S 1100025 (g185 1100025 (g185 1046 0)) = S 1100025 (g185 1046 0) := congrArg ((S 1100025)) (la_behind_276 h3335_)
    exact ((la_behind_285 h3335_)).elim
  intro g193
  rintro ⟨h3779_, ⟨h3780_, ⟨h3781_, ⟨h3782_, ⟨h3783_, ⟨h3784_, ⟨h3785_, ⟨h3786_, ⟨h3787_, ⟨h3788_, ⟨h3789_, ⟨h3790_, ⟨h3791_, ⟨h3792_, ⟨h3793_, ⟨h3794_, h3795_⟩⟩⟩⟩⟩⟩⟩⟩⟩⟩⟩⟩⟩⟩⟩⟩
  refine ⟨(la_behind_44 h3781_), ?_⟩
  refine ⟨h3784_, ?_⟩
  refine ⟨h3779_, ?_⟩
  refine ⟨h3780_, ?_⟩
  refine ⟨h3239_, ?_⟩
  refine ⟨h3240_, ?_⟩
  refine ⟨(la_behind_389 h1969_ h2098_ h2337_ h3241_ h3782_), ?_⟩
  refine ⟨(la_behind_154 h25_ h3780_), ?_⟩
  refine ⟨(sm_F1_tr (sm_F1_tr (sm_F1_tr (sm_F1_tr (sm_F1_le h1974_ (Int.le_refl _)) h2100_ h1969_) h2342_ (la_behind_75 h1969_ h2098_)) h3243_ (la_behind_391 h1969_ h2098_ h2337_)) h3787_ (la_behind_390 h1969_ h2098_ h2337_ h3241_)), ?_⟩
  refine ⟨(sm_F1_tr (sm_F1_tr (sm_F1_tr (sm_F1_tr (sm_F1_le h1975_ (Int.le_refl _)) h2101_ h1969_) h2343_ (la_behind_75 h1969_ h2098_)) h3244_ (la_behind_391 h1969_ h2098_ h2337_)) h3788_ (la_behind_390 h1969_ h2098_ h2337_ h3241_)), ?_⟩
  refine ⟨(sm_F1_tr (sm_F1_tr (sm_F1_tr (sm_F1_tr (sm_F1_le h1976_ (Int.le_refl _)) h2102_ h1969_) h2344_ (la_behind_75 h1969_ h2098_)) h3245_ (la_behind_391 h1969_ h2098_ h2337_)) h3789_ (la_behind_390 h1969_ h2098_ h2337_ h3241_)), ?_⟩
  refine ⟨(sm_F1_tr (sm_F1_tr (sm_F1_tr (sm_F1_tr (sm_F1_le h1977_ (Int.le_refl _)) h2103_ h1969_) h2345_ (la_behind_75 h1969_ h2098_)) h3246_ (la_behind_391 h1969_ h2098_ h2337_)) h3790_ (la_behind_390 h1969_ h2098_ h2337_ h3241_)), ?_⟩
  refine ⟨(sm_F1_tr (sm_F1_tr (sm_F1_tr (sm_F1_tr (sm_F1_le h1978_ (Int.le_refl _)) h2104_ (la_behind_77 h1969_)) h2346_ (la_behind_394 h1969_ h2098_)) h3247_ (la_behind_393 h1969_ h2098_ h2337_)) h3791_ (la_behind_392 h1969_ h2098_ h2337_ h3241_)), ?_⟩
  refine ⟨(sm_F1_tr (sm_F1_tr (sm_F1_tr (sm_F1_tr (sm_F1_le h1979_ (Int.le_refl _)) h2105_ (la_behind_77 h1969_)) h2347_ (la_behind_394 h1969_ h2098_)) h3248_ (la_behind_393 h1969_ h2098_ h2337_)) h3792_ (la_behind_392 h1969_ h2098_ h2337_ h3241_)), ?_⟩
  refine ⟨(sm_F1_tr (sm_F1_tr (sm_F1_tr (sm_F1_tr (sm_F1_le h1980_ (Int.le_refl _)) h2106_ (la_behind_77 h1969_)) h2348_ (la_behind_394 h1969_ h2098_)) h3249_ (la_behind_393 h1969_ h2098_ h2337_)) h3793_ (la_behind_392 h1969_ h2098_ h2337_ h3241_)), ?_⟩
  refine ⟨(sm_F1_tr (sm_F1_tr (sm_F1_tr (sm_F1_tr (sm_F1_le h1981_ (Int.le_refl _)) h2107_ (la_behind_77 h1969_)) h2349_ (la_behind_394 h1969_ h2098_)) h3250_ (la_behind_393 h1969_ h2098_ h2337_)) h3794_ (la_behind_392 h1969_ h2098_ h2337_ h3241_)), ?_⟩
  refine ⟨(sm_F1_tr (sm_F1_le h2108_ (Int.le_refl _)) h3251_ h2114_), ?_⟩
  refine ⟨(sm_F1_tr (sm_F1_le h2109_ (Int.le_refl _)) h3252_ h2114_), ?_⟩
  refine ⟨(sm_F1_tr (sm_F1_le h2110_ (Int.le_refl _)) h3253_ h2114_), ?_⟩
  refine ⟨(sm_F1_tr (sm_F1_le h2111_ (Int.le_refl _)) h3254_ h2114_), ?_⟩
  refine ⟨(sm_F1_tr (sm_F1_le h2112_ (Int.le_refl _)) h3255_ h2114_), ?_⟩
  refine ⟨(sm_F1_tr (sm_F1_le h2113_ (Int.le_refl _)) h3256_ h2114_), ?_⟩
  refine ⟨(la_behind_75 h2114_ h3257_), ?_⟩
  refine ⟨(la_behind_198 h2115_ h3258_), ?_⟩
  refine ⟨(sm_F1_tr (sm_F1_le h2116_ (Int.le_refl _)) h3259_ (la_behind_79 h2115_)), ?_⟩
  refine ⟨(la_behind_155 h25_), ?_⟩
  refine ⟨?_, ?_⟩
  · skip
    intro h3796_
    have e3797_ : S 12 (5 * p1 + 0) = S 12 (5 * p1) := congrArg ((S 12)) la_behind_26
    have e3798_ : S 11 x8 = S 11 (S 12 (5 * p1)) := congrArg ((S 11)) (la_behind_344 h53_ e3797_)
    by_cases c4149_ : g171 1047 0 = 1
    · skip
      have h4150_ := (h2340_ c4149_)
      have h4151_ := (h2341_ h4150_)
      have h4152_ := (h3242_ h4150_)
      have h4153_ := (h3260_ h4150_)
      have h4154_ := (h3785_ h4152_)
      have h4155_ := (h3786_ h4154_)
      exact (la_behind_398 h15_ (sm_ex_e h1405_).2.2.2.1 (sm_ex_e h1863_).2.2.2.1 h1872_ h1966_ h1967_ h1969_ h2117_ h2118_ h4153_)
    · skip
      have h4156_ : ¬ (g162 1047 0 = 1) := fun q_ => c4149_ (h2099_ q_)
      obtain ⟨h4157_, ⟨h4158_, ⟨h4159_, ⟨h4160_, ⟨h4161_, ⟨h4162_, ⟨h4163_, ⟨h4164_, ⟨h4165_, ⟨h4166_, ⟨h4167_, ⟨h4168_, ⟨h4169_, ⟨h4170_, ⟨h4171_, ⟨h4172_, -⟩⟩⟩⟩⟩⟩⟩⟩⟩⟩⟩⟩⟩⟩⟩⟩ := (h2119_ (la_behind_61 h2094_ (la_behind_60 h2095_ c4149_)))
      have h4173_ := (h2118_ h4157_)
      obtain ⟨h4174_, ⟨h4175_, ⟨h4176_, ⟨h4177_, ⟨h4178_, ⟨h4179_, ⟨h4180_, ⟨h4181_, ⟨h4182_, ⟨h4183_, ⟨h4184_, ⟨h4185_, ⟨h4186_, h4187_⟩⟩⟩⟩⟩⟩⟩⟩⟩⟩⟩⟩⟩ := (h1982_ h4157_)
      have h4188_ := (h4187_ la_behind_337)
      have h4189_ := (h4188_ la_behind_339)
      have e4190_ : S 1100007 (g162 1100023 (g162 1046 0)) = S 1100007 (S 1100023 (S 1046 0)) := congrArg ((S 1100007)) (la_behind_70 h4181_ (sm_nt_18 : sm_nt 18 (S 1046 0) (S 1100023 (S 1046 0)) (S 1100023 (S 1100023 (S 1046 0))) = S 1100023 (S 1046 0)))
      have e4191_ : S 1100007 (g162 1100025 (g162 1046 0)) = S 1100007 (S 1100025 (S 1046 0)) := congrArg ((S 1100007)) (la_behind_70 h4183_ (sm_nl_18 : sm_nl 18 (S 1046 0) (S 1100007 (S 1046 0)) (S 1100025 (S 1046 0)) (S 1100007 (S 1100025 (S 1046 0))) (S 1100025 (S 1100025 (S 1046 0))) = S 1100025 (S 1046 0)))
      have e4192_ : S 1100007 (g171 1100023 (g171 1046 0)) = S 1100007 (S 1100023 (S 1046 0)) := congrArg ((S 1100007)) (la_behind_71 h4165_ h4181_ (sm_nt_18 : sm_nt 18 (S 1046 0) (S 1100023 (S 1046 0)) (S 1100023 (S 1100023 (S 1046 0))) = S 1100023 (S 1046 0)))
      have e4193_ : S 1100007 (g171 1100023 (g171 1046 0)) = S 1100007 (g162 1100023 (g162 1046 0)) := congrArg ((S 1100007)) h4165_
      have e4194_ : S 1100007 (g171 1100025 (g171 1046 0)) = S 1100007 (S 1100025 (S 1046 0)) := congrArg ((S 1100007)) (la_behind_71 h4167_ h4183_ (sm_nl_18 : sm_nl 18 (S 1046 0) (S 1100007 (S 1046 0)) (S 1100025 (S 1046 0)) (S 1100007 (S 1100025 (S 1046 0))) (S 1100025 (S 1100025 (S 1046 0))) = S 1100025 (S 1046 0)))
      have e4195_ : S 1100007 (g171 1100025 (g171 1046 0)) = S 1100007 (g162 1100025 (g162 1046 0)) := congrArg ((S 1100007)) h4167_
      have e4196_ : g162 1100007 (g171 1100023 (g171 1046 0)) = g162 1100007 (g162 1100023 (g162 1046 0)) := congrArg ((g162 1100007)) h4165_
      have e4197_ : g162 1100007 (g171 1100025 (g171 1046 0)) = g162 1100007 (g162 1100025 (g162 1046 0)) := congrArg ((g162 1100007)) h4167_
      by_cases c4266_ : x11 = (-1)
      · skip
        have e4267_ : (if x11 = (-1) then 0 else 17 * S 1100005 x11 + 17 : Int) = 0 := if_pos c4266_
        have e4268_ : (if x11 = (-1) then 0 else 8 * S 1100005 x11 + 17 : Int) = 0 := if_pos c4266_
        have h4269_ := (h3263_ (la_behind_286 h1395_ c4266_))
        have h4270_ := (h4269_ h52_)
        exact (la_behind_403 (sm_ex_e h1405_).2.2.2.1 (sm_ex_e h1863_).2.2.2.1 h1872_ h2334_ h2335_ h2337_ h3260_ h3261_ h4172_ h4173_ h4175_ e4267_)
      · skip
        have e4271_ : (if x11 = (-1) then 0 else 17 * S 1100005 x11 + 17 : Int) = 17 * S 1100005 x11 + 17 := if_neg c4266_
        have e4272_ : (if x11 = (-1) then 0 else 8 * S 1100005 x11 + 17 : Int) = 8 * S 1100005 x11 + 17 := if_neg c4266_
        have h4273_ := (h1397_ (la_behind_245 (la_behind_244 h1395_ c4266_)))
        have h4274_ := (h1410_ (la_behind_245 (la_behind_244 h1395_ c4266_)))
        have h4275_ := (h3263_ (la_behind_288 (la_behind_244 h1395_ c4266_) (sm_ex_e (sm_li_r h1407_ c4266_)).2.2.2.2))
        have h4276_ := (h4273_ (sm_ex_e (sm_li_r h1407_ c4266_)).2.1)
        obtain ⟨h4277_, ⟨h4278_, ⟨h4279_, h4280_⟩⟩⟩ := (h4274_ (sm_ex_e (sm_li_r h1407_ c4266_)).2.1)
        have h4281_ := (h4275_ h52_)
        obtain ⟨h4282_, h4283_⟩ := (h4276_ (sm_ex_e (sm_li_r h1407_ c4266_)).2.2.1)
        have h4284_ := (h4280_ (sm_ex_e (sm_li_r h1407_ c4266_)).2.2.1)
        exact (la_behind_404 h1386_ (sm_ex_e h1405_).2.2.2.1 (sm_ex_e h1863_).2.2.2.1 h2334_ h2335_ h2337_ h3260_ h3261_ h4172_ h4173_ h4175_ e4271_ (sm_ex_e (sm_li_r h1407_ c4266_)).2.2.2.2)
  intro h4285_
  have h4286_ : ¬ (g185 1047 0 = 1) := fun q_ => (la_behind_43 h4285_) (h3785_ q_)
  obtain ⟨h4287_, ⟨h4288_, ⟨h4289_, ⟨h4290_, ⟨h4291_, ⟨h4292_, ⟨h4293_, ⟨h4294_, ⟨h4295_, ⟨h4296_, ⟨h4297_, ⟨h4298_, ⟨h4299_, h4300_⟩⟩⟩⟩⟩⟩⟩⟩⟩⟩⟩⟩⟩ := (h3795_ h4285_)
  have h4301_ : ¬ (g177 1047 0 = 1) := fun q_ => h4286_ (h3242_ q_)
  have h4302_ := (h4300_ la_behind_290)
  obtain ⟨h4303_, ⟨h4304_, ⟨h4305_, ⟨h4306_, ⟨h4307_, ⟨h4308_, ⟨h4309_, ⟨h4310_, ⟨h4311_, ⟨h4312_, ⟨h4313_, ⟨h4314_, ⟨h4315_, ⟨h4316_, ⟨h4317_, ⟨h4318_, -⟩⟩⟩⟩⟩⟩⟩⟩⟩⟩⟩⟩⟩⟩⟩⟩ := (h3262_ h4287_)
  have h4319_ : ¬ (g171 1047 0 = 1) := fun q_ => h4301_ (h2340_ q_)
  have h4320_ := (h3261_ h4303_)
  have h4321_ := (h4302_ la_behind_292)
  obtain ⟨h4322_, ⟨h4323_, ⟨h4324_, ⟨h4325_, ⟨h4326_, ⟨h4327_, ⟨h4328_, ⟨h4329_, ⟨h4330_, ⟨h4331_, ⟨h4332_, ⟨h4333_, ⟨h4334_, h4335_⟩⟩⟩⟩⟩⟩⟩⟩⟩⟩⟩⟩⟩ := (h2350_ h4303_)
  have h4336_ : ¬ (g162 1047 0 = 1) := fun q_ => h4319_ (h2099_ q_)
  have h4337_ := (h4335_ la_behind_191)
  obtain ⟨h4338_, ⟨h4339_, ⟨h4340_, ⟨h4341_, ⟨h4342_, ⟨h4343_, ⟨h4344_, ⟨h4345_, ⟨h4346_, ⟨h4347_, ⟨h4348_, ⟨h4349_, ⟨h4350_, ⟨h4351_, ⟨h4352_, ⟨h4353_, -⟩⟩⟩⟩⟩⟩⟩⟩⟩⟩⟩⟩⟩⟩⟩⟩ := (h2119_ h4322_)
  have h4354_ := (h2118_ h4338_)
  have h4355_ := (h4337_ la_behind_193)
  obtain ⟨h4356_, ⟨h4357_, ⟨h4358_, ⟨h4359_, ⟨h4360_, ⟨h4361_, ⟨h4362_, ⟨h4363_, ⟨h4364_, ⟨h4365_, ⟨h4366_, ⟨h4367_, ⟨h4368_, h4369_⟩⟩⟩⟩⟩⟩⟩⟩⟩⟩⟩⟩⟩ := (h1982_ h4338_)
  have h4370_ := (h4369_ la_behind_337)
  have h4371_ := (h4370_ la_behind_339)
  refine ⟨h25_, ?_⟩
  refine ⟨h4289_, ?_⟩
  refine ⟨h4305_, ?_⟩
  refine ⟨h4306_, ?_⟩
  refine ⟨(la_behind_194 h4288_ h4307_), ?_⟩
  refine ⟨(la_behind_405 h3241_ h4288_ h4323_ h4343_ h4357_), ?_⟩
  refine ⟨(sm_FC_1 (((sm_F1_at h3790_ (S 1046 0) (la_behind_406 h3241_ h4323_ h4343_ h4357_)).trans ((sm_F1_at h3246_ (S 1046 0) (la_behind_407 h4323_ h4343_ h4357_)).trans ((sm_F1_at h2345_ (S 1046 0) (la_behind_408 h4343_ h4357_)).trans ((sm_F1_at h2103_ (S 1046 0) (la_behind_30 h4357_)).trans rfl)))).trans h4361_) (sm_FC_s (sm_FC_F h4344_ (sm_F1_tr (sm_F1_tr (sm_F1_le h2345_ (Int.le_refl _)) h3246_ h2337_) h3790_ (la_behind_412 h3241_ h4323_)) (Int.le_refl _) h1970_ (Int.le_refl _) rfl) (sm_FC_1 (((sm_F1_at h3790_ (g171 1046 0) (la_behind_413 h3241_ h4323_)).trans ((sm_F1_at h3246_ (g171 1046 0) (la_behind_30 h4323_)).trans rfl)).trans h4327_) (sm_FC_s (sm_FC_F h4309_ (sm_F1_le h3790_ (Int.le_refl _)) (Int.le_refl _) h2338_ (Int.le_refl _) rfl) (sm_FC_1 h4292_ (sm_FC_0 h3783_)))))), ?_⟩
  refine ⟨(la_behind_415 h40_ h1852_ h4293_ (sm_dl_15 : sm_dl 15 r189 = -r189 - 1) h4310_ h4328_ (sm_dl_10 : sm_dl 10 0 = (-1)) h4345_ h4362_ (sm_dl_18 : sm_dl 18 0 = 1)), ?_⟩
  refine ⟨(la_behind_416 h4294_ (sm_nt_15 : sm_nt 15 (g185 1046 0) (g185 1100023 (g185 1046 0)) (g185 1100023 (g185 1100023 (g185 1046 0))) = g185 1100023 (g185 1046 0)) h4311_ h4329_ (sm_nt_10 : sm_nt 10 (g171 1046 0) (g171 1100023 (g171 1046 0)) (g171 1100023 (g171 1100023 (g171 1046 0))) = g171 1100023 (g171 1046 0)) h4346_ h4363_ (sm_nt_18 : sm_nt 18 (S 1046 0) (S 1100023 (S 1046 0)) (S 1100023 (S 1100023 (S 1046 0))) = S 1100023 (S 1046 0))), ?_⟩
  refine ⟨(la_behind_416 h4295_ (sm_nd_15 : sm_nd 15 (g185 1100024 (g185 1046 0)) = g185 1100024 (g185 1046 0)) h4312_ h4330_ (sm_nd_10 : sm_nd 10 (g171 1100024 (g171 1046 0)) = g171 1100024 (g171 1046 0)) h4347_ h4364_ (sm_nd_18 : sm_nd 18 (S 1100024 (S 1046 0)) = S 1100024 (S 1046 0))), ?_⟩
  refine ⟨(la_behind_416 h4296_ (sm_nl_15 : sm_nl 15 (g185 1046 0) (g185 1100007 (g185 1046 0)) (g185 1100025 (g185 1046 0)) (g185 1100007 (g185 1100025 (g185 1046 0))) (g185 1100025 (g185 1100025 (g185 1046 0))) = g185 1100025 (g185 1046 0)) h4313_ h4331_ (sm_nl_10 : sm_nl 10 (g171 1046 0) (g171 1100007 (g171 1046 0)) (g171 1100025 (g171 1046 0)) (g171 1100007 (g171 1100025 (g171 1046 0))) (g171 1100025 (g171 1100025 (g171 1046 0))) = g171 1100025 (g171 1046 0)) h4348_ h4365_ (sm_nl_18 : sm_nl 18 (S 1046 0) (S 1100007 (S 1046 0)) (S 1100025 (S 1046 0)) (S 1100007 (S 1100025 (S 1046 0))) (S 1100025 (S 1100025 (S 1046 0))) = S 1100025 (S 1046 0))), ?_⟩
  refine ⟨(la_behind_416 h4297_ (sm_nt_15 : sm_nt 15 (g185 1100007 (g185 1046 0)) (g185 1100007 (g185 1100023 (g185 1046 0))) (g185 1100007 (g185 1100023 (g185 1100023 (g185 1046 0)))) = g185 1100007 (g185 1100023 (g185 1046 0))) h4314_ h4332_ (sm_nt_10 : sm_nt 10 (g171 1100007 (g171 1046 0)) (g171 1100007 (g171 1100023 (g171 1046 0))) (g171 1100007 (g171 1100023 (g171 1100023 (g171 1046 0)))) = g171 1100007 (g171 1100023 (g171 1046 0))) h4349_ h4366_ (sm_nt_18 : sm_nt 18 (S 1100007 (S 1046 0)) (S 1100007 (S 1100023 (S 1046 0))) (S 1100007 (S 1100023 (S 1100023 (S 1046 0)))) = S 1100007 (S 1100023 (S 1046 0)))), ?_⟩
  refine ⟨(la_behind_417 h4315_ h4321_ h4350_ h4355_ h4371_), ?_⟩
  refine ⟨(sm_AP_s (sm_AP_F h4351_ (sm_F1_le h3255_ (Int.le_refl _)) (Int.le_refl _) (Int.le_refl _) (Int.le_refl _)) (sm_AP_F h4316_ sm_F1_rf (Int.le_refl _) (Int.le_refl _) (Int.le_refl _))), ?_⟩
  refine ⟨?_, ?_⟩
  · skip
    have e4372_ : S 1100007 (g162 1100023 (g162 1046 0)) = S 1100007 (S 1100023 (S 1046 0)) := congrArg ((S 1100007)) (la_behind_70 h4363_ (sm_nt_18 : sm_nt 18 (S 1046 0) (S 1100023 (S 1046 0)) (S 1100023 (S 1100023 (S 1046 0))) = S 1100023 (S 1046 0)))
    have e4373_ : S 1100007 (g162 1100025 (g162 1046 0)) = S 1100007 (S 1100025 (S 1046 0)) := congrArg ((S 1100007)) (la_behind_70 h4365_ (sm_nl_18 : sm_nl 18 (S 1046 0) (S 1100007 (S 1046 0)) (S 1100025 (S 1046 0)) (S 1100007 (S 1100025 (S 1046 0))) (S 1100025 (S 1100025 (S 1046 0))) = S 1100025 (S 1046 0)))
    have e4374_ : S 1100007 (g171 1100023 (g171 1046 0)) = S 1100007 (S 1100023 (S 1046 0)) := congrArg ((S 1100007)) (la_behind_71 h4346_ h4363_ (sm_nt_18 : sm_nt 18 (S 1046 0) (S 1100023 (S 1046 0)) (S 1100023 (S 1100023 (S 1046 0))) = S 1100023 (S 1046 0)))
    have e4375_ : S 1100007 (g171 1100023 (g171 1046 0)) = S 1100007 (g162 1100023 (g162 1046 0)) := congrArg ((S 1100007)) h4346_
    have e4376_ : S 1100007 (g171 1100025 (g171 1046 0)) = S 1100007 (S 1100025 (S 1046 0)) := congrArg ((S 1100007)) (la_behind_71 h4348_ h4365_ (sm_nl_18 : sm_nl 18 (S 1046 0) (S 1100007 (S 1046 0)) (S 1100025 (S 1046 0)) (S 1100007 (S 1100025 (S 1046 0))) (S 1100025 (S 1100025 (S 1046 0))) = S 1100025 (S 1046 0)))
    have e4377_ : S 1100007 (g171 1100025 (g171 1046 0)) = S 1100007 (g162 1100025 (g162 1046 0)) := congrArg ((S 1100007)) h4348_
    have e4378_ : S 1100007 (g177 1100023 (g177 1046 0)) = S 1100007 (S 1100023 (S 1046 0)) := congrArg ((S 1100007)) (la_behind_366 h4329_ (sm_nt_10 : sm_nt 10 (g171 1046 0) (g171 1100023 (g171 1046 0)) (g171 1100023 (g171 1100023 (g171 1046 0))) = g171 1100023 (g171 1046 0)) h4346_ h4363_ (sm_nt_18 : sm_nt 18 (S 1046 0) (S 1100023 (S 1046 0)) (S 1100023 (S 1100023 (S 1046 0))) = S 1100023 (S 1046 0)))
    have e4379_ : S 1100007 (g177 1100023 (g177 1046 0)) = S 1100007 (g162 1100023 (g162 1046 0)) := congrArg ((S 1100007)) (la_behind_71 h4329_ (sm_nt_10 : sm_nt 10 (g171 1046 0) (g171 1100023 (g171 1046 0)) (g171 1100023 (g171 1100023 (g171 1046 0))) = g171 1100023 (g171 1046 0)) h4346_)
    have e4380_ : S 1100007 (g177 1100023 (g177 1046 0)) = S 1100007 (g171 1100023 (g171 1046 0)) := congrArg ((S 1100007)) (la_behind_70 h4329_ (sm_nt_10 : sm_nt 10 (g171 1046 0) (g171 1100023 (g171 1046 0)) (g171 1100023 (g171 1100023 (g171 1046 0))) = g171 1100023 (g171 1046 0)))
    have e4381_ : S 1100007 (g177 1100025 (g177 1046 0)) = S 1100007 (S 1100025 (S 1046 0)) := congrArg ((S 1100007)) (la_behind_366 h4331_ (sm_nl_10 : sm_nl 10 (g171 1046 0) (g171 1100007 (g171 1046 0)) (g171 1100025 (g171 1046 0)) (g171 1100007 (g171 1100025 (g171 1046 0))) (g171 1100025 (g171 1100025 (g171 1046 0))) = g171 1100025 (g171 1046 0)) h4348_ h4365_ (sm_nl_18 : sm_nl 18 (S 1046 0) (S 1100007 (S 1046 0)) (S 1100025 (S 1046 0)) (S 1100007 (S 1100025 (S 1046 0))) (S 1100025 (S 1100025 (S 1046 0))) = S 1100025 (S 1046 0)))
    have e4382_ : S 1100007 (g177 1100025 (g177 1046 0)) = S 1100007 (g162 1100025 (g162 1046 0)) := congrArg ((S 1100007)) (la_behind_71 h4331_ (sm_nl_10 : sm_nl 10 (g171 1046 0) (g171 1100007 (g171 1046 0)) (g171 1100025 (g171 1046 0)) (g171 1100007 (g171 1100025 (g171 1046 0))) (g171 1100025 (g171 1100025 (g171 1046 0))) = g171 1100025 (g171 1046 0)) h4348_)
    have e4383_ : S 1100007 (g177 1100025 (g177 1046 0)) = S 1100007 (g171 1100025 (g171 1046 0)) := congrArg ((S 1100007)) (la_behind_70 h4331_ (sm_nl_10 : sm_nl 10 (g171 1046 0) (g171 1100007 (g171 1046 0)) (g171 1100025 (g171 1046 0)) (g171 1100007 (g171 1100025 (g171 1046 0))) (g171 1100025 (g171 1100025 (g171 1046 0))) = g171 1100025 (g171 1046 0)))
    have e4384_ : S 12 (5 * p1 + 0) = S 12 (5 * p1) := congrArg ((S 12)) la_behind_26
    have e4385_ : g162 1100007 (g171 1100023 (g171 1046 0)) = g162 1100007 (g162 1100023 (g162 1046 0)) := congrArg ((g162 1100007)) h4346_
    have e4386_ : g162 1100007 (g171 1100025 (g171 1046 0)) = g162 1100007 (g162 1100025 (g162 1046 0)) := congrArg ((g162 1100007)) h4348_
    have e4387_ : g162 1100007 (g177 1100023 (g177 1046 0)) = g162 1100007 (g162 1100023 (g162 1046 0)) := congrArg ((g162 1100007)) (la_behind_71 h4329_ (sm_nt_10 : sm_nt 10 (g171 1046 0) (g171 1100023 (g171 1046 0)) (g171 1100023 (g171 1100023 (g171 1046 0))) = g171 1100023 (g171 1046 0)) h4346_)
    have e4388_ : g162 1100007 (g177 1100023 (g177 1046 0)) = g162 1100007 (g171 1100023 (g171 1046 0)) := congrArg ((g162 1100007)) (la_behind_70 h4329_ (sm_nt_10 : sm_nt 10 (g171 1046 0) (g171 1100023 (g171 1046 0)) (g171 1100023 (g171 1100023 (g171 1046 0))) = g171 1100023 (g171 1046 0)))
    have e4389_ : g162 1100007 (g177 1100025 (g177 1046 0)) = g162 1100007 (g162 1100025 (g162 1046 0)) := congrArg ((g162 1100007)) (la_behind_71 h4331_ (sm_nl_10 : sm_nl 10 (g171 1046 0) (g171 1100007 (g171 1046 0)) (g171 1100025 (g171 1046 0)) (g171 1100007 (g171 1100025 (g171 1046 0))) (g171 1100025 (g171 1100025 (g171 1046 0))) = g171 1100025 (g171 1046 0)) h4348_)
    have e4390_ : g162 1100007 (g177 1100025 (g177 1046 0)) = g162 1100007 (g171 1100025 (g171 1046 0)) := congrArg ((g162 1100007)) (la_behind_70 h4331_ (sm_nl_10 : sm_nl 10 (g171 1046 0) (g171 1100007 (g171 1046 0)) (g171 1100025 (g171 1046 0)) (g171 1100007 (g171 1100025 (g171 1046 0))) (g171 1100025 (g171 1100025 (g171 1046 0))) = g171 1100025 (g171 1046 0)))
    have e4391_ : g162 1100007 (g185 1100023 (g185 1046 0)) = g162 1100007 (g162 1100023 (g162 1046 0)) := congrArg ((g162 1100007)) (la_behind_442 h4311_ h4329_ (sm_nt_10 : sm_nt 10 (g171 1046 0) (g171 1100023 (g171 1046 0)) (g171 1100023 (g171 1100023 (g171 1046 0))) = g171 1100023 (g171 1046 0)) h4346_)
    have e4392_ : g162 1100007 (g185 1100023 (g185 1046 0)) = g162 1100007 (g171 1100023 (g171 1046 0)) := congrArg ((g162 1100007)) (la_behind_71 h4311_ h4329_ (sm_nt_10 : sm_nt 10 (g171 1046 0) (g171 1100023 (g171 1046 0)) (g171 1100023 (g171 1100023 (g171 1046 0))) = g171 1100023 (g171 1046 0)))
    have e4393_ : g162 1100007 (g185 1100023 (g185 1046 0)) = g162 1100007 (g177 1100023 (g177 1046 0)) := congrArg ((g162 1100007)) h4311_
    have e4394_ : g162 1100007 (g185 1100025 (g185 1046 0)) = g162 1100007 (g162 1100025 (g162 1046 0)) := congrArg ((g162 1100007)) (la_behind_442 h4313_ h4331_ (sm_nl_10 : sm_nl 10 (g171 1046 0) (g171 1100007 (g171 1046 0)) (g171 1100025 (g171 1046 0)) (g171 1100007 (g171 1100025 (g171 1046 0))) (g171 1100025 (g171 1100025 (g171 1046 0))) = g171 1100025 (g171 1046 0)) h4348_)
    have e4395_ : g162 1100007 (g185 1100025 (g185 1046 0)) = g162 1100007 (g171 1100025 (g171 1046 0)) := congrArg ((g162 1100007)) (la_behind_71 h4313_ h4331_ (sm_nl_10 : sm_nl 10 (g171 1046 0) (g171 1100007 (g171 1046 0)) (g171 1100025 (g171 1046 0)) (g171 1100007 (g171 1100025 (g171 1046 0))) (g171 1100025 (g171 1100025 (g171 1046 0))) = g171 1100025 (g171 1046 0)))
    have e4396_ : g162 1100007 (g185 1100025 (g185 1046 0)) = g162 1100007 (g177 1100025 (g177 1046 0)) := congrArg ((g162 1100007)) h4313_
    have e4397_ : g171 1100007 (g177 1100023 (g177 1046 0)) = g171 1100007 (g171 1100023 (g171 1046 0)) := congrArg ((g171 1100007)) (la_behind_70 h4329_ (sm_nt_10 : sm_nt 10 (g171 1046 0) (g171 1100023 (g171 1046 0)) (g171 1100023 (g171 1100023 (g171 1046 0))) = g171 1100023 (g171 1046 0)))
    have e4398_ : g171 1100007 (g177 1100025 (g177 1046 0)) = g171 1100007 (g171 1100025 (g171 1046 0)) := congrArg ((g171 1100007)) (la_behind_70 h4331_ (sm_nl_10 : sm_nl 10 (g171 1046 0) (g171 1100007 (g171 1046 0)) (g171 1100025 (g171 1046 0)) (g171 1100007 (g171 1100025 (g171 1046 0))) (g171 1100025 (g171 1100025 (g171 1046 0))) = g171 1100025 (g171 1046 0)))
    have e4399_ : g171 1100007 (g185 1100023 (g185 1046 0)) = g171 1100007 (g171 1100023 (g171 1046 0)) := congrArg ((g171 1100007)) (la_behind_71 h4311_ h4329_ (sm_nt_10 : sm_nt 10 (g171 1046 0) (g171 1100023 (g171 1046 0)) (g171 1100023 (g171 1100023 (g171 1046 0))) = g171 1100023 (g171 1046 0)))
    have e4400_ : g171 1100007 (g185 1100023 (g185 1046 0)) = g171 1100007 (g177 1100023 (g177 1046 0)) := congrArg ((g171 1100007)) h4311_
    have e4401_ : g171 1100007 (g185 1100025 (g185 1046 0)) = g171 1100007 (g171 1100025 (g171 1046 0)) := congrArg ((g171 1100007)) (la_behind_71 h4313_ h4331_ (sm_nl_10 : sm_nl 10 (g171 1046 0) (g171 1100007 (g171 1046 0)) (g171 1100025 (g171 1046 0)) (g171 1100007 (g171 1100025 (g171 1046 0))) (g171 1100025 (g171 1100025 (g171 1046 0))) = g171 1100025 (g171 1046 0)))
    have e4402_ : g171 1100007 (g185 1100025 (g185 1046 0)) = g171 1100007 (g177 1100025 (g177 1046 0)) := congrArg ((g171 1100007)) h4313_
    have e4403_ : g171 1100007 (g193 1100023 (g193 1046 0)) = g171 1100007 (g171 1100023 (g171 1046 0)) := congrArg ((g171 1100007)) (la_behind_366 h4294_ (sm_nt_15 : sm_nt 15 (g185 1046 0) (g185 1100023 (g185 1046 0)) (g185 1100023 (g185 1100023 (g185 1046 0))) = g185 1100023 (g185 1046 0)) h4311_ h4329_ (sm_nt_10 : sm_nt 10 (g171 1046 0) (g171 1100023 (g171 1046 0)) (g171 1100023 (g171 1100023 (g171 1046 0))) = g171 1100023 (g171 1046 0)))
    have e4404_ : g171 1100007 (g193 1100023 (g193 1046 0)) = g171 1100007 (g177 1100023 (g177 1046 0)) := congrArg ((g171 1100007)) (la_behind_71 h4294_ (sm_nt_15 : sm_nt 15 (g185 1046 0) (g185 1100023 (g185 1046 0)) (g185 1100023 (g185 1100023 (g185 1046 0))) = g185 1100023 (g185 1046 0)) h4311_)
    have e4405_ : g171 1100007 (g193 1100023 (g193 1046 0)) = g171 1100007 (g185 1100023 (g185 1046 0)) := congrArg ((g171 1100007)) (la_behind_70 h4294_ (sm_nt_15 : sm_nt 15 (g185 1046 0) (g185 1100023 (g185 1046 0)) (g185 1100023 (g185 1100023 (g185 1046 0))) = g185 1100023 (g185 1046 0)))
    have e4406_ : g171 1100007 (g193 1100025 (g193 1046 0)) = g171 1100007 (g171 1100025 (g171 1046 0)) := congrArg ((g171 1100007)) (la_behind_366 h4296_ (sm_nl_15 : sm_nl 15 (g185 1046 0) (g185 1100007 (g185 1046 0)) (g185 1100025 (g185 1046 0)) (g185 1100007 (g185 1100025 (g185 1046 0))) (g185 1100025 (g185 1100025 (g185 1046 0))) = g185 1100025 (g185 1046 0)) h4313_ h4331_ (sm_nl_10 : sm_nl 10 (g171 1046 0) (g171 1100007 (g171 1046 0)) (g171 1100025 (g171 1046 0)) (g171 1100007 (g171 1100025 (g171 1046 0))) (g171 1100025 (g171 1100025 (g171 1046 0))) = g171 1100025 (g171 1046 0)))
    have e4407_ : g171 1100007 (g193 1100025 (g193 1046 0)) = g171 1100007 (g177 1100025 (g177 1046 0)) := congrArg ((g171 1100007)) (la_behind_71 h4296_ (sm_nl_15 : sm_nl 15 (g185 1046 0) (g185 1100007 (g185 1046 0)) (g185 1100025 (g185 1046 0)) (g185 1100007 (g185 1100025 (g185 1046 0))) (g185 1100025 (g185 1100025 (g185 1046 0))) = g185 1100025 (g185 1046 0)) h4313_)
    have e4408_ : g171 1100007 (g193 1100025 (g193 1046 0)) = g171 1100007 (g185 1100025 (g185 1046 0)) := congrArg ((g171 1100007)) (la_behind_70 h4296_ (sm_nl_15 : sm_nl 15 (g185 1046 0) (g185 1100007 (g185 1046 0)) (g185 1100025 (g185 1046 0)) (g185 1100007 (g185 1100025 (g185 1046 0))) (g185 1100025 (g185 1100025 (g185 1046 0))) = g185 1100025 (g185 1046 0)))
    have e4409_ : g177 1100007 (g185 1100023 (g185 1046 0)) = g177 1100007 (g177 1100023 (g177 1046 0)) := congrArg ((g177 1100007)) h4311_
    have e4410_ : g177 1100007 (g185 1100025 (g185 1046 0)) = g177 1100007 (g177 1100025 (g177 1046 0)) := congrArg ((g177 1100007)) h4313_
    have e4411_ : g177 1100007 (g193 1100023 (g193 1046 0)) = g177 1100007 (g177 1100023 (g177 1046 0)) := congrArg ((g177 1100007)) (la_behind_71 h4294_ (sm_nt_15 : sm_nt 15 (g185 1046 0) (g185 1100023 (g185 1046 0)) (g185 1100023 (g185 1100023 (g185 1046 0))) = g185 1100023 (g185 1046 0)) h4311_)
    have e4412_ : g177 1100007 (g193 1100023 (g193 1046 0)) = g177 1100007 (g185 1100023 (g185 1046 0)) := congrArg ((g177 1100007)) (la_behind_70 h4294_ (sm_nt_15 : sm_nt 15 (g185 1046 0) (g185 1100023 (g185 1046 0)) (g185 1100023 (g185 1100023 (g185 1046 0))) = g185 1100023 (g185 1046 0)))
    have e4413_ : g177 1100007 (g193 1100025 (g193 1046 0)) = g177 1100007 (g177 1100025 (g177 1046 0)) := congrArg ((g177 1100007)) (la_behind_71 h4296_ (sm_nl_15 : sm_nl 15 (g185 1046 0) (g185 1100007 (g185 1046 0)) (g185 1100025 (g185 1046 0)) (g185 1100007 (g185 1100025 (g185 1046 0))) (g185 1100025 (g185 1100025 (g185 1046 0))) = g185 1100025 (g185 1046 0)) h4313_)
    have e4414_ : g177 1100007 (g193 1100025 (g193 1046 0)) = g177 1100007 (g185 1100025 (g185 1046 0)) := congrArg ((g177 1100007)) (la_behind_70 h4296_ (sm_nl_15 : sm_nl 15 (g185 1046 0) (g185 1100007 (g185 1046 0)) (g185 1100025 (g185 1046 0)) (g185 1100007 (g185 1100025 (g185 1046 0))) (g185 1100025 (g185 1100025 (g185 1046 0))) = g185 1100025 (g185 1046 0)))
    have e4415_ : g185 1100007 (g193 1100023 (g193 1046 0)) = g185 1100007 (g185 1100023 (g185 1046 0)) := congrArg ((g185 1100007)) (la_behind_70 h4294_ (sm_nt_15 : sm_nt 15 (g185 1046 0) (g185 1100023 (g185 1046 0)) (g185 1100023 (g185 1100023 (g185 1046 0))) = g185 1100023 (g185 1046 0)))
    have e4416_ : g185 1100007 (g193 1100025 (g193 1046 0)) = g185 1100007 (g185 1100025 (g185 1046 0)) := congrArg ((g185 1100007)) (la_behind_70 h4296_ (sm_nl_15 : sm_nl 15 (g185 1046 0) (g185 1100007 (g185 1046 0)) (g185 1100025 (g185 1046 0)) (g185 1100007 (g185 1100025 (g185 1046 0))) (g185 1100025 (g185 1100025 (g185 1046 0))) = g185 1100025 (g185 1046 0)))
    have e4417_ : S 11 x8 = S 11 (S 12 (5 * p1)) := congrArg ((S 11)) (la_behind_344 h53_ e4384_)
    have e4418_ : S 1100007 (g185 1100023 (g185 1046 0)) = S 1100007 (S 1100023 (S 1046 0)) := congrArg ((S 1100007)) (la_behind_446 h4311_ h4329_ (sm_nt_10 : sm_nt 10 (g171 1046 0) (g171 1100023 (g171 1046 0)) (g171 1100023 (g171 1100023 (g171 1046 0))) = g171 1100023 (g171 1046 0)) h4346_ h4363_ (sm_nt_18 : sm_nt 18 (S 1046 0) (S 1100023 (S 1046 0)) (S 1100023 (S 1100023 (S 1046 0))) = S 1100023 (S 1046 0)))
    have e4419_ : S 1100007 (g185 1100023 (g185 1046 0)) = S 1100007 (g162 1100023 (g162 1046 0)) := congrArg ((S 1100007)) (la_behind_442 h4311_ h4329_ (sm_nt_10 : sm_nt 10 (g171 1046 0) (g171 1100023 (g171 1046 0)) (g171 1100023 (g171 1100023 (g171 1046 0))) = g171 1100023 (g171 1046 0)) h4346_)
    have e4420_ : S 1100007 (g185 1100023 (g185 1046 0)) = S 1100007 (g171 1100023 (g171 1046 0)) := congrArg ((S 1100007)) (la_behind_71 h4311_ h4329_ (sm_nt_10 : sm_nt 10 (g171 1046 0) (g171 1100023 (g171 1046 0)) (g171 1100023 (g171 1100023 (g171 1046 0))) = g171 1100023 (g171 1046 0)))
    have e4421_ : S 1100007 (g185 1100023 (g185 1046 0)) = S 1100007 (g177 1100023 (g177 1046 0)) := congrArg ((S 1100007)) h4311_
    have e4422_ : S 1100007 (g185 1100025 (g185 1046 0)) = S 1100007 (S 1100025 (S 1046 0)) := congrArg ((S 1100007)) (la_behind_446 h4313_ h4331_ (sm_nl_10 : sm_nl 10 (g171 1046 0) (g171 1100007 (g171 1046 0)) (g171 1100025 (g171 1046 0)) (g171 1100007 (g171 1100025 (g171 1046 0))) (g171 1100025 (g171 1100025 (g171 1046 0))) = g171 1100025 (g171 1046 0)) h4348_ h4365_ (sm_nl_18 : sm_nl 18 (S 1046 0) (S 1100007 (S 1046 0)) (S 1100025 (S 1046 0)) (S 1100007 (S 1100025 (S 1046 0))) (S 1100025 (S 1100025 (S 1046 0))) = S 1100025 (S 1046 0)))
    have e4423_ : S 1100007 (g185 1100025 (g185 1046 0)) = S 1100007 (g162 1100025 (g162 1046 0)) := congrArg ((S 1100007)) (la_behind_442 h4313_ h4331_ (sm_nl_10 : sm_nl 10 (g171 1046 0) (g171 1100007 (g171 1046 0)) (g171 1100025 (g171 1046 0)) (g171 1100007 (g171 1100025 (g171 1046 0))) (g171 1100025 (g171 1100025 (g171 1046 0))) = g171 1100025 (g171 1046 0)) h4348_)
    have e4424_ : S 1100007 (g185 1100025 (g185 1046 0)) = S 1100007 (g171 1100025 (g171 1046 0)) := congrArg ((S 1100007)) (la_behind_71 h4313_ h4331_ (sm_nl_10 : sm_nl 10 (g171 1046 0) (g171 1100007 (g171 1046 0)) (g171 1100025 (g171 1046 0)) (g171 1100007 (g171 1100025 (g171 1046 0))) (g171 1100025 (g171 1100025 (g171 1046 0))) = g171 1100025 (g171 1046 0)))
    have e4425_ : S 1100007 (g185 1100025 (g185 1046 0)) = S 1100007 (g177 1100025 (g177 1046 0)) := congrArg ((S 1100007)) h4313_
    have e4426_ : S 1100007 (g193 1100023 (g193 1046 0)) = S 1100007 (S 1100023 (S 1046 0)) := congrArg ((S 1100007)) (la_behind_416 h4294_ (sm_nt_15 : sm_nt 15 (g185 1046 0) (g185 1100023 (g185 1046 0)) (g185 1100023 (g185 1100023 (g185 1046 0))) = g185 1100023 (g185 1046 0)) h4311_ h4329_ (sm_nt_10 : sm_nt 10 (g171 1046 0) (g171 1100023 (g171 1046 0)) (g171 1100023 (g171 1100023 (g171 1046 0))) = g171 1100023 (g171 1046 0)) h4346_ h4363_ (sm_nt_18 : sm_nt 18 (S 1046 0) (S 1100023 (S 1046 0)) (S 1100023 (S 1100023 (S 1046 0))) = S 1100023 (S 1046 0)))
    have e4427_ : S 1100007 (g193 1100023 (g193 1046 0)) = S 1100007 (g162 1100023 (g162 1046 0)) := congrArg ((S 1100007)) (la_behind_446 h4294_ (sm_nt_15 : sm_nt 15 (g185 1046 0) (g185 1100023 (g185 1046 0)) (g185 1100023 (g185 1100023 (g185 1046 0))) = g185 1100023 (g185 1046 0)) h4311_ h4329_ (sm_nt_10 : sm_nt 10 (g171 1046 0) (g171 1100023 (g171 1046 0)) (g171 1100023 (g171 1100023 (g171 1046 0))) = g171 1100023 (g171 1046 0)) h4346_)
    have e4428_ : S 1100007 (g193 1100023 (g193 1046 0)) = S 1100007 (g171 1100023 (g171 1046 0)) := congrArg ((S 1100007)) (la_behind_366 h4294_ (sm_nt_15 : sm_nt 15 (g185 1046 0) (g185 1100023 (g185 1046 0)) (g185 1100023 (g185 1100023 (g185 1046 0))) = g185 1100023 (g185 1046 0)) h4311_ h4329_ (sm_nt_10 : sm_nt 10 (g171 1046 0) (g171 1100023 (g171 1046 0)) (g171 1100023 (g171 1100023 (g171 1046 0))) = g171 1100023 (g171 1046 0)))
    have e4429_ : S 1100007 (g193 1100023 (g193 1046 0)) = S 1100007 (g177 1100023 (g177 1046 0)) := congrArg ((S 1100007)) (la_behind_71 h4294_ (sm_nt_15 : sm_nt 15 (g185 1046 0) (g185 1100023 (g185 1046 0)) (g185 1100023 (g185 1100023 (g185 1046 0))) = g185 1100023 (g185 1046 0)) h4311_)
    have e4430_ : S 1100007 (g193 1100023 (g193 1046 0)) = S 1100007 (g185 1100023 (g185 1046 0)) := congrArg ((S 1100007)) (la_behind_70 h4294_ (sm_nt_15 : sm_nt 15 (g185 1046 0) (g185 1100023 (g185 1046 0)) (g185 1100023 (g185 1100023 (g185 1046 0))) = g185 1100023 (g185 1046 0)))
    have e4431_ : S 1100007 (g193 1100025 (g193 1046 0)) = S 1100007 (S 1100025 (S 1046 0)) := congrArg ((S 1100007)) (la_behind_416 h4296_ (sm_nl_15 : sm_nl 15 (g185 1046 0) (g185 1100007 (g185 1046 0)) (g185 1100025 (g185 1046 0)) (g185 1100007 (g185 1100025 (g185 1046 0))) (g185 1100025 (g185 1100025 (g185 1046 0))) = g185 1100025 (g185 1046 0)) h4313_ h4331_ (sm_nl_10 : sm_nl 10 (g171 1046 0) (g171 1100007 (g171 1046 0)) (g171 1100025 (g171 1046 0)) (g171 1100007 (g171 1100025 (g171 1046 0))) (g171 1100025 (g171 1100025 (g171 1046 0))) = g171 1100025 (g171 1046 0)) h4348_ h4365_ (sm_nl_18 : sm_nl 18 (S 1046 0) (S 1100007 (S 1046 0)) (S 1100025 (S 1046 0)) (S 1100007 (S 1100025 (S 1046 0))) (S 1100025 (S 1100025 (S 1046 0))) = S 1100025 (S 1046 0)))
    have e4432_ : S 1100007 (g193 1100025 (g193 1046 0)) = S 1100007 (g162 1100025 (g162 1046 0)) := congrArg ((S 1100007)) (la_behind_446 h4296_ (sm_nl_15 : sm_nl 15 (g185 1046 0) (g185 1100007 (g185 1046 0)) (g185 1100025 (g185 1046 0)) (g185 1100007 (g185 1100025 (g185 1046 0))) (g185 1100025 (g185 1100025 (g185 1046 0))) = g185 1100025 (g185 1046 0)) h4313_ h4331_ (sm_nl_10 : sm_nl 10 (g171 1046 0) (g171 1100007 (g171 1046 0)) (g171 1100025 (g171 1046 0)) (g171 1100007 (g171 1100025 (g171 1046 0))) (g171 1100025 (g171 1100025 (g171 1046 0))) = g171 1100025 (g171 1046 0)) h4348_)
    have e4433_ : S 1100007 (g193 1100025 (g193 1046 0)) = S 1100007 (g171 1100025 (g171 1046 0)) := congrArg ((S 1100007)) (la_behind_366 h4296_ (sm_nl_15 : sm_nl 15 (g185 1046 0) (g185 1100007 (g185 1046 0)) (g185 1100025 (g185 1046 0)) (g185 1100007 (g185 1100025 (g185 1046 0))) (g185 1100025 (g185 1100025 (g185 1046 0))) = g185 1100025 (g185 1046 0)) h4313_ h4331_ (sm_nl_10 : sm_nl 10 (g171 1046 0) (g171 1100007 (g171 1046 0)) (g171 1100025 (g171 1046 0)) (g171 1100007 (g171 1100025 (g171 1046 0))) (g171 1100025 (g171 1100025 (g171 1046 0))) = g171 1100025 (g171 1046 0)))
    have e4434_ : S 1100007 (g193 1100025 (g193 1046 0)) = S 1100007 (g177 1100025 (g177 1046 0)) := congrArg ((S 1100007)) (la_behind_71 h4296_ (sm_nl_15 : sm_nl 15 (g185 1046 0) (g185 1100007 (g185 1046 0)) (g185 1100025 (g185 1046 0)) (g185 1100007 (g185 1100025 (g185 1046 0))) (g185 1100025 (g185 1100025 (g185 1046 0))) = g185 1100025 (g185 1046 0)) h4313_)
    have e4435_ : S 1100007 (g193 1100025 (g193 1046 0)) = S 1100007 (g185 1100025 (g185 1046 0)) := congrArg ((S 1100007)) (la_behind_70 h4296_ (sm_nl_15 : sm_nl 15 (g185 1046 0) (g185 1100007 (g185 1046 0)) (g185 1100025 (g185 1046 0)) (g185 1100007 (g185 1100025 (g185 1046 0))) (g185 1100025 (g185 1100025 (g185 1046 0))) = g185 1100025 (g185 1046 0)))
    have e4436_ : g162 1100007 (g193 1100023 (g193 1046 0)) = g162 1100007 (g162 1100023 (g162 1046 0)) := congrArg ((g162 1100007)) (la_behind_446 h4294_ (sm_nt_15 : sm_nt 15 (g185 1046 0) (g185 1100023 (g185 1046 0)) (g185 1100023 (g185 1100023 (g185 1046 0))) = g185 1100023 (g185 1046 0)) h4311_ h4329_ (sm_nt_10 : sm_nt 10 (g171 1046 0) (g171 1100023 (g171 1046 0)) (g171 1100023 (g171 1100023 (g171 1046 0))) = g171 1100023 (g171 1046 0)) h4346_)
    have e4437_ : g162 1100007 (g193 1100023 (g193 1046 0)) = g162 1100007 (g171 1100023 (g171 1046 0)) := congrArg ((g162 1100007)) (la_behind_366 h4294_ (sm_nt_15 : sm_nt 15 (g185 1046 0) (g185 1100023 (g185 1046 0)) (g185 1100023 (g185 1100023 (g185 1046 0))) = g185 1100023 (g185 1046 0)) h4311_ h4329_ (sm_nt_10 : sm_nt 10 (g171 1046 0) (g171 1100023 (g171 1046 0)) (g171 1100023 (g171 1100023 (g171 1046 0))) = g171 1100023 (g171 1046 0)))
    have e4438_ : g162 1100007 (g193 1100023 (g193 1046 0)) = g162 1100007 (g177 1100023 (g177 1046 0)) := congrArg ((g162 1100007)) (la_behind_71 h4294_ (sm_nt_15 : sm_nt 15 (g185 1046 0) (g185 1100023 (g185 1046 0)) (g185 1100023 (g185 1100023 (g185 1046 0))) = g185 1100023 (g185 1046 0)) h4311_)
    have e4439_ : g162 1100007 (g193 1100023 (g193 1046 0)) = g162 1100007 (g185 1100023 (g185 1046 0)) := congrArg ((g162 1100007)) (la_behind_70 h4294_ (sm_nt_15 : sm_nt 15 (g185 1046 0) (g185 1100023 (g185 1046 0)) (g185 1100023 (g185 1100023 (g185 1046 0))) = g185 1100023 (g185 1046 0)))
    have e4440_ : g162 1100007 (g193 1100025 (g193 1046 0)) = g162 1100007 (g162 1100025 (g162 1046 0)) := congrArg ((g162 1100007)) (la_behind_446 h4296_ (sm_nl_15 : sm_nl 15 (g185 1046 0) (g185 1100007 (g185 1046 0)) (g185 1100025 (g185 1046 0)) (g185 1100007 (g185 1100025 (g185 1046 0))) (g185 1100025 (g185 1100025 (g185 1046 0))) = g185 1100025 (g185 1046 0)) h4313_ h4331_ (sm_nl_10 : sm_nl 10 (g171 1046 0) (g171 1100007 (g171 1046 0)) (g171 1100025 (g171 1046 0)) (g171 1100007 (g171 1100025 (g171 1046 0))) (g171 1100025 (g171 1100025 (g171 1046 0))) = g171 1100025 (g171 1046 0)) h4348_)
    have e4441_ : g162 1100007 (g193 1100025 (g193 1046 0)) = g162 1100007 (g171 1100025 (g171 1046 0)) := congrArg ((g162 1100007)) (la_behind_366 h4296_ (sm_nl_15 : sm_nl 15 (g185 1046 0) (g185 1100007 (g185 1046 0)) (g185 1100025 (g185 1046 0)) (g185 1100007 (g185 1100025 (g185 1046 0))) (g185 1100025 (g185 1100025 (g185 1046 0))) = g185 1100025 (g185 1046 0)) h4313_ h4331_ (sm_nl_10 : sm_nl 10 (g171 1046 0) (g171 1100007 (g171 1046 0)) (g171 1100025 (g171 1046 0)) (g171 1100007 (g171 1100025 (g171 1046 0))) (g171 1100025 (g171 1100025 (g171 1046 0))) = g171 1100025 (g171 1046 0)))
    have e4442_ : g162 1100007 (g193 1100025 (g193 1046 0)) = g162 1100007 (g177 1100025 (g177 1046 0)) := congrArg ((g162 1100007)) (la_behind_71 h4296_ (sm_nl_15 : sm_nl 15 (g185 1046 0) (g185 1100007 (g185 1046 0)) (g185 1100025 (g185 1046 0)) (g185 1100007 (g185 1100025 (g185 1046 0))) (g185 1100025 (g185 1100025 (g185 1046 0))) = g185 1100025 (g185 1046 0)) h4313_)
    have e4443_ : g162 1100007 (g193 1100025 (g193 1046 0)) = g162 1100007 (g185 1100025 (g185 1046 0)) := congrArg ((g162 1100007)) (la_behind_70 h4296_ (sm_nl_15 : sm_nl 15 (g185 1046 0) (g185 1100007 (g185 1046 0)) (g185 1100025 (g185 1046 0)) (g185 1100007 (g185 1100025 (g185 1046 0))) (g185 1100025 (g185 1100025 (g185 1046 0))) = g185 1100025 (g185 1046 0)))
    by_cases c4444_ : 0 ≤ x11
    · skip
      have e4445_ : (if x11 = (-1) then 0 else 17 * S 1100005 x11 + 17 : Int) = 17 * S 1100005 x11 + 17 := if_neg (la_behind_300 c4444_)
      have e4446_ : (if x11 = (-1) then 0 else 8 * S 1100005 x11 + 17 : Int) = 8 * S 1100005 x11 + 17 := if_neg (la_behind_300 c4444_)
      have h4447_ := (h1397_ c4444_)
      have h4448_ := (h1410_ c4444_)
      have h4449_ := (h3263_ (la_behind_301 c4444_ (sm_ex_e (sm_li_r h1407_ (la_behind_300 c4444_))).2.2.2.2))
      have h4450_ := (h4447_ (sm_ex_e (sm_li_r h1407_ (la_behind_300 c4444_))).2.1)
      obtain ⟨h4451_, ⟨h4452_, ⟨h4453_, h4454_⟩⟩⟩ := (h4448_ (sm_ex_e (sm_li_r h1407_ (la_behind_300 c4444_))).2.1)
      have h4455_ := (h4449_ h52_)
      obtain ⟨h4456_, h4457_⟩ := (h4450_ (sm_ex_e (sm_li_r h1407_ (la_behind_300 c4444_))).2.2.1)
      have h4458_ := (h4454_ (sm_ex_e (sm_li_r h1407_ (la_behind_300 c4444_))).2.2.1)
      exact (sm_HB_1 (by rw [((sm_F1_at h3791_ (S 1046 0) (la_behind_418 h3241_ h4323_ h4343_ h4357_)).trans ((sm_F1_at h3247_ (S 1046 0) (la_behind_419 h4323_ h4343_ h4357_)).trans ((sm_F1_at h2346_ (S 1046 0) (la_behind_420 h4343_ h4357_)).trans ((sm_F1_at h2104_ (S 1046 0) (la_behind_88 h4357_)).trans ((sm_F1_at h1978_ (S 1046 0) la_behind_89).trans rfl)))))]; exact (la_behind_447 h1852_ h3241_ h4288_ h4323_ h4343_ h4357_ (sm_ex_e (sm_li_r h1407_ (la_behind_300 c4444_))).2.2.2.2 h4457_)) (sm_HB_1 (by rw [((sm_F1_at h3791_ (S 1046 0 + 1) (la_behind_422 h3241_ h4323_ h4343_ h4357_)).trans ((sm_F1_at h3247_ (S 1046 0 + 1) (la_behind_423 h4323_ h4343_ h4357_)).trans ((sm_F1_at h2346_ (S 1046 0 + 1) (la_behind_424 h4343_ h4357_)).trans ((sm_F1_at h2104_ (S 1046 0 + 1) (la_behind_91 h4357_)).trans ((congrArg (g162 1100007) (la_behind_92 h1970_ h4357_)).trans h4362_)))))]; exact (la_behind_448 h1852_ h3241_ h4288_ h4323_ h4343_ h4357_ (sm_dl_18 : sm_dl 18 0 = 1) (sm_ex_e (sm_li_r h1407_ (la_behind_300 c4444_))).2.2.2.2 h4457_)) (sm_HB_s (sm_HB_F h4352_ (sm_F1_tr (sm_F1_tr (sm_F1_le h2346_ la_behind_202) h3247_ (la_behind_432 h4323_)) h3791_ (la_behind_431 h3241_ h4323_)) (Int.le_refl _) (la_behind_94 h1970_) (Int.le_refl _) (la_behind_430 (sm_ex_e h1405_).2.2.2.2 h1852_ (sm_ex_e h1863_).2.2.2.2 h3241_ h4288_ h4323_ h4357_ h4362_ (sm_dl_18 : sm_dl 18 0 = 1))) (sm_HB_1 (by rw [((sm_F1_at h3791_ (g171 1046 0) (la_behind_433 h3241_ h4323_)).trans ((sm_F1_at h3247_ (g171 1046 0) (la_behind_88 h4323_)).trans ((sm_F1_at h2346_ (g171 1046 0) la_behind_89).trans rfl)))]; exact (la_behind_449 h1852_ h3241_ h4288_ h4323_ h4343_ h4345_ h4357_ h4362_ (sm_dl_18 : sm_dl 18 0 = 1) (sm_ex_e (sm_li_r h1407_ (la_behind_300 c4444_))).2.2.2.2 h4457_)) (sm_HB_s (sm_HB_F h4317_ (sm_F1_le h3791_ la_behind_202) (Int.le_refl _) h2338_ (Int.le_refl _) (la_behind_451 h1852_ h4288_ h4323_ h4328_ (sm_dl_10 : sm_dl 10 0 = (-1)) h4343_ h4345_ h4357_ h4362_ (sm_dl_18 : sm_dl 18 0 = 1) h4455_)) (sm_HB_1 (by rw [((sm_F1_at h3791_ (g185 1046 0) la_behind_89).trans rfl)]; exact (la_behind_452 h1852_ h3234_ h4288_ h4308_ h4310_ h4323_ h4328_ (sm_dl_10 : sm_dl 10 0 = (-1)) h4343_ h4345_ h4357_ h4362_ (sm_dl_18 : sm_dl 18 0 = 1) (sm_ex_e (sm_li_r h1407_ (la_behind_300 c4444_))).2.2.2.2 h4457_)) (sm_HB_0 h3783_)))))))
    · skip
      have e4459_ : (if x11 = (-1) then 0 else 17 * S 1100005 x11 + 17 : Int) = 0 := if_pos (la_behind_305 h1395_ c4444_)
      have e4460_ : (if x11 = (-1) then 0 else 8 * S 1100005 x11 + 17 : Int) = 0 := if_pos (la_behind_305 h1395_ c4444_)
      have h4461_ := (h3263_ (la_behind_306 h1395_ c4444_))
      have h4462_ := (h4461_ h52_)
      exact (sm_HB_1 (by rw [((sm_F1_at h3791_ (S 1046 0) (la_behind_418 h3241_ h4323_ h4343_ h4357_)).trans ((sm_F1_at h3247_ (S 1046 0) (la_behind_419 h4323_ h4343_ h4357_)).trans ((sm_F1_at h2346_ (S 1046 0) (la_behind_420 h4343_ h4357_)).trans ((sm_F1_at h2104_ (S 1046 0) (la_behind_88 h4357_)).trans ((sm_F1_at h1978_ (S 1046 0) la_behind_89).trans rfl)))))]; exact (la_behind_421 h52_ h1852_ h3241_ h4288_ h4323_ h4343_ h4357_)) (sm_HB_1 (by rw [((sm_F1_at h3791_ (S 1046 0 + 1) (la_behind_422 h3241_ h4323_ h4343_ h4357_)).trans ((sm_F1_at h3247_ (S 1046 0 + 1) (la_behind_423 h4323_ h4343_ h4357_)).trans ((sm_F1_at h2346_ (S 1046 0 + 1) (la_behind_424 h4343_ h4357_)).trans ((sm_F1_at h2104_ (S 1046 0 + 1) (la_behind_91 h4357_)).trans ((congrArg (g162 1100007) (la_behind_92 h1970_ h4357_)).trans h4362_)))))]; exact (la_behind_426 h52_ h1852_ h3241_ h4288_ h4323_ h4343_ h4357_ (sm_dl_18 : sm_dl 18 0 = 1))) (sm_HB_s (sm_HB_F h4352_ (sm_F1_tr (sm_F1_tr (sm_F1_le h2346_ la_behind_202) h3247_ (la_behind_432 h4323_)) h3791_ (la_behind_431 h3241_ h4323_)) (Int.le_refl _) (la_behind_94 h1970_) (Int.le_refl _) (la_behind_430 (sm_ex_e h1405_).2.2.2.2 h1852_ (sm_ex_e h1863_).2.2.2.2 h3241_ h4288_ h4323_ h4357_ h4362_ (sm_dl_18 : sm_dl 18 0 = 1))) (sm_HB_1 (by rw [((sm_F1_at h3791_ (g171 1046 0) (la_behind_433 h3241_ h4323_)).trans ((sm_F1_at h3247_ (g171 1046 0) (la_behind_88 h4323_)).trans ((sm_F1_at h2346_ (g171 1046 0) la_behind_89).trans rfl)))]; exact (la_behind_434 h52_ h1852_ h3241_ h4288_ h4323_ h4343_ h4345_ h4357_ h4362_ (sm_dl_18 : sm_dl 18 0 = 1))) (sm_HB_s (sm_HB_F h4317_ (sm_F1_le h3791_ la_behind_202) (Int.le_refl _) h2338_ (Int.le_refl _) (la_behind_453 h52_ h1852_ h4288_ h4323_ h4328_ (sm_dl_10 : sm_dl 10 0 = (-1)) h4343_ h4345_ h4357_ h4362_ (sm_dl_18 : sm_dl 18 0 = 1) e4460_)) (sm_HB_1 (by rw [((sm_F1_at h3791_ (g185 1046 0) la_behind_89).trans rfl)]; exact (la_behind_454 h52_ h1852_ h3234_ h4288_ h4308_ h4310_ h4323_ h4328_ (sm_dl_10 : sm_dl 10 0 = (-1)) h4343_ h4345_ h4357_ h4362_ (sm_dl_18 : sm_dl 18 0 = 1))) (sm_HB_0 h3783_)))))))
  refine ⟨(la_behind_455 h4288_ h4318_ h4323_ h4353_ h4357_), ?_⟩
  exact trivial
set_option maxRecDepth 8000 in
set_option maxHeartbeats 2000000 in
theorem s_behind (d : Int) (h0 : 0 ≤ d) (IH : ∀ d' : Int, 0 ≤ d' → d' < d → P_K d') : T_behind d := by
  intro p1 S hok hp1 hpre hd
  have h := f_behind d p1 S hok hp1 hpre hd
  have hM := sm_h97
  show sv_T sm_XS sm_cs sm_L sm_sh ((S 1100002 p1) + (600 - (S 1046 0)) + 8).toNat (q_behind p1 S) 97 0 [(0, .ref 0), (1, sv_I p1)] [] S
  have k1 : ((S 11 p1) = 8 → ¬ ((S 11 (S 12 (5 * p1))) = 7 ∧ (S 14 (S 12 (5 * p1))) = 0) → sm_cd (S 11) (S 12) (S 14) (p1) = 1) := sm_cd_1
  have h := h k1
  have k2 : (¬ (S 11 p1) = 8 → sm_cd (S 11) (S 12) (S 14) (p1) = 0) := sm_cd_0
  have h := h k2
  have k3 : ((S 11 (S 12 (5 * p1))) = 7 ∧ (S 14 (S 12 (5 * p1))) = 0 → sm_cd (S 11) (S 12) (S 14) (p1) = 0) := sm_cd_m
  have h := h k3
  have k4 : (0 ≤ sm_cd (S 11) (S 12) (S 14) (p1) ∧ sm_cd (S 11) (S 12) (S 14) (p1) ≤ 1) := sm_cd_r
  have h := h k4
  have k5 : (sm_WF (S 11) (S 12) (S 13) (S 1100001) (S 1100002) (S 1100005) (S 1100003) (S 1100004) (S 1024 0) (S 1007 0) (S 1009 0) (sm_fn (S 1032 0) (S 21) (S 1056 0)) → 0 ≤ p1 → p1 < (S 1024 0) → ((S 1100001 (p1)) = 1 → 0 ≤ (S 1100002 (p1)) ∧ ((S 11 (p1)) = 3 → (S 12 (5 * (p1) + 1)) < (p1)) ∧ ((S 11 (p1)) = 4 ∨ (S 11 (p1)) = 5 ∨ (S 11 (p1)) = 8 ∨ (S 11 (p1)) = 9 → 17 * (S 1100005 (p1)) + 2 ≤ (S 1100002 (p1))) ∧ 0 ≤ (S 1100005 (p1))) ∧ ((S 1100001 (p1)) = 2 → 0 ≤ (S 1100005 (p1)) ∧ (S 1100002 (p1)) ≤ 17 * (S 1100005 (p1)) + 5 ∧ ((S 11 (p1)) = 33 → 1 ≤ (S 1100005 (p1)))) ∧ ((S 1100001 (p1)) = 6 → 0 ≤ (S 1100002 (p1)) ∧ 1 ≤ (S 1100004 (p1)) ∧ ((S 12 (5 * (p1))) = - 1 → (S 1100004 (p1)) = 2)) ∧ ((S 1100001 (p1)) = 3 → 1 ≤ (S 1100002 (p1)))) := fun h a0 a1 => sm_gx h _ a0 a1
  have h := h k5
  refine sv_aload_n hM dX12_behind_0 rfl rfl ?_
  refine sv_iload_n hM dX12_behind_1 rfl rfl ?_
  refine sv_iconst (d := (0 : Int)) hM dX12_behind_2 rfl rfl ?_
  obtain ⟨o6, h⟩ := h
  obtain ⟨o7, h⟩ := h
  refine sv_callV hM dX12_behind_3 sm_iv_644 (by decide) (sm_a0 _) rfl rfl (Nat.le_of_ble_eq_true rfl) sm_h34 (Nat.le_of_ble_eq_true rfl) (Nat.le_of_ble_eq_true rfl) (F' := 0) (sv_Fn (n := 0) o7) rfl (t_part p1 (0 : Int) S hok hp1 (⟨by decide, by decide⟩ : sv_R (0 : Int)) o6) (fun v S1 hq => ?_)
  obtain ⟨rfl, hS1⟩ := hq
  obtain rfl : S = S1 := hS1.symm
  show sv_T sm_XS sm_cs sm_L sm_sh ((S 1100002 p1) + (600 - (S 1046 0)) + 8).toNat (q_behind p1 S) 97 6 [(0, .ref 0), (1, sv_I p1)] [sv_I ((S 12 (5 * p1 + (0 : Int))))] S
  obtain ⟨x8, e9⟩ : ∃ x : Int, ((S 12 (5 * p1 + (0 : Int)))) = x := ⟨_, rfl⟩
  have h := h x8 e9
  have e9r : sv_R x8 := e9 ▸ (sm_okI hok sm_r12 _)
  refine sv_nameI e9 ?_
  refine sv_istore_n hM dX12_behind_6 (by decide) rfl ?_
  show sv_T sm_XS sm_cs sm_L sm_sh ((S 1100002 p1) + (600 - (S 1046 0)) + 8).toNat (q_behind p1 S) 97 7 [(0, .ref 0), (1, sv_I p1), (2, sv_I x8)] [] S
  refine sv_aload_n hM dX12_behind_7 rfl rfl ?_
  refine sv_iload_n hM dX12_behind_8 rfl rfl ?_
  refine sv_iconst (d := (1 : Int)) hM dX12_behind_9 rfl rfl ?_
  obtain ⟨o10, h⟩ := h
  refine sv_callV hM dX12_behind_10 sm_iv_644 (by decide) (sm_a0 _) rfl rfl (Nat.le_of_ble_eq_true rfl) sm_h34 (Nat.le_of_ble_eq_true rfl) (Nat.le_of_ble_eq_true rfl) (F' := 0) (sv_Fn (n := 0) o7) rfl (t_part p1 (1 : Int) S hok hp1 (⟨by decide, by decide⟩ : sv_R (1 : Int)) o10) (fun v S1 hq => ?_)
  obtain ⟨rfl, hS1⟩ := hq
  obtain rfl : S = S1 := hS1.symm
  show sv_T sm_XS sm_cs sm_L sm_sh ((S 1100002 p1) + (600 - (S 1046 0)) + 8).toNat (q_behind p1 S) 97 13 [(0, .ref 0), (1, sv_I p1), (2, sv_I x8)] [sv_I ((S 12 (5 * p1 + (1 : Int))))] S
  obtain ⟨x11, e12⟩ : ∃ x : Int, ((S 12 (5 * p1 + (1 : Int)))) = x := ⟨_, rfl⟩
  have h := h x11 e12
  have e12r : sv_R x11 := e12 ▸ (sm_okI hok sm_r12 _)
  refine sv_nameI e12 ?_
  refine sv_istore_n hM dX12_behind_13 (by decide) rfl ?_
  show sv_T sm_XS sm_cs sm_L sm_sh ((S 1100002 p1) + (600 - (S 1046 0)) + 8).toNat (q_behind p1 S) 97 14 [(0, .ref 0), (1, sv_I p1), (2, sv_I x8), (3, sv_I x11)] [] S
  refine sv_aload_n hM dX12_behind_14 rfl rfl ?_
  refine sv_getA hM dX12_behind_15 sm_fl_42 (sm_a0 _) sm_k25 rfl ?_
  refine sv_iload_n hM dX12_behind_18 rfl rfl ?_
  obtain ⟨o13, h⟩ := h
  have k14 : sv_R (S 11 p1) := sm_okI hok sm_r11 p1
  have h := h k14
  refine sv_iald hM dX12_behind_19 (sm_a11 _) (by decide) o13.1 o13.2 rfl (x := (S 11 p1)) rfl ?_
  have hS := h
  have J0 : ((S 11 p1) < (3 : Int) ∨ (11 : Int) < (S 11 p1) ∨ (S 11 p1) = (4 : Int) ∨ (S 11 p1) = (5 : Int) ∨ (S 11 p1) = (6 : Int) ∨ (S 11 p1) = (9 : Int) ∨ (S 11 p1) = (10 : Int)) → sv_T sm_XS sm_cs sm_L sm_sh ((S 1100002 p1) + (600 - (S 1046 0)) + 8).toNat (q_behind p1 S) 97 170 [(0, .ref 0), (1, sv_I p1), (2, sv_I x8), (3, sv_I x11)] [] S := by
    intro hc
    have h := hS.1 hc
    have k15 : (sm_WF (S 11) (S 12) (S 13) (S 1100001) (S 1100002) (S 1100005) (S 1100003) (S 1100004) (S 1024 0) (S 1007 0) (S 1009 0) (sm_fn (S 1032 0) (S 21) (S 1056 0)) → 0 ≤ p1 → p1 < (S 1024 0) → (S 1100001 p1) = 1 → 0 ≤ (S 11 (p1)) ∧ (S 11 (p1)) ≤ 17) := fun h a0 a1 a2 => sm_g1_r h _ a0 a1 a2
    have h := h k15
    have k16 : (((S 11 p1) = 3 ∨ (S 11 p1) = 7 ∨ (S 11 p1) = 8 ∨ (S 11 p1) = 11 ∨ (S 11 p1) = 12 ∨ (S 11 p1) = 13) → 3 ≤ (S 11 p1)) := fun q => sm_h_so1 q
    have h := h k16
    have k17 : (((S 11 p1) = 3 ∨ (S 11 p1) = 7 ∨ (S 11 p1) = 8 ∨ (S 11 p1) = 11 ∨ (S 11 p1) = 12 ∨ (S 11 p1) = 13) → (11 < (S 11 p1) ∨ (S 11 p1) = 4 ∨ (S 11 p1) = 5 ∨ (S 11 p1) = 6 ∨ (S 11 p1) = 9 ∨ (S 11 p1) = 10 → (S 11 p1) = 12 ∨ (S 11 p1) = 13)) := fun q => sm_h_so2 q
    have h := h k17
    have k18 : (x11 = (S 12 (5 * p1 + 1)) → sm_WF (S 11) (S 12) (S 13) (S 1100001) (S 1100002) (S 1100005) (S 1100003) (S 1100004) (S 1024 0) (S 1007 0) (S 1009 0) (sm_fn (S 1032 0) (S 21) (S 1056 0)) → 0 ≤ p1 → p1 < (S 1024 0) → (S 1100001 p1) = 1 → ((S 11 p1) = 12 ∨ (S 11 p1) = 13) → sm_ex (S 1100001) (S 1100002) (S 1100005) (S 1024 0) 1 ((S 12 (5 * (p1)))) ((S 1100002 (p1))) ((S 1100005 (p1))) ∧ (S 12 (5 * (p1))) < (p1) ∧ sm_ex (S 1100001) (S 1100002) (S 1100005) (S 1024 0) 1 (x11) (((S 1100002 (p1))) - 1) ((S 1100005 (p1)))) := fun e_l3 => by rw [e_l3]; exact (fun h a b d q => q.elim (sm_g1_12 h _ a b d) (sm_g1_13 h _ a b d))
    have h := h k18
    have k19 : (sm_WF (S 11) (S 12) (S 13) (S 1100001) (S 1100002) (S 1100005) (S 1100003) (S 1100004) (S 1024 0) (S 1007 0) (S 1009 0) (sm_fn (S 1032 0) (S 21) (S 1056 0)) → 0 ≤ x11 → x11 < (S 1024 0) → ((S 1100001 (x11)) = 1 → 0 ≤ (S 1100002 (x11)) ∧ ((S 11 (x11)) = 3 → (S 12 (5 * (x11) + 1)) < (x11)) ∧ ((S 11 (x11)) = 4 ∨ (S 11 (x11)) = 5 ∨ (S 11 (x11)) = 8 ∨ (S 11 (x11)) = 9 → 17 * (S 1100005 (x11)) + 2 ≤ (S 1100002 (x11))) ∧ 0 ≤ (S 1100005 (x11))) ∧ ((S 1100001 (x11)) = 2 → 0 ≤ (S 1100005 (x11)) ∧ (S 1100002 (x11)) ≤ 17 * (S 1100005 (x11)) + 5 ∧ ((S 11 (x11)) = 33 → 1 ≤ (S 1100005 (x11)))) ∧ ((S 1100001 (x11)) = 6 → 0 ≤ (S 1100002 (x11)) ∧ 1 ≤ (S 1100004 (x11)) ∧ ((S 12 (5 * (x11))) = - 1 → (S 1100004 (x11)) = 2)) ∧ ((S 1100001 (x11)) = 3 → 1 ≤ (S 1100002 (x11)))) := fun h a0 a1 => sm_gx h _ a0 a1
    have h := h k19
    refine sv_aload_n hM dX12_behind_170 rfl rfl ?_
    obtain ⟨o20, h⟩ := h
    refine sv_callV hM dX12_behind_171 sm_iv_674 (by decide) (sm_a0 _) rfl rfl (Nat.le_of_ble_eq_true rfl) sm_h84 (Nat.le_of_ble_eq_true rfl) (Nat.le_of_ble_eq_true rfl) (F' := 0) (sv_Fn (n := 0) o7) rfl (t_mark  S hok o20) (fun v S1 hq => ?_)
    obtain ⟨r25, rfl, hr25, ok22, md23, hpo24⟩ := hq
    obtain ⟨g21, rfl⟩ : ∃ g, S1 = sv_sts S [1053] g := ⟨_, md23.eq⟩
    show sv_T sm_XS sm_cs sm_L sm_sh ((S 1100002 p1) + (600 - (S 1046 0)) + 8).toNat (q_behind p1 S) 97 174 [(0, .ref 0), (1, sv_I p1), (2, sv_I x8), (3, sv_I x11)] [sv_I r25] (sv_sts S [1053] g21)
    have md26 : sv_mod [26, 27, 28, 29, 1046, 1047, 1100007, 1100023, 1100024, 1100025, 1053, 31, 1100030, 1100009, 1100027, 1100028, 1100026, 1055, 1100033, 39, 1066] S (sv_sts S [1053] g21) := sv_mod.sts sv_mod.rf (by decide)
    have h := h r25 hr25 g21 hpo24
    refine sv_istore hM dX12_behind_174 (by decide) rfl ?_
    show sv_T sm_XS sm_cs sm_L sm_sh ((S 1100002 p1) + (600 - (S 1046 0)) + 8).toNat (q_behind p1 S) 97 176 [(0, .ref 0), (1, sv_I p1), (2, sv_I x8), (3, sv_I x11), (4, sv_I r25)] [] (sv_sts S [1053] g21)
    obtain ⟨o27, h⟩ := h
    refine sv_ghost sm_X 1100009 r25 ((S 1100007 (S 1046 0))) (by decide) ?_
    have ok28 : sm_ok (sv_up (sv_sts S [1053] g21) 1100009 r25 ((S 1100007 (S 1046 0)))) := sm_upI ok22 sm_r1100009 o27
    have md29 : sv_mod [26, 27, 28, 29, 1046, 1047, 1100007, 1100023, 1100024, 1100025, 1053, 31, 1100030, 1100009, 1100027, 1100028, 1100026, 1055, 1100033, 39, 1066] S (sv_up (sv_sts S [1053] g21) 1100009 r25 ((S 1100007 (S 1046 0)))) := sv_mod.up md26 (by decide)
    obtain ⟨o30, h⟩ := h
    refine sv_ghost sm_X 1100027 r25 ((S 1100023 (S 1046 0))) (by decide) ?_
    have ok31 : sm_ok (sv_up (sv_up (sv_sts S [1053] g21) 1100009 r25 ((S 1100007 (S 1046 0)))) 1100027 r25 ((S 1100023 (S 1046 0)))) := sm_upI ok28 sm_r1100027 o30
    have md32 : sv_mod [26, 27, 28, 29, 1046, 1047, 1100007, 1100023, 1100024, 1100025, 1053, 31, 1100030, 1100009, 1100027, 1100028, 1100026, 1055, 1100033, 39, 1066] S (sv_up (sv_up (sv_sts S [1053] g21) 1100009 r25 ((S 1100007 (S 1046 0)))) 1100027 r25 ((S 1100023 (S 1046 0)))) := sv_mod.up md29 (by decide)
    obtain ⟨o33, h⟩ := h
    refine sv_ghost sm_X 1100028 r25 ((S 1100025 (S 1046 0))) (by decide) ?_
    have ok34 : sm_ok (sv_up (sv_up (sv_up (sv_sts S [1053] g21) 1100009 r25 ((S 1100007 (S 1046 0)))) 1100027 r25 ((S 1100023 (S 1046 0)))) 1100028 r25 ((S 1100025 (S 1046 0)))) := sm_upI ok31 sm_r1100028 o33
    have md35 : sv_mod [26, 27, 28, 29, 1046, 1047, 1100007, 1100023, 1100024, 1100025, 1053, 31, 1100030, 1100009, 1100027, 1100028, 1100026, 1055, 1100033, 39, 1066] S (sv_up (sv_up (sv_up (sv_sts S [1053] g21) 1100009 r25 ((S 1100007 (S 1046 0)))) 1100027 r25 ((S 1100023 (S 1046 0)))) 1100028 r25 ((S 1100025 (S 1046 0)))) := sv_mod.up md32 (by decide)
    obtain ⟨o36, h⟩ := h
    refine sv_ghost sm_X 1100026 r25 ((S 1056 0)) (by decide) ?_
    have ok37 : sm_ok (sv_up (sv_up (sv_up (sv_up (sv_sts S [1053] g21) 1100009 r25 ((S 1100007 (S 1046 0)))) 1100027 r25 ((S 1100023 (S 1046 0)))) 1100028 r25 ((S 1100025 (S 1046 0)))) 1100026 r25 ((S 1056 0))) := sm_upI ok34 sm_r1100026 o36
    have md38 : sv_mod [26, 27, 28, 29, 1046, 1047, 1100007, 1100023, 1100024, 1100025, 1053, 31, 1100030, 1100009, 1100027, 1100028, 1100026, 1055, 1100033, 39, 1066] S (sv_up (sv_up (sv_up (sv_up (sv_sts S [1053] g21) 1100009 r25 ((S 1100007 (S 1046 0)))) 1100027 r25 ((S 1100023 (S 1046 0)))) 1100028 r25 ((S 1100025 (S 1046 0)))) 1100026 r25 ((S 1056 0))) := sv_mod.up md35 (by decide)
    refine sv_ghost sm_X 1100030 r25 (0 : Int) (by decide) ?_
    have ok39 : sm_ok (sv_up (sv_up (sv_up (sv_up (sv_up (sv_sts S [1053] g21) 1100009 r25 ((S 1100007 (S 1046 0)))) 1100027 r25 ((S 1100023 (S 1046 0)))) 1100028 r25 ((S 1100025 (S 1046 0)))) 1100026 r25 ((S 1056 0))) 1100030 r25 (0 : Int)) := sm_upI ok37 sm_r1100030 (⟨by decide, by decide⟩ : sv_R (0 : Int))
    have md40 : sv_mod [26, 27, 28, 29, 1046, 1047, 1100007, 1100023, 1100024, 1100025, 1053, 31, 1100030, 1100009, 1100027, 1100028, 1100026, 1055, 1100033, 39, 1066] S (sv_up (sv_up (sv_up (sv_up (sv_up (sv_sts S [1053] g21) 1100009 r25 ((S 1100007 (S 1046 0)))) 1100027 r25 ((S 1100023 (S 1046 0)))) 1100028 r25 ((S 1100025 (S 1046 0)))) 1100026 r25 ((S 1056 0))) 1100030 r25 (0 : Int)) := sv_mod.up md38 (by decide)
    have k41 : ((S 1047 0) = 0 → sm_KC (S 26) (S 27) (S 28) (S 29) (S 1100007) (S 1100023) (S 1100024) (S 1100025) (S 31) (S 1100009) (S 1100027) (S 1100028) (S 1100026) (S 1100030) (S 21) (S 32) (S 33) (S 1046 0) r25 (S 1056 0) (S 1032 0) (S 1007 0) (S 1100033 0) → (g21 1053 0) = r25 + 1 → sm_KC (S 26) (S 27) (S 28) (S 29) (S 1100007) (S 1100023) (S 1100024) (S 1100025) (S 31) (fun i' : Int => if i' = r25 then ((S 1100007 (S 1046 0))) else (S 1100009) i') (fun i' : Int => if i' = r25 then ((S 1100023 (S 1046 0))) else (S 1100027) i') (fun i' : Int => if i' = r25 then ((S 1100025 (S 1046 0))) else (S 1100028) i') (fun i' : Int => if i' = r25 then ((S 1056 0)) else (S 1100026) i') (fun i' : Int => if i' = r25 then (0 : Int) else (S 1100030) i') (S 21) (S 32) (S 33) (S 1046 0) (g21 1053 0) (S 1056 0) (S 1032 0) (S 1007 0) (S 1100033 0)) := fun _ h e => sm_KC_mark h ⟨rfl, rfl, rfl, rfl, rfl⟩ rfl e
    have h := h k41
    refine sv_aload_n hM dX12_behind_176 rfl rfl ?_
    refine sv_aload_n hM dX12_behind_177 rfl rfl ?_
    refine sv_getA hM dX12_behind_178 sm_fl_42 (sm_a0 _) sm_k25 rfl ?_
    refine sv_iload_n hM dX12_behind_181 rfl rfl ?_
    refine sv_iald hM dX12_behind_182 (sm_a11 _) (by decide) o13.1 o13.2 rfl (x := (S 11 p1)) rfl ?_
    refine sv_bipush (d := (12 : Int)) hM dX12_behind_183 rfl rfl ?_
    refine sv_icmp_ne hM dX12_behind_185 k14 (⟨by decide, by decide⟩ : sv_R (12 : Int)) (t := 193) rfl rfl (fun hc => ?_) (fun hc => ?_)
    · have h := h.1 (hc)
      refine sv_bipush (d := (24 : Int)) hM dX12_behind_193 rfl rfl ?_
      refine sv_iload hM dX12_behind_195 rfl rfl ?_
      refine sv_iconst (d := (0 : Int)) hM dX12_behind_197 rfl rfl ?_
      obtain ⟨o42, h⟩ := h
      refine sv_callV hM dX12_behind_198 sm_iv_615 (by decide) (sm_a0 _) rfl rfl (Nat.le_of_ble_eq_true rfl) sm_h82 (Nat.le_of_ble_eq_true rfl) (Nat.le_of_ble_eq_true rfl) (F' := 0) (sv_Fn (n := 0) o7) rfl (t_emit (24 : Int) r25 (0 : Int) (sv_up (sv_up (sv_up (sv_up (sv_up (sv_sts S [1053] g21) 1100009 r25 ((S 1100007 (S 1046 0)))) 1100027 r25 ((S 1100023 (S 1046 0)))) 1100028 r25 ((S 1100025 (S 1046 0)))) 1100026 r25 ((S 1056 0))) 1100030 r25 (0 : Int)) ok39 (⟨by decide, by decide⟩ : sv_R (24 : Int)) hr25 (⟨by decide, by decide⟩ : sv_R (0 : Int)) o42) (fun v S1 hq => ?_)
      obtain ⟨rfl, ok44, md45, hpo46⟩ := hq
      obtain ⟨g43, rfl⟩ : ∃ g, S1 = sv_sts (sv_up (sv_up (sv_up (sv_up (sv_up (sv_sts S [1053] g21) 1100009 r25 ((S 1100007 (S 1046 0)))) 1100027 r25 ((S 1100023 (S 1046 0)))) 1100028 r25 ((S 1100025 (S 1046 0)))) 1100026 r25 ((S 1056 0))) 1100030 r25 (0 : Int)) [26, 27, 28, 29, 1046, 1047, 1100007, 1100023, 1100024, 1100025] g := ⟨_, md45.eq⟩
      show sv_T sm_XS sm_cs sm_L sm_sh ((S 1100002 p1) + (600 - (S 1046 0)) + 8).toNat (q_behind p1 S) 97 201 [(0, .ref 0), (1, sv_I p1), (2, sv_I x8), (3, sv_I x11), (4, sv_I r25)] [] (sv_sts (sv_up (sv_up (sv_up (sv_up (sv_up (sv_sts S [1053] g21) 1100009 r25 ((S 1100007 (S 1046 0)))) 1100027 r25 ((S 1100023 (S 1046 0)))) 1100028 r25 ((S 1100025 (S 1046 0)))) 1100026 r25 ((S 1056 0))) 1100030 r25 (0 : Int)) [26, 27, 28, 29, 1046, 1047, 1100007, 1100023, 1100024, 1100025] g43)
      have md47 : sv_mod [26, 27, 28, 29, 1046, 1047, 1100007, 1100023, 1100024, 1100025, 1053, 31, 1100030, 1100009, 1100027, 1100028, 1100026, 1055, 1100033, 39, 1066] S (sv_sts (sv_up (sv_up (sv_up (sv_up (sv_up (sv_sts S [1053] g21) 1100009 r25 ((S 1100007 (S 1046 0)))) 1100027 r25 ((S 1100023 (S 1046 0)))) 1100028 r25 ((S 1100025 (S 1046 0)))) 1100026 r25 ((S 1056 0))) 1100030 r25 (0 : Int)) [26, 27, 28, 29, 1046, 1047, 1100007, 1100023, 1100024, 1100025] g43) := sv_mod.sts md40 (by decide)
      have h := h g43 hpo46
      refine sv_aload_n hM dX12_behind_201 rfl rfl ?_
      refine sv_iload_n hM dX12_behind_202 rfl rfl ?_
      obtain ⟨o48, h⟩ := h
      obtain ⟨o49, h⟩ := h
      obtain ⟨o50, h⟩ := h
      refine sv_callV hM dX12_behind_203 sm_iv_668 (by decide) (sm_a0 _) rfl rfl (Nat.le_of_ble_eq_true rfl) sm_h96 (Nat.le_of_ble_eq_true rfl) (Nat.le_of_ble_eq_true rfl) (F' := (((if (g43 1047 0) = 0 then (S 1100002 x11) + (600 - (g43 1046 0)) + 8 else 4))).toNat) (sv_Fe o50) rfl ((IH ((if (g43 1047 0) = 0 then (S 1100002 x11) + (600 - (g43 1046 0)) + 8 else 4)) o49.1 o49.2).1 x11 (sv_sts (sv_up (sv_up (sv_up (sv_up (sv_up (sv_sts S [1053] g21) 1100009 r25 ((S 1100007 (S 1046 0)))) 1100027 r25 ((S 1100023 (S 1046 0)))) 1100028 r25 ((S 1100025 (S 1046 0)))) 1100026 r25 ((S 1056 0))) 1100030 r25 (0 : Int)) [26, 27, 28, 29, 1046, 1047, 1100007, 1100023, 1100024, 1100025] g43) ok44 e12r o48 rfl) (fun v S1 hq => ?_)
      obtain ⟨rfl, ok52, md53, hpo54⟩ := hq
      obtain ⟨g51, rfl⟩ : ∃ g, S1 = sv_sts (sv_sts (sv_up (sv_up (sv_up (sv_up (sv_up (sv_sts S [1053] g21) 1100009 r25 ((S 1100007 (S 1046 0)))) 1100027 r25 ((S 1100023 (S 1046 0)))) 1100028 r25 ((S 1100025 (S 1046 0)))) 1100026 r25 ((S 1056 0))) 1100030 r25 (0 : Int)) [26, 27, 28, 29, 1046, 1047, 1100007, 1100023, 1100024, 1100025] g43) [26, 27, 28, 29, 1046, 1047, 1100007, 1100023, 1100024, 1100025, 1053, 31, 1100030, 1100009, 1100027, 1100028, 1100026, 1055, 1100033, 39, 1066] g := ⟨_, md53.eq⟩
      show sv_T sm_XS sm_cs sm_L sm_sh ((S 1100002 p1) + (600 - (S 1046 0)) + 8).toNat (q_behind p1 S) 97 206 [(0, .ref 0), (1, sv_I p1), (2, sv_I x8), (3, sv_I x11), (4, sv_I r25)] [] (sv_sts (sv_sts (sv_up (sv_up (sv_up (sv_up (sv_up (sv_sts S [1053] g21) 1100009 r25 ((S 1100007 (S 1046 0)))) 1100027 r25 ((S 1100023 (S 1046 0)))) 1100028 r25 ((S 1100025 (S 1046 0)))) 1100026 r25 ((S 1056 0))) 1100030 r25 (0 : Int)) [26, 27, 28, 29, 1046, 1047, 1100007, 1100023, 1100024, 1100025] g43) [26, 27, 28, 29, 1046, 1047, 1100007, 1100023, 1100024, 1100025, 1053, 31, 1100030, 1100009, 1100027, 1100028, 1100026, 1055, 1100033, 39, 1066] g51)
      have md55 : sv_mod [26, 27, 28, 29, 1046, 1047, 1100007, 1100023, 1100024, 1100025, 1053, 31, 1100030, 1100009, 1100027, 1100028, 1100026, 1055, 1100033, 39, 1066] S (sv_sts (sv_sts (sv_up (sv_up (sv_up (sv_up (sv_up (sv_sts S [1053] g21) 1100009 r25 ((S 1100007 (S 1046 0)))) 1100027 r25 ((S 1100023 (S 1046 0)))) 1100028 r25 ((S 1100025 (S 1046 0)))) 1100026 r25 ((S 1056 0))) 1100030 r25 (0 : Int)) [26, 27, 28, 29, 1046, 1047, 1100007, 1100023, 1100024, 1100025] g43) [26, 27, 28, 29, 1046, 1047, 1100007, 1100023, 1100024, 1100025, 1053, 31, 1100030, 1100009, 1100027, 1100028, 1100026, 1055, 1100033, 39, 1066] g51) := sv_mod.sts md47 (by decide)
      have h := h g51 hpo54
      refine sv_aload_n hM dX12_behind_206 rfl rfl ?_
      refine sv_iload hM dX12_behind_207 rfl rfl ?_
      obtain ⟨o56, h⟩ := h
      refine sv_callV hM dX12_behind_209 sm_iv_677 (by decide) (sm_a0 _) rfl rfl (Nat.le_of_ble_eq_true rfl) sm_h85 (Nat.le_of_ble_eq_true rfl) (Nat.le_of_ble_eq_true rfl) (F' := 0) (sv_Fn (n := 0) o7) rfl (t_here r25 (sv_sts (sv_sts (sv_up (sv_up (sv_up (sv_up (sv_up (sv_sts S [1053] g21) 1100009 r25 ((S 1100007 (S 1046 0)))) 1100027 r25 ((S 1100023 (S 1046 0)))) 1100028 r25 ((S 1100025 (S 1046 0)))) 1100026 r25 ((S 1056 0))) 1100030 r25 (0 : Int)) [26, 27, 28, 29, 1046, 1047, 1100007, 1100023, 1100024, 1100025] g43) [26, 27, 28, 29, 1046, 1047, 1100007, 1100023, 1100024, 1100025, 1053, 31, 1100030, 1100009, 1100027, 1100028, 1100026, 1055, 1100033, 39, 1066] g51) ok52 hr25 o56) (fun v S1 hq => ?_)
      obtain ⟨rfl, ok58, md59, hpo60⟩ := hq
      obtain ⟨g57, rfl⟩ : ∃ g, S1 = sv_sts (sv_sts (sv_sts (sv_up (sv_up (sv_up (sv_up (sv_up (sv_sts S [1053] g21) 1100009 r25 ((S 1100007 (S 1046 0)))) 1100027 r25 ((S 1100023 (S 1046 0)))) 1100028 r25 ((S 1100025 (S 1046 0)))) 1100026 r25 ((S 1056 0))) 1100030 r25 (0 : Int)) [26, 27, 28, 29, 1046, 1047, 1100007, 1100023, 1100024, 1100025] g43) [26, 27, 28, 29, 1046, 1047, 1100007, 1100023, 1100024, 1100025, 1053, 31, 1100030, 1100009, 1100027, 1100028, 1100026, 1055, 1100033, 39, 1066] g51) [31, 1100030] g := ⟨_, md59.eq⟩
      show sv_T sm_XS sm_cs sm_L sm_sh ((S 1100002 p1) + (600 - (S 1046 0)) + 8).toNat (q_behind p1 S) 97 212 [(0, .ref 0), (1, sv_I p1), (2, sv_I x8), (3, sv_I x11), (4, sv_I r25)] [] (sv_sts (sv_sts (sv_sts (sv_up (sv_up (sv_up (sv_up (sv_up (sv_sts S [1053] g21) 1100009 r25 ((S 1100007 (S 1046 0)))) 1100027 r25 ((S 1100023 (S 1046 0)))) 1100028 r25 ((S 1100025 (S 1046 0)))) 1100026 r25 ((S 1056 0))) 1100030 r25 (0 : Int)) [26, 27, 28, 29, 1046, 1047, 1100007, 1100023, 1100024, 1100025] g43) [26, 27, 28, 29, 1046, 1047, 1100007, 1100023, 1100024, 1100025, 1053, 31, 1100030, 1100009, 1100027, 1100028, 1100026, 1055, 1100033, 39, 1066] g51) [31, 1100030] g57)
      have md61 : sv_mod [26, 27, 28, 29, 1046, 1047, 1100007, 1100023, 1100024, 1100025, 1053, 31, 1100030, 1100009, 1100027, 1100028, 1100026, 1055, 1100033, 39, 1066] S (sv_sts (sv_sts (sv_sts (sv_up (sv_up (sv_up (sv_up (sv_up (sv_sts S [1053] g21) 1100009 r25 ((S 1100007 (S 1046 0)))) 1100027 r25 ((S 1100023 (S 1046 0)))) 1100028 r25 ((S 1100025 (S 1046 0)))) 1100026 r25 ((S 1056 0))) 1100030 r25 (0 : Int)) [26, 27, 28, 29, 1046, 1047, 1100007, 1100023, 1100024, 1100025] g43) [26, 27, 28, 29, 1046, 1047, 1100007, 1100023, 1100024, 1100025, 1053, 31, 1100030, 1100009, 1100027, 1100028, 1100026, 1055, 1100033, 39, 1066] g51) [31, 1100030] g57) := sv_mod.sts md55 (by decide)
      have h := h g57 hpo60
      exact sv_vret hM dX12_behind_212 rfl ⟨rfl, ok58, md61, h⟩
    · have h := h.2 (hc)
      refine sv_bipush (d := (23 : Int)) hM dX12_behind_188 rfl rfl ?_
      refine sv_goto hM dX12_behind_190 (pc' := 195) rfl ?_
      refine sv_iload hM dX12_behind_195 rfl rfl ?_
      refine sv_iconst (d := (0 : Int)) hM dX12_behind_197 rfl rfl ?_
      obtain ⟨o62, h⟩ := h
      refine sv_callV hM dX12_behind_198 sm_iv_615 (by decide) (sm_a0 _) rfl rfl (Nat.le_of_ble_eq_true rfl) sm_h82 (Nat.le_of_ble_eq_true rfl) (Nat.le_of_ble_eq_true rfl) (F' := 0) (sv_Fn (n := 0) o7) rfl (t_emit (23 : Int) r25 (0 : Int) (sv_up (sv_up (sv_up (sv_up (sv_up (sv_sts S [1053] g21) 1100009 r25 ((S 1100007 (S 1046 0)))) 1100027 r25 ((S 1100023 (S 1046 0)))) 1100028 r25 ((S 1100025 (S 1046 0)))) 1100026 r25 ((S 1056 0))) 1100030 r25 (0 : Int)) ok39 (⟨by decide, by decide⟩ : sv_R (23 : Int)) hr25 (⟨by decide, by decide⟩ : sv_R (0 : Int)) o62) (fun v S1 hq => ?_)
      obtain ⟨rfl, ok64, md65, hpo66⟩ := hq
      obtain ⟨g63, rfl⟩ : ∃ g, S1 = sv_sts (sv_up (sv_up (sv_up (sv_up (sv_up (sv_sts S [1053] g21) 1100009 r25 ((S 1100007 (S 1046 0)))) 1100027 r25 ((S 1100023 (S 1046 0)))) 1100028 r25 ((S 1100025 (S 1046 0)))) 1100026 r25 ((S 1056 0))) 1100030 r25 (0 : Int)) [26, 27, 28, 29, 1046, 1047, 1100007, 1100023, 1100024, 1100025] g := ⟨_, md65.eq⟩
      show sv_T sm_XS sm_cs sm_L sm_sh ((S 1100002 p1) + (600 - (S 1046 0)) + 8).toNat (q_behind p1 S) 97 201 [(0, .ref 0), (1, sv_I p1), (2, sv_I x8), (3, sv_I x11), (4, sv_I r25)] [] (sv_sts (sv_up (sv_up (sv_up (sv_up (sv_up (sv_sts S [1053] g21) 1100009 r25 ((S 1100007 (S 1046 0)))) 1100027 r25 ((S 1100023 (S 1046 0)))) 1100028 r25 ((S 1100025 (S 1046 0)))) 1100026 r25 ((S 1056 0))) 1100030 r25 (0 : Int)) [26, 27, 28, 29, 1046, 1047, 1100007, 1100023, 1100024, 1100025] g63)
      have md67 : sv_mod [26, 27, 28, 29, 1046, 1047, 1100007, 1100023, 1100024, 1100025, 1053, 31, 1100030, 1100009, 1100027, 1100028, 1100026, 1055, 1100033, 39, 1066] S (sv_sts (sv_up (sv_up (sv_up (sv_up (sv_up (sv_sts S [1053] g21) 1100009 r25 ((S 1100007 (S 1046 0)))) 1100027 r25 ((S 1100023 (S 1046 0)))) 1100028 r25 ((S 1100025 (S 1046 0)))) 1100026 r25 ((S 1056 0))) 1100030 r25 (0 : Int)) [26, 27, 28, 29, 1046, 1047, 1100007, 1100023, 1100024, 1100025] g63) := sv_mod.sts md40 (by decide)
      have h := h g63 hpo66
      refine sv_aload_n hM dX12_behind_201 rfl rfl ?_
      refine sv_iload_n hM dX12_behind_202 rfl rfl ?_
      obtain ⟨o68, h⟩ := h
      obtain ⟨o69, h⟩ := h
      obtain ⟨o70, h⟩ := h
      refine sv_callV hM dX12_behind_203 sm_iv_668 (by decide) (sm_a0 _) rfl rfl (Nat.le_of_ble_eq_true rfl) sm_h96 (Nat.le_of_ble_eq_true rfl) (Nat.le_of_ble_eq_true rfl) (F' := (((if (g63 1047 0) = 0 then (S 1100002 x11) + (600 - (g63 1046 0)) + 8 else 4))).toNat) (sv_Fe o70) rfl ((IH ((if (g63 1047 0) = 0 then (S 1100002 x11) + (600 - (g63 1046 0)) + 8 else 4)) o69.1 o69.2).1 x11 (sv_sts (sv_up (sv_up (sv_up (sv_up (sv_up (sv_sts S [1053] g21) 1100009 r25 ((S 1100007 (S 1046 0)))) 1100027 r25 ((S 1100023 (S 1046 0)))) 1100028 r25 ((S 1100025 (S 1046 0)))) 1100026 r25 ((S 1056 0))) 1100030 r25 (0 : Int)) [26, 27, 28, 29, 1046, 1047, 1100007, 1100023, 1100024, 1100025] g63) ok64 e12r o68 rfl) (fun v S1 hq => ?_)
      obtain ⟨rfl, ok72, md73, hpo74⟩ := hq
      obtain ⟨g71, rfl⟩ : ∃ g, S1 = sv_sts (sv_sts (sv_up (sv_up (sv_up (sv_up (sv_up (sv_sts S [1053] g21) 1100009 r25 ((S 1100007 (S 1046 0)))) 1100027 r25 ((S 1100023 (S 1046 0)))) 1100028 r25 ((S 1100025 (S 1046 0)))) 1100026 r25 ((S 1056 0))) 1100030 r25 (0 : Int)) [26, 27, 28, 29, 1046, 1047, 1100007, 1100023, 1100024, 1100025] g63) [26, 27, 28, 29, 1046, 1047, 1100007, 1100023, 1100024, 1100025, 1053, 31, 1100030, 1100009, 1100027, 1100028, 1100026, 1055, 1100033, 39, 1066] g := ⟨_, md73.eq⟩
      show sv_T sm_XS sm_cs sm_L sm_sh ((S 1100002 p1) + (600 - (S 1046 0)) + 8).toNat (q_behind p1 S) 97 206 [(0, .ref 0), (1, sv_I p1), (2, sv_I x8), (3, sv_I x11), (4, sv_I r25)] [] (sv_sts (sv_sts (sv_up (sv_up (sv_up (sv_up (sv_up (sv_sts S [1053] g21) 1100009 r25 ((S 1100007 (S 1046 0)))) 1100027 r25 ((S 1100023 (S 1046 0)))) 1100028 r25 ((S 1100025 (S 1046 0)))) 1100026 r25 ((S 1056 0))) 1100030 r25 (0 : Int)) [26, 27, 28, 29, 1046, 1047, 1100007, 1100023, 1100024, 1100025] g63) [26, 27, 28, 29, 1046, 1047, 1100007, 1100023, 1100024, 1100025, 1053, 31, 1100030, 1100009, 1100027, 1100028, 1100026, 1055, 1100033, 39, 1066] g71)
      have md75 : sv_mod [26, 27, 28, 29, 1046, 1047, 1100007, 1100023, 1100024, 1100025, 1053, 31, 1100030, 1100009, 1100027, 1100028, 1100026, 1055, 1100033, 39, 1066] S (sv_sts (sv_sts (sv_up (sv_up (sv_up (sv_up (sv_up (sv_sts S [1053] g21) 1100009 r25 ((S 1100007 (S 1046 0)))) 1100027 r25 ((S 1100023 (S 1046 0)))) 1100028 r25 ((S 1100025 (S 1046 0)))) 1100026 r25 ((S 1056 0))) 1100030 r25 (0 : Int)) [26, 27, 28, 29, 1046, 1047, 1100007, 1100023, 1100024, 1100025] g63) [26, 27, 28, 29, 1046, 1047, 1100007, 1100023, 1100024, 1100025, 1053, 31, 1100030, 1100009, 1100027, 1100028, 1100026, 1055, 1100033, 39, 1066] g71) := sv_mod.sts md67 (by decide)
      have h := h g71 hpo74
      refine sv_aload_n hM dX12_behind_206 rfl rfl ?_
      refine sv_iload hM dX12_behind_207 rfl rfl ?_
      obtain ⟨o76, h⟩ := h
      refine sv_callV hM dX12_behind_209 sm_iv_677 (by decide) (sm_a0 _) rfl rfl (Nat.le_of_ble_eq_true rfl) sm_h85 (Nat.le_of_ble_eq_true rfl) (Nat.le_of_ble_eq_true rfl) (F' := 0) (sv_Fn (n := 0) o7) rfl (t_here r25 (sv_sts (sv_sts (sv_up (sv_up (sv_up (sv_up (sv_up (sv_sts S [1053] g21) 1100009 r25 ((S 1100007 (S 1046 0)))) 1100027 r25 ((S 1100023 (S 1046 0)))) 1100028 r25 ((S 1100025 (S 1046 0)))) 1100026 r25 ((S 1056 0))) 1100030 r25 (0 : Int)) [26, 27, 28, 29, 1046, 1047, 1100007, 1100023, 1100024, 1100025] g63) [26, 27, 28, 29, 1046, 1047, 1100007, 1100023, 1100024, 1100025, 1053, 31, 1100030, 1100009, 1100027, 1100028, 1100026, 1055, 1100033, 39, 1066] g71) ok72 hr25 o76) (fun v S1 hq => ?_)
      obtain ⟨rfl, ok78, md79, hpo80⟩ := hq
      obtain ⟨g77, rfl⟩ : ∃ g, S1 = sv_sts (sv_sts (sv_sts (sv_up (sv_up (sv_up (sv_up (sv_up (sv_sts S [1053] g21) 1100009 r25 ((S 1100007 (S 1046 0)))) 1100027 r25 ((S 1100023 (S 1046 0)))) 1100028 r25 ((S 1100025 (S 1046 0)))) 1100026 r25 ((S 1056 0))) 1100030 r25 (0 : Int)) [26, 27, 28, 29, 1046, 1047, 1100007, 1100023, 1100024, 1100025] g63) [26, 27, 28, 29, 1046, 1047, 1100007, 1100023, 1100024, 1100025, 1053, 31, 1100030, 1100009, 1100027, 1100028, 1100026, 1055, 1100033, 39, 1066] g71) [31, 1100030] g := ⟨_, md79.eq⟩
      show sv_T sm_XS sm_cs sm_L sm_sh ((S 1100002 p1) + (600 - (S 1046 0)) + 8).toNat (q_behind p1 S) 97 212 [(0, .ref 0), (1, sv_I p1), (2, sv_I x8), (3, sv_I x11), (4, sv_I r25)] [] (sv_sts (sv_sts (sv_sts (sv_up (sv_up (sv_up (sv_up (sv_up (sv_sts S [1053] g21) 1100009 r25 ((S 1100007 (S 1046 0)))) 1100027 r25 ((S 1100023 (S 1046 0)))) 1100028 r25 ((S 1100025 (S 1046 0)))) 1100026 r25 ((S 1056 0))) 1100030 r25 (0 : Int)) [26, 27, 28, 29, 1046, 1047, 1100007, 1100023, 1100024, 1100025] g63) [26, 27, 28, 29, 1046, 1047, 1100007, 1100023, 1100024, 1100025, 1053, 31, 1100030, 1100009, 1100027, 1100028, 1100026, 1055, 1100033, 39, 1066] g71) [31, 1100030] g77)
      have md81 : sv_mod [26, 27, 28, 29, 1046, 1047, 1100007, 1100023, 1100024, 1100025, 1053, 31, 1100030, 1100009, 1100027, 1100028, 1100026, 1055, 1100033, 39, 1066] S (sv_sts (sv_sts (sv_sts (sv_up (sv_up (sv_up (sv_up (sv_up (sv_sts S [1053] g21) 1100009 r25 ((S 1100007 (S 1046 0)))) 1100027 r25 ((S 1100023 (S 1046 0)))) 1100028 r25 ((S 1100025 (S 1046 0)))) 1100026 r25 ((S 1056 0))) 1100030 r25 (0 : Int)) [26, 27, 28, 29, 1046, 1047, 1100007, 1100023, 1100024, 1100025] g63) [26, 27, 28, 29, 1046, 1047, 1100007, 1100023, 1100024, 1100025, 1053, 31, 1100030, 1100009, 1100027, 1100028, 1100026, 1055, 1100033, 39, 1066] g71) [31, 1100030] g77) := sv_mod.sts md75 (by decide)
      have h := h g77 hpo80
      exact sv_vret hM dX12_behind_212 rfl ⟨rfl, ok78, md81, h⟩
  have J1 : ((S 11 p1) = (3 : Int)) → sv_T sm_XS sm_cs sm_L sm_sh ((S 1100002 p1) + (600 - (S 1046 0)) + 8).toNat (q_behind p1 S) 97 72 [(0, .ref 0), (1, sv_I p1), (2, sv_I x8), (3, sv_I x11)] [] S := by
    intro hc
    have h := hS.2.1 hc
    have k82 : (x11 = (S 12 (5 * p1 + 1)) → sm_WF (S 11) (S 12) (S 13) (S 1100001) (S 1100002) (S 1100005) (S 1100003) (S 1100004) (S 1024 0) (S 1007 0) (S 1009 0) (sm_fn (S 1032 0) (S 21) (S 1056 0)) → 0 ≤ p1 → p1 < (S 1024 0) → (S 1100001 p1) = 1 → (S 11 p1) = 3 → sm_ex (S 1100001) (S 1100002) (S 1100005) (S 1024 0) 1 ((S 12 (5 * (p1)))) ((S 1100002 (p1))) ((S 1100005 (p1))) ∧ (S 12 (5 * (p1))) < (p1) ∧ sm_ex (S 1100001) (S 1100002) (S 1100005) (S 1024 0) 1 (x11) ((S 1100002 (p1))) ((S 1100005 (p1)))) := fun e_l3 => by rw [e_l3]; exact (fun h a0 a1 a2 a3 => sm_g1_3 h _ a0 a1 a2 a3)
    have h := h k82
    have k83 : (x11 = (S 12 (5 * p1 + 1)) → sm_WF (S 11) (S 12) (S 13) (S 1100001) (S 1100002) (S 1100005) (S 1100003) (S 1100004) (S 1024 0) (S 1007 0) (S 1009 0) (sm_fn (S 1032 0) (S 21) (S 1056 0)) → 0 ≤ p1 → p1 < (S 1024 0) → ((S 1100001 (p1)) = 1 → 0 ≤ (S 1100002 (p1)) ∧ ((S 11 (p1)) = 3 → x11 < (p1)) ∧ ((S 11 (p1)) = 4 ∨ (S 11 (p1)) = 5 ∨ (S 11 (p1)) = 8 ∨ (S 11 (p1)) = 9 → 17 * (S 1100005 (p1)) + 2 ≤ (S 1100002 (p1))) ∧ 0 ≤ (S 1100005 (p1))) ∧ ((S 1100001 (p1)) = 2 → 0 ≤ (S 1100005 (p1)) ∧ (S 1100002 (p1)) ≤ 17 * (S 1100005 (p1)) + 5 ∧ ((S 11 (p1)) = 33 → 1 ≤ (S 1100005 (p1)))) ∧ ((S 1100001 (p1)) = 6 → 0 ≤ (S 1100002 (p1)) ∧ 1 ≤ (S 1100004 (p1)) ∧ ((S 12 (5 * (p1))) = - 1 → (S 1100004 (p1)) = 2)) ∧ ((S 1100001 (p1)) = 3 → 1 ≤ (S 1100002 (p1)))) := fun e_l3 => by rw [e_l3]; exact (fun h a0 a1 => sm_gx h _ a0 a1)
    have h := h k83
    have k84 : (sm_WF (S 11) (S 12) (S 13) (S 1100001) (S 1100002) (S 1100005) (S 1100003) (S 1100004) (S 1024 0) (S 1007 0) (S 1009 0) (sm_fn (S 1032 0) (S 21) (S 1056 0)) → 0 ≤ x11 → x11 < (S 1024 0) → ((S 1100001 (x11)) = 1 → 0 ≤ (S 1100002 (x11)) ∧ ((S 11 (x11)) = 3 → (S 12 (5 * (x11) + 1)) < (x11)) ∧ ((S 11 (x11)) = 4 ∨ (S 11 (x11)) = 5 ∨ (S 11 (x11)) = 8 ∨ (S 11 (x11)) = 9 → 17 * (S 1100005 (x11)) + 2 ≤ (S 1100002 (x11))) ∧ 0 ≤ (S 1100005 (x11))) ∧ ((S 1100001 (x11)) = 2 → 0 ≤ (S 1100005 (x11)) ∧ (S 1100002 (x11)) ≤ 17 * (S 1100005 (x11)) + 5 ∧ ((S 11 (x11)) = 33 → 1 ≤ (S 1100005 (x11)))) ∧ ((S 1100001 (x11)) = 6 → 0 ≤ (S 1100002 (x11)) ∧ 1 ≤ (S 1100004 (x11)) ∧ ((S 12 (5 * (x11))) = - 1 → (S 1100004 (x11)) = 2)) ∧ ((S 1100001 (x11)) = 3 → 1 ≤ (S 1100002 (x11)))) := fun h a0 a1 => sm_gx h _ a0 a1
    have h := h k84
    refine sv_aload_n hM dX12_behind_72 rfl rfl ?_
    refine sv_bipush (d := (17 : Int)) hM dX12_behind_73 rfl rfl ?_
    obtain ⟨o85, h⟩ := h
    obtain ⟨o86, h⟩ := h
    refine sv_callV hM dX12_behind_75 sm_iv_666 (by decide) (sm_a0 _) rfl rfl (Nat.le_of_ble_eq_true rfl) sm_h83 (Nat.le_of_ble_eq_true rfl) (Nat.le_of_ble_eq_true rfl) (F' := 1) (sv_Fn (n := 1) o86) rfl (t_emit_ (17 : Int) S hok (⟨by decide, by decide⟩ : sv_R (17 : Int)) o85) (fun v S1 hq => ?_)
    obtain ⟨rfl, ok88, md89, hpo90⟩ := hq
    obtain ⟨g87, rfl⟩ : ∃ g, S1 = sv_sts S [26, 27, 28, 29, 1046, 1047, 1100007, 1100023, 1100024, 1100025] g := ⟨_, md89.eq⟩
    show sv_T sm_XS sm_cs sm_L sm_sh ((S 1100002 p1) + (600 - (S 1046 0)) + 8).toNat (q_behind p1 S) 97 78 [(0, .ref 0), (1, sv_I p1), (2, sv_I x8), (3, sv_I x11)] [] (sv_sts S [26, 27, 28, 29, 1046, 1047, 1100007, 1100023, 1100024, 1100025] g87)
    have md91 : sv_mod [26, 27, 28, 29, 1046, 1047, 1100007, 1100023, 1100024, 1100025, 1053, 31, 1100030, 1100009, 1100027, 1100028, 1100026, 1055, 1100033, 39, 1066] S (sv_sts S [26, 27, 28, 29, 1046, 1047, 1100007, 1100023, 1100024, 1100025] g87) := sv_mod.sts sv_mod.rf (by decide)
    have h := h g87 hpo90
    refine sv_aload_n hM dX12_behind_78 rfl rfl ?_
    refine sv_iload_n hM dX12_behind_79 rfl rfl ?_
    obtain ⟨o92, h⟩ := h
    obtain ⟨o93, h⟩ := h
    obtain ⟨o94, h⟩ := h
    refine sv_callV hM dX12_behind_80 sm_iv_668 (by decide) (sm_a0 _) rfl rfl (Nat.le_of_ble_eq_true rfl) sm_h96 (Nat.le_of_ble_eq_true rfl) (Nat.le_of_ble_eq_true rfl) (F' := (((if (g87 1047 0) = 0 then (S 1100002 x11) + (600 - (g87 1046 0)) + 8 else 4))).toNat) (sv_Fe o94) rfl ((IH ((if (g87 1047 0) = 0 then (S 1100002 x11) + (600 - (g87 1046 0)) + 8 else 4)) o93.1 o93.2).1 x11 (sv_sts S [26, 27, 28, 29, 1046, 1047, 1100007, 1100023, 1100024, 1100025] g87) ok88 e12r o92 rfl) (fun v S1 hq => ?_)
    obtain ⟨rfl, ok96, md97, hpo98⟩ := hq
    obtain ⟨g95, rfl⟩ : ∃ g, S1 = sv_sts (sv_sts S [26, 27, 28, 29, 1046, 1047, 1100007, 1100023, 1100024, 1100025] g87) [26, 27, 28, 29, 1046, 1047, 1100007, 1100023, 1100024, 1100025, 1053, 31, 1100030, 1100009, 1100027, 1100028, 1100026, 1055, 1100033, 39, 1066] g := ⟨_, md97.eq⟩
    show sv_T sm_XS sm_cs sm_L sm_sh ((S 1100002 p1) + (600 - (S 1046 0)) + 8).toNat (q_behind p1 S) 97 83 [(0, .ref 0), (1, sv_I p1), (2, sv_I x8), (3, sv_I x11)] [] (sv_sts (sv_sts S [26, 27, 28, 29, 1046, 1047, 1100007, 1100023, 1100024, 1100025] g87) [26, 27, 28, 29, 1046, 1047, 1100007, 1100023, 1100024, 1100025, 1053, 31, 1100030, 1100009, 1100027, 1100028, 1100026, 1055, 1100033, 39, 1066] g95)
    have md99 : sv_mod [26, 27, 28, 29, 1046, 1047, 1100007, 1100023, 1100024, 1100025, 1053, 31, 1100030, 1100009, 1100027, 1100028, 1100026, 1055, 1100033, 39, 1066] S (sv_sts (sv_sts S [26, 27, 28, 29, 1046, 1047, 1100007, 1100023, 1100024, 1100025] g87) [26, 27, 28, 29, 1046, 1047, 1100007, 1100023, 1100024, 1100025, 1053, 31, 1100030, 1100009, 1100027, 1100028, 1100026, 1055, 1100033, 39, 1066] g95) := sv_mod.sts md91 (by decide)
    have h := h g95 hpo98
    refine sv_goto hM dX12_behind_83 (pc' := 212) rfl ?_
    exact sv_vret hM dX12_behind_212 rfl ⟨rfl, ok96, md99, h⟩
  have J2 : ((S 11 p1) = (7 : Int)) → sv_T sm_XS sm_cs sm_L sm_sh ((S 1100002 p1) + (600 - (S 1046 0)) + 8).toNat (q_behind p1 S) 97 86 [(0, .ref 0), (1, sv_I p1), (2, sv_I x8), (3, sv_I x11)] [] S := by
    intro hc
    have h := hS.2.2.1 hc
    have k100 : (x11 = (S 12 (5 * p1 + 1)) → sm_WF (S 11) (S 12) (S 13) (S 1100001) (S 1100002) (S 1100005) (S 1100003) (S 1100004) (S 1024 0) (S 1007 0) (S 1009 0) (sm_fn (S 1032 0) (S 21) (S 1056 0)) → 0 ≤ p1 → p1 < (S 1024 0) → (S 1100001 p1) = 1 → (S 11 p1) = 7 → sm_ex (S 1100001) (S 1100002) (S 1100005) (S 1024 0) 1 ((S 12 (5 * (p1)))) ((S 1100002 (p1))) ((S 1100005 (p1))) ∧ (S 12 (5 * (p1))) < (p1) ∧ sm_ex (S 1100001) (S 1100002) (S 1100005) (S 1024 0) 1 (x11) (((S 1100002 (p1))) - 1) ((S 1100005 (p1))) ∧ x11 < (p1)) := fun e_l3 => by rw [e_l3]; exact (fun h a0 a1 a2 a3 => sm_g1_7 h _ a0 a1 a2 a3)
    have h := h k100
    have k101 : (sm_WF (S 11) (S 12) (S 13) (S 1100001) (S 1100002) (S 1100005) (S 1100003) (S 1100004) (S 1024 0) (S 1007 0) (S 1009 0) (sm_fn (S 1032 0) (S 21) (S 1056 0)) → 0 ≤ x11 → x11 < (S 1024 0) → ((S 1100001 (x11)) = 1 → 0 ≤ (S 1100002 (x11)) ∧ ((S 11 (x11)) = 3 → (S 12 (5 * (x11) + 1)) < (x11)) ∧ ((S 11 (x11)) = 4 ∨ (S 11 (x11)) = 5 ∨ (S 11 (x11)) = 8 ∨ (S 11 (x11)) = 9 → 17 * (S 1100005 (x11)) + 2 ≤ (S 1100002 (x11))) ∧ 0 ≤ (S 1100005 (x11))) ∧ ((S 1100001 (x11)) = 2 → 0 ≤ (S 1100005 (x11)) ∧ (S 1100002 (x11)) ≤ 17 * (S 1100005 (x11)) + 5 ∧ ((S 11 (x11)) = 33 → 1 ≤ (S 1100005 (x11)))) ∧ ((S 1100001 (x11)) = 6 → 0 ≤ (S 1100002 (x11)) ∧ 1 ≤ (S 1100004 (x11)) ∧ ((S 12 (5 * (x11))) = - 1 → (S 1100004 (x11)) = 2)) ∧ ((S 1100001 (x11)) = 3 → 1 ≤ (S 1100002 (x11)))) := fun h a0 a1 => sm_gx h _ a0 a1
    have h := h k101
    refine sv_aload_n hM dX12_behind_86 rfl rfl ?_
    refine sv_iload_n hM dX12_behind_87 rfl rfl ?_
    obtain ⟨o102, h⟩ := h
    obtain ⟨o103, h⟩ := h
    obtain ⟨o104, h⟩ := h
    refine sv_callV hM dX12_behind_88 sm_iv_668 (by decide) (sm_a0 _) rfl rfl (Nat.le_of_ble_eq_true rfl) sm_h96 (Nat.le_of_ble_eq_true rfl) (Nat.le_of_ble_eq_true rfl) (F' := (((if (S 1047 0) = 0 then (S 1100002 x11) + (600 - (S 1046 0)) + 8 else 4))).toNat) (sv_Fe o104) rfl ((IH ((if (S 1047 0) = 0 then (S 1100002 x11) + (600 - (S 1046 0)) + 8 else 4)) o103.1 o103.2).1 x11 S hok e12r o102 rfl) (fun v S1 hq => ?_)
    obtain ⟨rfl, ok106, md107, hpo108⟩ := hq
    obtain ⟨g105, rfl⟩ : ∃ g, S1 = sv_sts S [26, 27, 28, 29, 1046, 1047, 1100007, 1100023, 1100024, 1100025, 1053, 31, 1100030, 1100009, 1100027, 1100028, 1100026, 1055, 1100033, 39, 1066] g := ⟨_, md107.eq⟩
    show sv_T sm_XS sm_cs sm_L sm_sh ((S 1100002 p1) + (600 - (S 1046 0)) + 8).toNat (q_behind p1 S) 97 91 [(0, .ref 0), (1, sv_I p1), (2, sv_I x8), (3, sv_I x11)] [] (sv_sts S [26, 27, 28, 29, 1046, 1047, 1100007, 1100023, 1100024, 1100025, 1053, 31, 1100030, 1100009, 1100027, 1100028, 1100026, 1055, 1100033, 39, 1066] g105)
    have md109 : sv_mod [26, 27, 28, 29, 1046, 1047, 1100007, 1100023, 1100024, 1100025, 1053, 31, 1100030, 1100009, 1100027, 1100028, 1100026, 1055, 1100033, 39, 1066] S (sv_sts S [26, 27, 28, 29, 1046, 1047, 1100007, 1100023, 1100024, 1100025, 1053, 31, 1100030, 1100009, 1100027, 1100028, 1100026, 1055, 1100033, 39, 1066] g105) := sv_mod.sts sv_mod.rf (by decide)
    have h := h g105 hpo108
    refine sv_aload_n hM dX12_behind_91 rfl rfl ?_
    refine sv_bipush (d := (10 : Int)) hM dX12_behind_92 rfl rfl ?_
    obtain ⟨o110, h⟩ := h
    obtain ⟨o111, h⟩ := h
    refine sv_callV hM dX12_behind_94 sm_iv_666 (by decide) (sm_a0 _) rfl rfl (Nat.le_of_ble_eq_true rfl) sm_h83 (Nat.le_of_ble_eq_true rfl) (Nat.le_of_ble_eq_true rfl) (F' := 1) (sv_Fn (n := 1) o111) rfl (t_emit_ (10 : Int) (sv_sts S [26, 27, 28, 29, 1046, 1047, 1100007, 1100023, 1100024, 1100025, 1053, 31, 1100030, 1100009, 1100027, 1100028, 1100026, 1055, 1100033, 39, 1066] g105) ok106 (⟨by decide, by decide⟩ : sv_R (10 : Int)) o110) (fun v S1 hq => ?_)
    obtain ⟨rfl, ok113, md114, hpo115⟩ := hq
    obtain ⟨g112, rfl⟩ : ∃ g, S1 = sv_sts (sv_sts S [26, 27, 28, 29, 1046, 1047, 1100007, 1100023, 1100024, 1100025, 1053, 31, 1100030, 1100009, 1100027, 1100028, 1100026, 1055, 1100033, 39, 1066] g105) [26, 27, 28, 29, 1046, 1047, 1100007, 1100023, 1100024, 1100025] g := ⟨_, md114.eq⟩
    show sv_T sm_XS sm_cs sm_L sm_sh ((S 1100002 p1) + (600 - (S 1046 0)) + 8).toNat (q_behind p1 S) 97 97 [(0, .ref 0), (1, sv_I p1), (2, sv_I x8), (3, sv_I x11)] [] (sv_sts (sv_sts S [26, 27, 28, 29, 1046, 1047, 1100007, 1100023, 1100024, 1100025, 1053, 31, 1100030, 1100009, 1100027, 1100028, 1100026, 1055, 1100033, 39, 1066] g105) [26, 27, 28, 29, 1046, 1047, 1100007, 1100023, 1100024, 1100025] g112)
    have md116 : sv_mod [26, 27, 28, 29, 1046, 1047, 1100007, 1100023, 1100024, 1100025, 1053, 31, 1100030, 1100009, 1100027, 1100028, 1100026, 1055, 1100033, 39, 1066] S (sv_sts (sv_sts S [26, 27, 28, 29, 1046, 1047, 1100007, 1100023, 1100024, 1100025, 1053, 31, 1100030, 1100009, 1100027, 1100028, 1100026, 1055, 1100033, 39, 1066] g105) [26, 27, 28, 29, 1046, 1047, 1100007, 1100023, 1100024, 1100025] g112) := sv_mod.sts md109 (by decide)
    have h := h g112 hpo115
    refine sv_goto hM dX12_behind_97 (pc' := 212) rfl ?_
    exact sv_vret hM dX12_behind_212 rfl ⟨rfl, ok113, md116, h⟩
  have J3 : ((S 11 p1) = (11 : Int)) → sv_T sm_XS sm_cs sm_L sm_sh ((S 1100002 p1) + (600 - (S 1046 0)) + 8).toNat (q_behind p1 S) 97 100 [(0, .ref 0), (1, sv_I p1), (2, sv_I x8), (3, sv_I x11)] [] S := by
    intro hc
    have h := hS.2.2.2.1 hc
    have k117 : (sm_WF (S 11) (S 12) (S 13) (S 1100001) (S 1100002) (S 1100005) (S 1100003) (S 1100004) (S 1024 0) (S 1007 0) (S 1009 0) (sm_fn (S 1032 0) (S 21) (S 1056 0)) → 0 ≤ p1 → p1 < (S 1024 0) → (S 1100001 p1) = 1 → (S 11 p1) = 11 → sm_ex (S 1100001) (S 1100002) (S 1100005) (S 1024 0) 1 ((S 12 (5 * (p1) + 1))) ((S 1100002 (p1))) ((S 1100005 (p1))) ∧ (S 12 (5 * (p1) + 1)) < (p1) ∧ sm_ex (S 1100001) (S 1100002) (S 1100005) (S 1024 0) 1 ((S 12 (5 * (p1) + 2))) (((S 1100002 (p1))) - 1) ((S 1100005 (p1))) ∧ 0 ≤ (S 12 (5 * (p1))) ∧ (S 12 (5 * (p1))) ≤ 20) := fun h a0 a1 a2 a3 => sm_g1_11 h _ a0 a1 a2 a3
    have h := h k117
    have k118 : (x8 = (S 12 (5 * p1 + 0)) → sm_WF (S 11) (S 12) (S 13) (S 1100001) (S 1100002) (S 1100005) (S 1100003) (S 1100004) (S 1024 0) (S 1007 0) (S 1009 0) (sm_fn (S 1032 0) (S 21) (S 1056 0)) → 0 ≤ p1 → p1 < (S 1024 0) → (S 1100001 p1) = 1 → (S 11 p1) = 11 → sm_ex (S 1100001) (S 1100002) (S 1100005) (S 1024 0) 1 ((S 12 (5 * (p1) + 1))) ((S 1100002 (p1))) ((S 1100005 (p1))) ∧ (S 12 (5 * (p1) + 1)) < (p1) ∧ sm_ex (S 1100001) (S 1100002) (S 1100005) (S 1024 0) 1 ((S 12 (5 * (p1) + 2))) (((S 1100002 (p1))) - 1) ((S 1100005 (p1))) ∧ 0 ≤ x8 ∧ x8 ≤ 20) := fun e_l2 => by rw [Int.add_zero] at e_l2; rw [e_l2]; exact (fun h a0 a1 a2 a3 => sm_g1_11 h _ a0 a1 a2 a3)
    have h := h k118
    have k119 : (sm_WF (S 11) (S 12) (S 13) (S 1100001) (S 1100002) (S 1100005) (S 1100003) (S 1100004) (S 1024 0) (S 1007 0) (S 1009 0) (sm_fn (S 1032 0) (S 21) (S 1056 0)) → 0 ≤ (S 12 (5 * p1 + 2)) → (S 12 (5 * p1 + 2)) < (S 1024 0) → ((S 1100001 ((S 12 (5 * p1 + 2)))) = 1 → 0 ≤ (S 1100002 ((S 12 (5 * p1 + 2)))) ∧ ((S 11 ((S 12 (5 * p1 + 2)))) = 3 → (S 12 (5 * ((S 12 (5 * p1 + 2))) + 1)) < ((S 12 (5 * p1 + 2)))) ∧ ((S 11 ((S 12 (5 * p1 + 2)))) = 4 ∨ (S 11 ((S 12 (5 * p1 + 2)))) = 5 ∨ (S 11 ((S 12 (5 * p1 + 2)))) = 8 ∨ (S 11 ((S 12 (5 * p1 + 2)))) = 9 → 17 * (S 1100005 ((S 12 (5 * p1 + 2)))) + 2 ≤ (S 1100002 ((S 12 (5 * p1 + 2))))) ∧ 0 ≤ (S 1100005 ((S 12 (5 * p1 + 2))))) ∧ ((S 1100001 ((S 12 (5 * p1 + 2)))) = 2 → 0 ≤ (S 1100005 ((S 12 (5 * p1 + 2)))) ∧ (S 1100002 ((S 12 (5 * p1 + 2)))) ≤ 17 * (S 1100005 ((S 12 (5 * p1 + 2)))) + 5 ∧ ((S 11 ((S 12 (5 * p1 + 2)))) = 33 → 1 ≤ (S 1100005 ((S 12 (5 * p1 + 2)))))) ∧ ((S 1100001 ((S 12 (5 * p1 + 2)))) = 6 → 0 ≤ (S 1100002 ((S 12 (5 * p1 + 2)))) ∧ 1 ≤ (S 1100004 ((S 12 (5 * p1 + 2)))) ∧ ((S 12 (5 * ((S 12 (5 * p1 + 2))))) = - 1 → (S 1100004 ((S 12 (5 * p1 + 2)))) = 2)) ∧ ((S 1100001 ((S 12 (5 * p1 + 2)))) = 3 → 1 ≤ (S 1100002 ((S 12 (5 * p1 + 2)))))) := fun h a0 a1 => sm_gx h _ a0 a1
    have h := h k119
    refine sv_aload_n hM dX12_behind_100 rfl rfl ?_
    refine sv_aload_n hM dX12_behind_101 rfl rfl ?_
    refine sv_iload_n hM dX12_behind_102 rfl rfl ?_
    refine sv_iconst (d := (2 : Int)) hM dX12_behind_103 rfl rfl ?_
    obtain ⟨o120, h⟩ := h
    refine sv_callV hM dX12_behind_104 sm_iv_644 (by decide) (sm_a0 _) rfl rfl (Nat.le_of_ble_eq_true rfl) sm_h34 (Nat.le_of_ble_eq_true rfl) (Nat.le_of_ble_eq_true rfl) (F' := 0) (sv_Fn (n := 0) o7) rfl (t_part p1 (2 : Int) S hok hp1 (⟨by decide, by decide⟩ : sv_R (2 : Int)) o120) (fun v S1 hq => ?_)
    obtain ⟨rfl, hS1⟩ := hq
    obtain rfl : S = S1 := hS1.symm
    show sv_T sm_XS sm_cs sm_L sm_sh ((S 1100002 p1) + (600 - (S 1046 0)) + 8).toNat (q_behind p1 S) 97 107 [(0, .ref 0), (1, sv_I p1), (2, sv_I x8), (3, sv_I x11)] [sv_I ((S 12 (5 * p1 + (2 : Int)))), .ref 0] S
    obtain ⟨o121, h⟩ := h
    obtain ⟨o122, h⟩ := h
    obtain ⟨o123, h⟩ := h
    refine sv_callV hM dX12_behind_107 sm_iv_668 (by decide) (sm_a0 _) rfl rfl (Nat.le_of_ble_eq_true rfl) sm_h96 (Nat.le_of_ble_eq_true rfl) (Nat.le_of_ble_eq_true rfl) (F' := (((if (S 1047 0) = 0 then (S 1100002 ((S 12 (5 * p1 + (2 : Int))))) + (600 - (S 1046 0)) + 8 else 4))).toNat) (sv_Fe o123) rfl ((IH ((if (S 1047 0) = 0 then (S 1100002 ((S 12 (5 * p1 + (2 : Int))))) + (600 - (S 1046 0)) + 8 else 4)) o122.1 o122.2).1 ((S 12 (5 * p1 + (2 : Int)))) S hok (sm_okI hok sm_r12 _) o121 rfl) (fun v S1 hq => ?_)
    obtain ⟨rfl, ok125, md126, hpo127⟩ := hq
    obtain ⟨g124, rfl⟩ : ∃ g, S1 = sv_sts S [26, 27, 28, 29, 1046, 1047, 1100007, 1100023, 1100024, 1100025, 1053, 31, 1100030, 1100009, 1100027, 1100028, 1100026, 1055, 1100033, 39, 1066] g := ⟨_, md126.eq⟩
    show sv_T sm_XS sm_cs sm_L sm_sh ((S 1100002 p1) + (600 - (S 1046 0)) + 8).toNat (q_behind p1 S) 97 110 [(0, .ref 0), (1, sv_I p1), (2, sv_I x8), (3, sv_I x11)] [] (sv_sts S [26, 27, 28, 29, 1046, 1047, 1100007, 1100023, 1100024, 1100025, 1053, 31, 1100030, 1100009, 1100027, 1100028, 1100026, 1055, 1100033, 39, 1066] g124)
    have md128 : sv_mod [26, 27, 28, 29, 1046, 1047, 1100007, 1100023, 1100024, 1100025, 1053, 31, 1100030, 1100009, 1100027, 1100028, 1100026, 1055, 1100033, 39, 1066] S (sv_sts S [26, 27, 28, 29, 1046, 1047, 1100007, 1100023, 1100024, 1100025, 1053, 31, 1100030, 1100009, 1100027, 1100028, 1100026, 1055, 1100033, 39, 1066] g124) := sv_mod.sts sv_mod.rf (by decide)
    have h := h g124 hpo127
    refine sv_aload_n hM dX12_behind_110 rfl rfl ?_
    refine sv_bipush (d := (14 : Int)) hM dX12_behind_111 rfl rfl ?_
    refine sv_iload_n hM dX12_behind_113 rfl rfl ?_
    refine sv_iconst (d := (0 : Int)) hM dX12_behind_114 rfl rfl ?_
    obtain ⟨o129, h⟩ := h
    refine sv_callV hM dX12_behind_115 sm_iv_615 (by decide) (sm_a0 _) rfl rfl (Nat.le_of_ble_eq_true rfl) sm_h82 (Nat.le_of_ble_eq_true rfl) (Nat.le_of_ble_eq_true rfl) (F' := 0) (sv_Fn (n := 0) o7) rfl (t_emit (14 : Int) x8 (0 : Int) (sv_sts S [26, 27, 28, 29, 1046, 1047, 1100007, 1100023, 1100024, 1100025, 1053, 31, 1100030, 1100009, 1100027, 1100028, 1100026, 1055, 1100033, 39, 1066] g124) ok125 (⟨by decide, by decide⟩ : sv_R (14 : Int)) e9r (⟨by decide, by decide⟩ : sv_R (0 : Int)) o129) (fun v S1 hq => ?_)
    obtain ⟨rfl, ok131, md132, hpo133⟩ := hq
    obtain ⟨g130, rfl⟩ : ∃ g, S1 = sv_sts (sv_sts S [26, 27, 28, 29, 1046, 1047, 1100007, 1100023, 1100024, 1100025, 1053, 31, 1100030, 1100009, 1100027, 1100028, 1100026, 1055, 1100033, 39, 1066] g124) [26, 27, 28, 29, 1046, 1047, 1100007, 1100023, 1100024, 1100025] g := ⟨_, md132.eq⟩
    show sv_T sm_XS sm_cs sm_L sm_sh ((S 1100002 p1) + (600 - (S 1046 0)) + 8).toNat (q_behind p1 S) 97 118 [(0, .ref 0), (1, sv_I p1), (2, sv_I x8), (3, sv_I x11)] [] (sv_sts (sv_sts S [26, 27, 28, 29, 1046, 1047, 1100007, 1100023, 1100024, 1100025, 1053, 31, 1100030, 1100009, 1100027, 1100028, 1100026, 1055, 1100033, 39, 1066] g124) [26, 27, 28, 29, 1046, 1047, 1100007, 1100023, 1100024, 1100025] g130)
    have md134 : sv_mod [26, 27, 28, 29, 1046, 1047, 1100007, 1100023, 1100024, 1100025, 1053, 31, 1100030, 1100009, 1100027, 1100028, 1100026, 1055, 1100033, 39, 1066] S (sv_sts (sv_sts S [26, 27, 28, 29, 1046, 1047, 1100007, 1100023, 1100024, 1100025, 1053, 31, 1100030, 1100009, 1100027, 1100028, 1100026, 1055, 1100033, 39, 1066] g124) [26, 27, 28, 29, 1046, 1047, 1100007, 1100023, 1100024, 1100025] g130) := sv_mod.sts md128 (by decide)
    have h := h g130 hpo133
    refine sv_goto hM dX12_behind_118 (pc' := 212) rfl ?_
    exact sv_vret hM dX12_behind_212 rfl ⟨rfl, ok131, md134, h⟩
  have J4 : ((S 11 p1) = (8 : Int)) → sv_T sm_XS sm_cs sm_L sm_sh ((S 1100002 p1) + (600 - (S 1046 0)) + 8).toNat (q_behind p1 S) 97 121 [(0, .ref 0), (1, sv_I p1), (2, sv_I x8), (3, sv_I x11)] [] S := by
    intro hc
    have h := hS.2.2.2.2 hc
    have k135 : (x11 = (S 12 (5 * p1 + 1)) → sm_WF (S 11) (S 12) (S 13) (S 1100001) (S 1100002) (S 1100005) (S 1100003) (S 1100004) (S 1024 0) (S 1007 0) (S 1009 0) (sm_fn (S 1032 0) (S 21) (S 1056 0)) → 0 ≤ p1 → p1 < (S 1024 0) → (S 1100001 p1) = 1 → (S 11 p1) = 8 → -1 ≤ x11) := fun e_l3 => by rw [e_l3]; exact (fun h a b c d => sm_h_li (sm_g1_8 h _ a b c d).2.2)
    have h := h k135
    have k136 : (sm_WF (S 11) (S 12) (S 13) (S 1100001) (S 1100002) (S 1100005) (S 1100003) (S 1100004) (S 1024 0) (S 1007 0) (S 1009 0) (sm_fn (S 1032 0) (S 21) (S 1056 0)) → 0 ≤ x11 → x11 < (S 1024 0) → (S 1100001 x11) = 3 → 0 ≤ (S 1100002 x11) ∧ 0 ≤ (S 1100005 x11)) := fun h a b d => sm_h_lv3 h _ a b d
    have h := h k136
    have k137 : (x8 = (S 12 (5 * p1 + 0)) → x11 = (S 12 (5 * p1 + 1)) → sm_WF (S 11) (S 12) (S 13) (S 1100001) (S 1100002) (S 1100005) (S 1100003) (S 1100004) (S 1024 0) (S 1007 0) (S 1009 0) (sm_fn (S 1032 0) (S 21) (S 1056 0)) → 0 ≤ p1 → p1 < (S 1024 0) → (S 1100001 p1) = 1 → (S 11 p1) = 8 → sm_ex (S 1100001) (S 1100002) (S 1100005) (S 1024 0) 1 (x8) ((S 1100002 (p1))) ((S 1100005 (p1))) ∧ x8 < (p1) ∧ sm_li (S 1100001) (S 1100002) (S 1100005) (S 1024 0) 3 (x11) 8 (((S 1100005 (p1))) - 1)) := fun e_l2 e_l3 => by rw [Int.add_zero] at e_l2; rw [e_l2, e_l3]; exact (fun h a0 a1 a2 a3 => sm_g1_8 h _ a0 a1 a2 a3)
    have h := h k137
    have k138 : (sm_WF (S 11) (S 12) (S 13) (S 1100001) (S 1100002) (S 1100005) (S 1100003) (S 1100004) (S 1024 0) (S 1007 0) (S 1009 0) (sm_fn (S 1032 0) (S 21) (S 1056 0)) → 0 ≤ p1 → p1 < (S 1024 0) → ((S 1100001 (p1)) = 1 → 0 ≤ (S 1100002 (p1)) ∧ ((S 11 (p1)) = 3 → (S 12 (5 * (p1) + 1)) < (p1)) ∧ ((S 11 (p1)) = 4 ∨ (S 11 (p1)) = 5 ∨ (S 11 (p1)) = 8 ∨ (S 11 (p1)) = 9 → 17 * (S 1100005 (p1)) + 2 ≤ (S 1100002 (p1))) ∧ 0 ≤ (S 1100005 (p1))) ∧ ((S 1100001 (p1)) = 2 → 0 ≤ (S 1100005 (p1)) ∧ (S 1100002 (p1)) ≤ 17 * (S 1100005 (p1)) + 5 ∧ ((S 11 (p1)) = 33 → 1 ≤ (S 1100005 (p1)))) ∧ ((S 1100001 (p1)) = 6 → 0 ≤ (S 1100002 (p1)) ∧ 1 ≤ (S 1100004 (p1)) ∧ ((S 12 (5 * (p1))) = - 1 → (S 1100004 (p1)) = 2)) ∧ ((S 1100001 (p1)) = 3 → 1 ≤ (S 1100002 (p1)))) := fun h a0 a1 => sm_gx h _ a0 a1
    have h := h k138
    have k139 : (sm_WF (S 11) (S 12) (S 13) (S 1100001) (S 1100002) (S 1100005) (S 1100003) (S 1100004) (S 1024 0) (S 1007 0) (S 1009 0) (sm_fn (S 1032 0) (S 21) (S 1056 0)) → 0 ≤ x11 → x11 < (S 1024 0) → ((S 1100001 (x11)) = 1 → 0 ≤ (S 1100002 (x11)) ∧ ((S 11 (x11)) = 3 → (S 12 (5 * (x11) + 1)) < (x11)) ∧ ((S 11 (x11)) = 4 ∨ (S 11 (x11)) = 5 ∨ (S 11 (x11)) = 8 ∨ (S 11 (x11)) = 9 → 17 * (S 1100005 (x11)) + 2 ≤ (S 1100002 (x11))) ∧ 0 ≤ (S 1100005 (x11))) ∧ ((S 1100001 (x11)) = 2 → 0 ≤ (S 1100005 (x11)) ∧ (S 1100002 (x11)) ≤ 17 * (S 1100005 (x11)) + 5 ∧ ((S 11 (x11)) = 33 → 1 ≤ (S 1100005 (x11)))) ∧ ((S 1100001 (x11)) = 6 → 0 ≤ (S 1100002 (x11)) ∧ 1 ≤ (S 1100004 (x11)) ∧ ((S 12 (5 * (x11))) = - 1 → (S 1100004 (x11)) = 2)) ∧ ((S 1100001 (x11)) = 3 → 1 ≤ (S 1100002 (x11)))) := fun h a0 a1 => sm_gx h _ a0 a1
    have h := h k139
    refine sv_aload_n hM dX12_behind_121 rfl rfl ?_
    refine sv_iload_n hM dX12_behind_122 rfl rfl ?_
    obtain ⟨o140, h⟩ := h
    obtain ⟨o141, h⟩ := h
    refine sv_callV hM dX12_behind_123 sm_iv_647 (by decide) (sm_a0 _) rfl rfl (Nat.le_of_ble_eq_true rfl) sm_h95 (Nat.le_of_ble_eq_true rfl) (Nat.le_of_ble_eq_true rfl) (F' := 1) (sv_Fn (n := 1) o141) rfl (t_isMemberCall p1 S hok hp1 o140) (fun v S1 hq => ?_)
    obtain ⟨rfl, hS1⟩ := hq
    obtain rfl : S = S1 := hS1.symm
    show sv_T sm_XS sm_cs sm_L sm_sh ((S 1100002 p1) + (600 - (S 1046 0)) + 8).toNat (q_behind p1 S) 97 126 [(0, .ref 0), (1, sv_I p1), (2, sv_I x8), (3, sv_I x11)] [sv_I (if ((S 11 (S 12 (5 * p1))) = 7 ∧ (S 14 (S 12 (5 * p1))) = 0) then 1 else 0)] S
    refine sv_cond_eq hM dX12_behind_126 (sv_Rite : sv_R (if ((S 11 (S 12 (5 * p1))) = 7 ∧ (S 14 (S 12 (5 * p1))) = 0) then 1 else 0)) (t := 151) rfl rfl (fun hc => ?_) (fun hc => ?_)
    · have h := h.1 (sv_iten hc)
      refine sv_aload_n hM dX12_behind_151 rfl rfl ?_
      refine sv_iload_n hM dX12_behind_152 rfl rfl ?_
      obtain ⟨o142, h⟩ := h
      obtain ⟨o143, h⟩ := h
      obtain ⟨o144, h⟩ := h
      refine sv_callV hM dX12_behind_153 sm_iv_671 (by decide) (sm_a0 _) rfl rfl (Nat.le_of_ble_eq_true rfl) sm_h101 (Nat.le_of_ble_eq_true rfl) (Nat.le_of_ble_eq_true rfl) (F' := (((if (S 1047 0) = 0 then (if x11 = -1 then 0 else 17 * (S 1100005 x11) + 17) + (600 - (S 1046 0)) + 9 else 5))).toNat) (sv_Fe o144) rfl ((IH ((if (S 1047 0) = 0 then (if x11 = -1 then 0 else 17 * (S 1100005 x11) + 17) + (600 - (S 1046 0)) + 9 else 5)) o143.1 o143.2).2.2.2.1 x11 S hok e12r o142 rfl) (fun v S1 hq => ?_)
      obtain ⟨r149, rfl, hr149, ok146, md147, hpo148⟩ := hq
      obtain ⟨g145, rfl⟩ : ∃ g, S1 = sv_sts S [26, 27, 28, 29, 1046, 1047, 1100007, 1100023, 1100024, 1100025, 1053, 31, 1100030, 1100009, 1100027, 1100028, 1100026, 1055, 1100033, 39, 1066] g := ⟨_, md147.eq⟩
      show sv_T sm_XS sm_cs sm_L sm_sh ((S 1100002 p1) + (600 - (S 1046 0)) + 8).toNat (q_behind p1 S) 97 156 [(0, .ref 0), (1, sv_I p1), (2, sv_I x8), (3, sv_I x11)] [sv_I r149] (sv_sts S [26, 27, 28, 29, 1046, 1047, 1100007, 1100023, 1100024, 1100025, 1053, 31, 1100030, 1100009, 1100027, 1100028, 1100026, 1055, 1100033, 39, 1066] g145)
      have md150 : sv_mod [26, 27, 28, 29, 1046, 1047, 1100007, 1100023, 1100024, 1100025, 1053, 31, 1100030, 1100009, 1100027, 1100028, 1100026, 1055, 1100033, 39, 1066] S (sv_sts S [26, 27, 28, 29, 1046, 1047, 1100007, 1100023, 1100024, 1100025, 1053, 31, 1100030, 1100009, 1100027, 1100028, 1100026, 1055, 1100033, 39, 1066] g145) := sv_mod.sts sv_mod.rf (by decide)
      have h := h r149 hr149 g145 hpo148
      refine sv_istore hM dX12_behind_156 (by decide) rfl ?_
      show sv_T sm_XS sm_cs sm_L sm_sh ((S 1100002 p1) + (600 - (S 1046 0)) + 8).toNat (q_behind p1 S) 97 158 [(0, .ref 0), (1, sv_I p1), (2, sv_I x8), (3, sv_I x11), (4, sv_I r149)] [] (sv_sts S [26, 27, 28, 29, 1046, 1047, 1100007, 1100023, 1100024, 1100025, 1053, 31, 1100030, 1100009, 1100027, 1100028, 1100026, 1055, 1100033, 39, 1066] g145)
      have k151 : ((¬ x11 = -1 → (S 1100005 x11) ≤ (S 1100005 p1) - 1) → 0 ≤ (S 1100005 p1) → (if x11 = -1 then 0 else 8 * (S 1100005 x11) + 17) ≤ 8 * (S 1100005 p1) + 9) := fun a b => sm_h_vlb a b
      have h := h k151
      refine sv_aload_n hM dX12_behind_158 rfl rfl ?_
      refine sv_bipush (d := (15 : Int)) hM dX12_behind_159 rfl rfl ?_
      refine sv_iload hM dX12_behind_161 rfl rfl ?_
      refine sv_iconst (d := (0 : Int)) hM dX12_behind_163 rfl rfl ?_
      obtain ⟨o152, h⟩ := h
      refine sv_callV hM dX12_behind_164 sm_iv_615 (by decide) (sm_a0 _) rfl rfl (Nat.le_of_ble_eq_true rfl) sm_h82 (Nat.le_of_ble_eq_true rfl) (Nat.le_of_ble_eq_true rfl) (F' := 0) (sv_Fn (n := 0) o7) rfl (t_emit (15 : Int) r149 (0 : Int) (sv_sts S [26, 27, 28, 29, 1046, 1047, 1100007, 1100023, 1100024, 1100025, 1053, 31, 1100030, 1100009, 1100027, 1100028, 1100026, 1055, 1100033, 39, 1066] g145) ok146 (⟨by decide, by decide⟩ : sv_R (15 : Int)) hr149 (⟨by decide, by decide⟩ : sv_R (0 : Int)) o152) (fun v S1 hq => ?_)
      obtain ⟨rfl, ok154, md155, hpo156⟩ := hq
      obtain ⟨g153, rfl⟩ : ∃ g, S1 = sv_sts (sv_sts S [26, 27, 28, 29, 1046, 1047, 1100007, 1100023, 1100024, 1100025, 1053, 31, 1100030, 1100009, 1100027, 1100028, 1100026, 1055, 1100033, 39, 1066] g145) [26, 27, 28, 29, 1046, 1047, 1100007, 1100023, 1100024, 1100025] g := ⟨_, md155.eq⟩
      show sv_T sm_XS sm_cs sm_L sm_sh ((S 1100002 p1) + (600 - (S 1046 0)) + 8).toNat (q_behind p1 S) 97 167 [(0, .ref 0), (1, sv_I p1), (2, sv_I x8), (3, sv_I x11), (4, sv_I r149)] [] (sv_sts (sv_sts S [26, 27, 28, 29, 1046, 1047, 1100007, 1100023, 1100024, 1100025, 1053, 31, 1100030, 1100009, 1100027, 1100028, 1100026, 1055, 1100033, 39, 1066] g145) [26, 27, 28, 29, 1046, 1047, 1100007, 1100023, 1100024, 1100025] g153)
      have md157 : sv_mod [26, 27, 28, 29, 1046, 1047, 1100007, 1100023, 1100024, 1100025, 1053, 31, 1100030, 1100009, 1100027, 1100028, 1100026, 1055, 1100033, 39, 1066] S (sv_sts (sv_sts S [26, 27, 28, 29, 1046, 1047, 1100007, 1100023, 1100024, 1100025, 1053, 31, 1100030, 1100009, 1100027, 1100028, 1100026, 1055, 1100033, 39, 1066] g145) [26, 27, 28, 29, 1046, 1047, 1100007, 1100023, 1100024, 1100025] g153) := sv_mod.sts md150 (by decide)
      have h := h g153 hpo156
      refine sv_goto hM dX12_behind_167 (pc' := 212) rfl ?_
      exact sv_vret hM dX12_behind_212 rfl ⟨rfl, ok154, md157, h⟩
    · have h := h.2 (sv_itep hc)
      have k158 : (x8 = (S 12 (5 * p1 + 0)) → (S 11 (S 12 (5 * p1))) = 7 ∧ (S 14 (S 12 (5 * p1))) = 0 → (S 11 x8) = 7) := fun e q => by rw [e, Int.add_zero]; exact q.1
      have h := h k158
      have k159 : (sm_WF (S 11) (S 12) (S 13) (S 1100001) (S 1100002) (S 1100005) (S 1100003) (S 1100004) (S 1024 0) (S 1007 0) (S 1009 0) (sm_fn (S 1032 0) (S 21) (S 1056 0)) → 0 ≤ x8 → x8 < (S 1024 0) → (S 1100001 x8) = 1 → (S 11 x8) = 7 → sm_ex (S 1100001) (S 1100002) (S 1100005) (S 1024 0) 1 ((S 12 (5 * (x8)))) ((S 1100002 (x8))) ((S 1100005 (x8))) ∧ (S 12 (5 * (x8))) < (x8) ∧ sm_ex (S 1100001) (S 1100002) (S 1100005) (S 1024 0) 1 ((S 12 (5 * (x8) + 1))) (((S 1100002 (x8))) - 1) ((S 1100005 (x8))) ∧ (S 12 (5 * (x8) + 1)) < (x8)) := fun h a0 a1 a2 a3 => sm_g1_7 h _ a0 a1 a2 a3
      have h := h k159
      have k160 : (sm_WF (S 11) (S 12) (S 13) (S 1100001) (S 1100002) (S 1100005) (S 1100003) (S 1100004) (S 1024 0) (S 1007 0) (S 1009 0) (sm_fn (S 1032 0) (S 21) (S 1056 0)) → 0 ≤ (S 12 (5 * x8 + 1)) → (S 12 (5 * x8 + 1)) < (S 1024 0) → ((S 1100001 ((S 12 (5 * x8 + 1)))) = 1 → 0 ≤ (S 1100002 ((S 12 (5 * x8 + 1)))) ∧ ((S 11 ((S 12 (5 * x8 + 1)))) = 3 → (S 12 (5 * ((S 12 (5 * x8 + 1))) + 1)) < ((S 12 (5 * x8 + 1)))) ∧ ((S 11 ((S 12 (5 * x8 + 1)))) = 4 ∨ (S 11 ((S 12 (5 * x8 + 1)))) = 5 ∨ (S 11 ((S 12 (5 * x8 + 1)))) = 8 ∨ (S 11 ((S 12 (5 * x8 + 1)))) = 9 → 17 * (S 1100005 ((S 12 (5 * x8 + 1)))) + 2 ≤ (S 1100002 ((S 12 (5 * x8 + 1))))) ∧ 0 ≤ (S 1100005 ((S 12 (5 * x8 + 1))))) ∧ ((S 1100001 ((S 12 (5 * x8 + 1)))) = 2 → 0 ≤ (S 1100005 ((S 12 (5 * x8 + 1)))) ∧ (S 1100002 ((S 12 (5 * x8 + 1)))) ≤ 17 * (S 1100005 ((S 12 (5 * x8 + 1)))) + 5 ∧ ((S 11 ((S 12 (5 * x8 + 1)))) = 33 → 1 ≤ (S 1100005 ((S 12 (5 * x8 + 1)))))) ∧ ((S 1100001 ((S 12 (5 * x8 + 1)))) = 6 → 0 ≤ (S 1100002 ((S 12 (5 * x8 + 1)))) ∧ 1 ≤ (S 1100004 ((S 12 (5 * x8 + 1)))) ∧ ((S 12 (5 * ((S 12 (5 * x8 + 1))))) = - 1 → (S 1100004 ((S 12 (5 * x8 + 1)))) = 2)) ∧ ((S 1100001 ((S 12 (5 * x8 + 1)))) = 3 → 1 ≤ (S 1100002 ((S 12 (5 * x8 + 1)))))) := fun h a0 a1 => sm_gx h _ a0 a1
      have h := h k160
      refine sv_aload_n hM dX12_behind_129 rfl rfl ?_
      refine sv_bipush (d := (18 : Int)) hM dX12_behind_130 rfl rfl ?_
      obtain ⟨o161, h⟩ := h
      refine sv_callV hM dX12_behind_132 sm_iv_666 (by decide) (sm_a0 _) rfl rfl (Nat.le_of_ble_eq_true rfl) sm_h83 (Nat.le_of_ble_eq_true rfl) (Nat.le_of_ble_eq_true rfl) (F' := 1) (sv_Fn (n := 1) o141) rfl (t_emit_ (18 : Int) S hok (⟨by decide, by decide⟩ : sv_R (18 : Int)) o161) (fun v S1 hq => ?_)
      obtain ⟨rfl, ok163, md164, hpo165⟩ := hq
      obtain ⟨g162, rfl⟩ : ∃ g, S1 = sv_sts S [26, 27, 28, 29, 1046, 1047, 1100007, 1100023, 1100024, 1100025] g := ⟨_, md164.eq⟩
      show sv_T sm_XS sm_cs sm_L sm_sh ((S 1100002 p1) + (600 - (S 1046 0)) + 8).toNat (q_behind p1 S) 97 135 [(0, .ref 0), (1, sv_I p1), (2, sv_I x8), (3, sv_I x11)] [] (sv_sts S [26, 27, 28, 29, 1046, 1047, 1100007, 1100023, 1100024, 1100025] g162)
      have md166 : sv_mod [26, 27, 28, 29, 1046, 1047, 1100007, 1100023, 1100024, 1100025, 1053, 31, 1100030, 1100009, 1100027, 1100028, 1100026, 1055, 1100033, 39, 1066] S (sv_sts S [26, 27, 28, 29, 1046, 1047, 1100007, 1100023, 1100024, 1100025] g162) := sv_mod.sts sv_mod.rf (by decide)
      have h := h g162 hpo165
      refine sv_aload_n hM dX12_behind_135 rfl rfl ?_
      refine sv_aload_n hM dX12_behind_136 rfl rfl ?_
      refine sv_iload_n hM dX12_behind_137 rfl rfl ?_
      refine sv_iconst (d := (1 : Int)) hM dX12_behind_138 rfl rfl ?_
      obtain ⟨o167, h⟩ := h
      refine sv_callV hM dX12_behind_139 sm_iv_644 (by decide) (sm_a0 _) rfl rfl (Nat.le_of_ble_eq_true rfl) sm_h34 (Nat.le_of_ble_eq_true rfl) (Nat.le_of_ble_eq_true rfl) (F' := 0) (sv_Fn (n := 0) o7) rfl (t_part x8 (1 : Int) (sv_sts S [26, 27, 28, 29, 1046, 1047, 1100007, 1100023, 1100024, 1100025] g162) ok163 e9r (⟨by decide, by decide⟩ : sv_R (1 : Int)) o167) (fun v S1 hq => ?_)
      obtain ⟨rfl, hS1⟩ := hq
      obtain rfl : (sv_sts S [26, 27, 28, 29, 1046, 1047, 1100007, 1100023, 1100024, 1100025] g162) = S1 := hS1.symm
      show sv_T sm_XS sm_cs sm_L sm_sh ((S 1100002 p1) + (600 - (S 1046 0)) + 8).toNat (q_behind p1 S) 97 142 [(0, .ref 0), (1, sv_I p1), (2, sv_I x8), (3, sv_I x11)] [sv_I ((S 12 (5 * x8 + (1 : Int)))), .ref 0] (sv_sts S [26, 27, 28, 29, 1046, 1047, 1100007, 1100023, 1100024, 1100025] g162)
      obtain ⟨o168, h⟩ := h
      obtain ⟨o169, h⟩ := h
      obtain ⟨o170, h⟩ := h
      refine sv_callV hM dX12_behind_142 sm_iv_668 (by decide) (sm_a0 _) rfl rfl (Nat.le_of_ble_eq_true rfl) sm_h96 (Nat.le_of_ble_eq_true rfl) (Nat.le_of_ble_eq_true rfl) (F' := (((if (g162 1047 0) = 0 then (S 1100002 ((S 12 (5 * x8 + (1 : Int))))) + (600 - (g162 1046 0)) + 8 else 4))).toNat) (sv_Fe o170) rfl ((IH ((if (g162 1047 0) = 0 then (S 1100002 ((S 12 (5 * x8 + (1 : Int))))) + (600 - (g162 1046 0)) + 8 else 4)) o169.1 o169.2).1 ((S 12 (5 * x8 + (1 : Int)))) (sv_sts S [26, 27, 28, 29, 1046, 1047, 1100007, 1100023, 1100024, 1100025] g162) ok163 (sm_okI ok163 sm_r12 _) o168 rfl) (fun v S1 hq => ?_)
      obtain ⟨rfl, ok172, md173, hpo174⟩ := hq
      obtain ⟨g171, rfl⟩ : ∃ g, S1 = sv_sts (sv_sts S [26, 27, 28, 29, 1046, 1047, 1100007, 1100023, 1100024, 1100025] g162) [26, 27, 28, 29, 1046, 1047, 1100007, 1100023, 1100024, 1100025, 1053, 31, 1100030, 1100009, 1100027, 1100028, 1100026, 1055, 1100033, 39, 1066] g := ⟨_, md173.eq⟩
      show sv_T sm_XS sm_cs sm_L sm_sh ((S 1100002 p1) + (600 - (S 1046 0)) + 8).toNat (q_behind p1 S) 97 145 [(0, .ref 0), (1, sv_I p1), (2, sv_I x8), (3, sv_I x11)] [] (sv_sts (sv_sts S [26, 27, 28, 29, 1046, 1047, 1100007, 1100023, 1100024, 1100025] g162) [26, 27, 28, 29, 1046, 1047, 1100007, 1100023, 1100024, 1100025, 1053, 31, 1100030, 1100009, 1100027, 1100028, 1100026, 1055, 1100033, 39, 1066] g171)
      have md175 : sv_mod [26, 27, 28, 29, 1046, 1047, 1100007, 1100023, 1100024, 1100025, 1053, 31, 1100030, 1100009, 1100027, 1100028, 1100026, 1055, 1100033, 39, 1066] S (sv_sts (sv_sts S [26, 27, 28, 29, 1046, 1047, 1100007, 1100023, 1100024, 1100025] g162) [26, 27, 28, 29, 1046, 1047, 1100007, 1100023, 1100024, 1100025, 1053, 31, 1100030, 1100009, 1100027, 1100028, 1100026, 1055, 1100033, 39, 1066] g171) := sv_mod.sts md166 (by decide)
      have h := h g171 hpo174
      refine sv_aload_n hM dX12_behind_145 rfl rfl ?_
      refine sv_bipush (d := (10 : Int)) hM dX12_behind_146 rfl rfl ?_
      obtain ⟨o176, h⟩ := h
      refine sv_callV hM dX12_behind_148 sm_iv_666 (by decide) (sm_a0 _) rfl rfl (Nat.le_of_ble_eq_true rfl) sm_h83 (Nat.le_of_ble_eq_true rfl) (Nat.le_of_ble_eq_true rfl) (F' := 1) (sv_Fn (n := 1) o141) rfl (t_emit_ (10 : Int) (sv_sts (sv_sts S [26, 27, 28, 29, 1046, 1047, 1100007, 1100023, 1100024, 1100025] g162) [26, 27, 28, 29, 1046, 1047, 1100007, 1100023, 1100024, 1100025, 1053, 31, 1100030, 1100009, 1100027, 1100028, 1100026, 1055, 1100033, 39, 1066] g171) ok172 (⟨by decide, by decide⟩ : sv_R (10 : Int)) o176) (fun v S1 hq => ?_)
      obtain ⟨rfl, ok178, md179, hpo180⟩ := hq
      obtain ⟨g177, rfl⟩ : ∃ g, S1 = sv_sts (sv_sts (sv_sts S [26, 27, 28, 29, 1046, 1047, 1100007, 1100023, 1100024, 1100025] g162) [26, 27, 28, 29, 1046, 1047, 1100007, 1100023, 1100024, 1100025, 1053, 31, 1100030, 1100009, 1100027, 1100028, 1100026, 1055, 1100033, 39, 1066] g171) [26, 27, 28, 29, 1046, 1047, 1100007, 1100023, 1100024, 1100025] g := ⟨_, md179.eq⟩
      show sv_T sm_XS sm_cs sm_L sm_sh ((S 1100002 p1) + (600 - (S 1046 0)) + 8).toNat (q_behind p1 S) 97 151 [(0, .ref 0), (1, sv_I p1), (2, sv_I x8), (3, sv_I x11)] [] (sv_sts (sv_sts (sv_sts S [26, 27, 28, 29, 1046, 1047, 1100007, 1100023, 1100024, 1100025] g162) [26, 27, 28, 29, 1046, 1047, 1100007, 1100023, 1100024, 1100025, 1053, 31, 1100030, 1100009, 1100027, 1100028, 1100026, 1055, 1100033, 39, 1066] g171) [26, 27, 28, 29, 1046, 1047, 1100007, 1100023, 1100024, 1100025] g177)
      have md181 : sv_mod [26, 27, 28, 29, 1046, 1047, 1100007, 1100023, 1100024, 1100025, 1053, 31, 1100030, 1100009, 1100027, 1100028, 1100026, 1055, 1100033, 39, 1066] S (sv_sts (sv_sts (sv_sts S [26, 27, 28, 29, 1046, 1047, 1100007, 1100023, 1100024, 1100025] g162) [26, 27, 28, 29, 1046, 1047, 1100007, 1100023, 1100024, 1100025, 1053, 31, 1100030, 1100009, 1100027, 1100028, 1100026, 1055, 1100033, 39, 1066] g171) [26, 27, 28, 29, 1046, 1047, 1100007, 1100023, 1100024, 1100025] g177) := sv_mod.sts md175 (by decide)
      have h := h g177 hpo180
      refine sv_aload_n hM dX12_behind_151 rfl rfl ?_
      refine sv_iload_n hM dX12_behind_152 rfl rfl ?_
      obtain ⟨o182, h⟩ := h
      obtain ⟨o183, h⟩ := h
      obtain ⟨o184, h⟩ := h
      refine sv_callV hM dX12_behind_153 sm_iv_671 (by decide) (sm_a0 _) rfl rfl (Nat.le_of_ble_eq_true rfl) sm_h101 (Nat.le_of_ble_eq_true rfl) (Nat.le_of_ble_eq_true rfl) (F' := (((if (g177 1047 0) = 0 then (if x11 = -1 then 0 else 17 * (S 1100005 x11) + 17) + (600 - (g177 1046 0)) + 9 else 5))).toNat) (sv_Fe o184) rfl ((IH ((if (g177 1047 0) = 0 then (if x11 = -1 then 0 else 17 * (S 1100005 x11) + 17) + (600 - (g177 1046 0)) + 9 else 5)) o183.1 o183.2).2.2.2.1 x11 (sv_sts (sv_sts (sv_sts S [26, 27, 28, 29, 1046, 1047, 1100007, 1100023, 1100024, 1100025] g162) [26, 27, 28, 29, 1046, 1047, 1100007, 1100023, 1100024, 1100025, 1053, 31, 1100030, 1100009, 1100027, 1100028, 1100026, 1055, 1100033, 39, 1066] g171) [26, 27, 28, 29, 1046, 1047, 1100007, 1100023, 1100024, 1100025] g177) ok178 e12r o182 rfl) (fun v S1 hq => ?_)
      obtain ⟨r189, rfl, hr189, ok186, md187, hpo188⟩ := hq
      obtain ⟨g185, rfl⟩ : ∃ g, S1 = sv_sts (sv_sts (sv_sts (sv_sts S [26, 27, 28, 29, 1046, 1047, 1100007, 1100023, 1100024, 1100025] g162) [26, 27, 28, 29, 1046, 1047, 1100007, 1100023, 1100024, 1100025, 1053, 31, 1100030, 1100009, 1100027, 1100028, 1100026, 1055, 1100033, 39, 1066] g171) [26, 27, 28, 29, 1046, 1047, 1100007, 1100023, 1100024, 1100025] g177) [26, 27, 28, 29, 1046, 1047, 1100007, 1100023, 1100024, 1100025, 1053, 31, 1100030, 1100009, 1100027, 1100028, 1100026, 1055, 1100033, 39, 1066] g := ⟨_, md187.eq⟩
      show sv_T sm_XS sm_cs sm_L sm_sh ((S 1100002 p1) + (600 - (S 1046 0)) + 8).toNat (q_behind p1 S) 97 156 [(0, .ref 0), (1, sv_I p1), (2, sv_I x8), (3, sv_I x11)] [sv_I r189] (sv_sts (sv_sts (sv_sts (sv_sts S [26, 27, 28, 29, 1046, 1047, 1100007, 1100023, 1100024, 1100025] g162) [26, 27, 28, 29, 1046, 1047, 1100007, 1100023, 1100024, 1100025, 1053, 31, 1100030, 1100009, 1100027, 1100028, 1100026, 1055, 1100033, 39, 1066] g171) [26, 27, 28, 29, 1046, 1047, 1100007, 1100023, 1100024, 1100025] g177) [26, 27, 28, 29, 1046, 1047, 1100007, 1100023, 1100024, 1100025, 1053, 31, 1100030, 1100009, 1100027, 1100028, 1100026, 1055, 1100033, 39, 1066] g185)
      have md190 : sv_mod [26, 27, 28, 29, 1046, 1047, 1100007, 1100023, 1100024, 1100025, 1053, 31, 1100030, 1100009, 1100027, 1100028, 1100026, 1055, 1100033, 39, 1066] S (sv_sts (sv_sts (sv_sts (sv_sts S [26, 27, 28, 29, 1046, 1047, 1100007, 1100023, 1100024, 1100025] g162) [26, 27, 28, 29, 1046, 1047, 1100007, 1100023, 1100024, 1100025, 1053, 31, 1100030, 1100009, 1100027, 1100028, 1100026, 1055, 1100033, 39, 1066] g171) [26, 27, 28, 29, 1046, 1047, 1100007, 1100023, 1100024, 1100025] g177) [26, 27, 28, 29, 1046, 1047, 1100007, 1100023, 1100024, 1100025, 1053, 31, 1100030, 1100009, 1100027, 1100028, 1100026, 1055, 1100033, 39, 1066] g185) := sv_mod.sts md181 (by decide)
      have h := h r189 hr189 g185 hpo188
      refine sv_istore hM dX12_behind_156 (by decide) rfl ?_
      show sv_T sm_XS sm_cs sm_L sm_sh ((S 1100002 p1) + (600 - (S 1046 0)) + 8).toNat (q_behind p1 S) 97 158 [(0, .ref 0), (1, sv_I p1), (2, sv_I x8), (3, sv_I x11), (4, sv_I r189)] [] (sv_sts (sv_sts (sv_sts (sv_sts S [26, 27, 28, 29, 1046, 1047, 1100007, 1100023, 1100024, 1100025] g162) [26, 27, 28, 29, 1046, 1047, 1100007, 1100023, 1100024, 1100025, 1053, 31, 1100030, 1100009, 1100027, 1100028, 1100026, 1055, 1100033, 39, 1066] g171) [26, 27, 28, 29, 1046, 1047, 1100007, 1100023, 1100024, 1100025] g177) [26, 27, 28, 29, 1046, 1047, 1100007, 1100023, 1100024, 1100025, 1053, 31, 1100030, 1100009, 1100027, 1100028, 1100026, 1055, 1100033, 39, 1066] g185)
      have k191 : ((¬ x11 = -1 → (S 1100005 x11) ≤ (S 1100005 p1) - 1) → 0 ≤ (S 1100005 p1) → (if x11 = -1 then 0 else 8 * (S 1100005 x11) + 17) ≤ 8 * (S 1100005 p1) + 9) := fun a b => sm_h_vlb a b
      have h := h k191
      refine sv_aload_n hM dX12_behind_158 rfl rfl ?_
      refine sv_bipush (d := (15 : Int)) hM dX12_behind_159 rfl rfl ?_
      refine sv_iload hM dX12_behind_161 rfl rfl ?_
      refine sv_iconst (d := (0 : Int)) hM dX12_behind_163 rfl rfl ?_
      obtain ⟨o192, h⟩ := h
      refine sv_callV hM dX12_behind_164 sm_iv_615 (by decide) (sm_a0 _) rfl rfl (Nat.le_of_ble_eq_true rfl) sm_h82 (Nat.le_of_ble_eq_true rfl) (Nat.le_of_ble_eq_true rfl) (F' := 0) (sv_Fn (n := 0) o7) rfl (t_emit (15 : Int) r189 (0 : Int) (sv_sts (sv_sts (sv_sts (sv_sts S [26, 27, 28, 29, 1046, 1047, 1100007, 1100023, 1100024, 1100025] g162) [26, 27, 28, 29, 1046, 1047, 1100007, 1100023, 1100024, 1100025, 1053, 31, 1100030, 1100009, 1100027, 1100028, 1100026, 1055, 1100033, 39, 1066] g171) [26, 27, 28, 29, 1046, 1047, 1100007, 1100023, 1100024, 1100025] g177) [26, 27, 28, 29, 1046, 1047, 1100007, 1100023, 1100024, 1100025, 1053, 31, 1100030, 1100009, 1100027, 1100028, 1100026, 1055, 1100033, 39, 1066] g185) ok186 (⟨by decide, by decide⟩ : sv_R (15 : Int)) hr189 (⟨by decide, by decide⟩ : sv_R (0 : Int)) o192) (fun v S1 hq => ?_)
      obtain ⟨rfl, ok194, md195, hpo196⟩ := hq
      obtain ⟨g193, rfl⟩ : ∃ g, S1 = sv_sts (sv_sts (sv_sts (sv_sts (sv_sts S [26, 27, 28, 29, 1046, 1047, 1100007, 1100023, 1100024, 1100025] g162) [26, 27, 28, 29, 1046, 1047, 1100007, 1100023, 1100024, 1100025, 1053, 31, 1100030, 1100009, 1100027, 1100028, 1100026, 1055, 1100033, 39, 1066] g171) [26, 27, 28, 29, 1046, 1047, 1100007, 1100023, 1100024, 1100025] g177) [26, 27, 28, 29, 1046, 1047, 1100007, 1100023, 1100024, 1100025, 1053, 31, 1100030, 1100009, 1100027, 1100028, 1100026, 1055, 1100033, 39, 1066] g185) [26, 27, 28, 29, 1046, 1047, 1100007, 1100023, 1100024, 1100025] g := ⟨_, md195.eq⟩
      show sv_T sm_XS sm_cs sm_L sm_sh ((S 1100002 p1) + (600 - (S 1046 0)) + 8).toNat (q_behind p1 S) 97 167 [(0, .ref 0), (1, sv_I p1), (2, sv_I x8), (3, sv_I x11), (4, sv_I r189)] [] (sv_sts (sv_sts (sv_sts (sv_sts (sv_sts S [26, 27, 28, 29, 1046, 1047, 1100007, 1100023, 1100024, 1100025] g162) [26, 27, 28, 29, 1046, 1047, 1100007, 1100023, 1100024, 1100025, 1053, 31, 1100030, 1100009, 1100027, 1100028, 1100026, 1055, 1100033, 39, 1066] g171) [26, 27, 28, 29, 1046, 1047, 1100007, 1100023, 1100024, 1100025] g177) [26, 27, 28, 29, 1046, 1047, 1100007, 1100023, 1100024, 1100025, 1053, 31, 1100030, 1100009, 1100027, 1100028, 1100026, 1055, 1100033, 39, 1066] g185) [26, 27, 28, 29, 1046, 1047, 1100007, 1100023, 1100024, 1100025] g193)
      have md197 : sv_mod [26, 27, 28, 29, 1046, 1047, 1100007, 1100023, 1100024, 1100025, 1053, 31, 1100030, 1100009, 1100027, 1100028, 1100026, 1055, 1100033, 39, 1066] S (sv_sts (sv_sts (sv_sts (sv_sts (sv_sts S [26, 27, 28, 29, 1046, 1047, 1100007, 1100023, 1100024, 1100025] g162) [26, 27, 28, 29, 1046, 1047, 1100007, 1100023, 1100024, 1100025, 1053, 31, 1100030, 1100009, 1100027, 1100028, 1100026, 1055, 1100033, 39, 1066] g171) [26, 27, 28, 29, 1046, 1047, 1100007, 1100023, 1100024, 1100025] g177) [26, 27, 28, 29, 1046, 1047, 1100007, 1100023, 1100024, 1100025, 1053, 31, 1100030, 1100009, 1100027, 1100028, 1100026, 1055, 1100033, 39, 1066] g185) [26, 27, 28, 29, 1046, 1047, 1100007, 1100023, 1100024, 1100025] g193) := sv_mod.sts md190 (by decide)
      have h := h g193 hpo196
      refine sv_goto hM dX12_behind_167 (pc' := 212) rfl ?_
      exact sv_vret hM dX12_behind_212 rfl ⟨rfl, ok194, md197, h⟩
  refine sv_tsw hM dX12_behind_20 k14 (t := 170) rfl (fun hc => J0 (by rcases hc with hc | hc; exact Or.inl hc; exact Or.inr (Or.inl hc))) (fun hc => ?_)
  have hv : (S 11 p1) = (3 : Int) ∨ (S 11 p1) = (4 : Int) ∨ (S 11 p1) = (5 : Int) ∨ (S 11 p1) = (6 : Int) ∨ (S 11 p1) = (7 : Int) ∨ (S 11 p1) = (8 : Int) ∨ (S 11 p1) = (9 : Int) ∨ (S 11 p1) = (10 : Int) ∨ (S 11 p1) = (11 : Int) := by omega
  rcases hv with hv | hv | hv | hv | hv | hv | hv | hv | hv
  · exact ⟨52, 72, by rw [hv]; rfl, rfl, J1 (by omega)⟩
  · exact ⟨150, 170, by rw [hv]; rfl, rfl, J0 (by omega)⟩
  · exact ⟨150, 170, by rw [hv]; rfl, rfl, J0 (by omega)⟩
  · exact ⟨150, 170, by rw [hv]; rfl, rfl, J0 (by omega)⟩
  · exact ⟨66, 86, by rw [hv]; rfl, rfl, J2 (by omega)⟩
  · exact ⟨101, 121, by rw [hv]; rfl, rfl, J4 (by omega)⟩
  · exact ⟨150, 170, by rw [hv]; rfl, rfl, J0 (by omega)⟩
  · exact ⟨150, 170, by rw [hv]; rfl, rfl, J0 (by omega)⟩
  · exact ⟨80, 100, by rw [hv]; rfl, rfl, J3 (by omega)⟩
