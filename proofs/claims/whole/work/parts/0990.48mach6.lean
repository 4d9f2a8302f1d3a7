theorem dX12_enter_0 : decode cX12_enter 0 = .ok (.aload_n 0, 1) := by decide +kernel
theorem dX12_enter_1 : decode cX12_enter 1 = .ok (.getfield 146, 3) := by decide +kernel
theorem dX12_enter_4 : decode cX12_enter 4 = .ok (.iload_n 1, 1) := by decide +kernel
theorem dX12_enter_5 : decode cX12_enter 5 = .ok (.iaload, 1) := by decide +kernel
theorem dX12_enter_6 : decode cX12_enter 6 = .ok (.istore 6, 2) := by decide +kernel
theorem dX12_enter_8 : decode cX12_enter 8 = .ok (.aload_n 0, 1) := by decide +kernel
theorem dX12_enter_9 : decode cX12_enter 9 = .ok (.iconst (-1), 1) := by decide +kernel
theorem dX12_enter_10 : decode cX12_enter 10 = .ok (.bipush 29, 2) := by decide +kernel
theorem dX12_enter_12 : decode cX12_enter 12 = .ok (.bipush 6, 2) := by decide +kernel
theorem dX12_enter_14 : decode cX12_enter 14 = .ok (.iload 6, 2) := by decide +kernel
theorem dX12_enter_16 : decode cX12_enter 16 = .ok (.iconst 1, 1) := by decide +kernel
theorem dX12_enter_17 : decode cX12_enter 17 = .ok (.isub, 1) := by decide +kernel
theorem dX12_enter_18 : decode cX12_enter 18 = .ok (.imul, 1) := by decide +kernel
theorem dX12_enter_19 : decode cX12_enter 19 = .ok (.iadd, 1) := by decide +kernel
theorem dX12_enter_20 : decode cX12_enter 20 = .ok (.iconst 3, 1) := by decide +kernel
theorem dX12_enter_21 : decode cX12_enter 21 = .ok (.invokevirtual 858, 3) := by decide +kernel
theorem dX12_enter_24 : decode cX12_enter 24 = .ok (.istore 7, 2) := by decide +kernel
theorem dX12_enter_26 : decode cX12_enter 26 = .ok (.aload_n 0, 1) := by decide +kernel
theorem dX12_enter_27 : decode cX12_enter 27 = .ok (.getfield 794, 3) := by decide +kernel
theorem dX12_enter_30 : decode cX12_enter 30 = .ok (.ifCond .eq 4, 3) := by decide +kernel
theorem dX12_enter_33 : decode cX12_enter 33 = .ok (.return_, 1) := by decide +kernel
theorem dX12_enter_34 : decode cX12_enter 34 = .ok (.aload_n 0, 1) := by decide +kernel
theorem dX12_enter_35 : decode cX12_enter 35 = .ok (.getfield 140, 3) := by decide +kernel
theorem dX12_enter_38 : decode cX12_enter 38 = .ok (.iload 7, 2) := by decide +kernel
theorem dX12_enter_40 : decode cX12_enter 40 = .ok (.aload_n 0, 1) := by decide +kernel
theorem dX12_enter_41 : decode cX12_enter 41 = .ok (.getfield 140, 3) := by decide +kernel
theorem dX12_enter_44 : decode cX12_enter 44 = .ok (.iload_n 1, 1) := by decide +kernel
theorem dX12_enter_45 : decode cX12_enter 45 = .ok (.iaload, 1) := by decide +kernel
theorem dX12_enter_46 : decode cX12_enter 46 = .ok (.iastore, 1) := by decide +kernel
theorem dX12_enter_47 : decode cX12_enter 47 = .ok (.iconst 0, 1) := by decide +kernel
theorem dX12_enter_48 : decode cX12_enter 48 = .ok (.istore 8, 2) := by decide +kernel
theorem dX12_enter_50 : decode cX12_enter 50 = .ok (.iload 8, 2) := by decide +kernel
theorem dX12_enter_52 : decode cX12_enter 52 = .ok (.aload_n 0, 1) := by decide +kernel
theorem dX12_enter_53 : decode cX12_enter 53 = .ok (.getfield 110, 3) := by decide +kernel
theorem dX12_enter_56 : decode cX12_enter 56 = .ok (.iload 6, 2) := by decide +kernel
theorem dX12_enter_58 : decode cX12_enter 58 = .ok (.iaload, 1) := by decide +kernel
theorem dX12_enter_59 : decode cX12_enter 59 = .ok (.if_icmp .ge 146, 3) := by decide +kernel
theorem dX12_enter_62 : decode cX12_enter 62 = .ok (.aload_n 0, 1) := by decide +kernel
theorem dX12_enter_63 : decode cX12_enter 63 = .ok (.getfield 107, 3) := by decide +kernel
theorem dX12_enter_66 : decode cX12_enter 66 = .ok (.bipush 100, 2) := by decide +kernel
theorem dX12_enter_68 : decode cX12_enter 68 = .ok (.iload 6, 2) := by decide +kernel
theorem dX12_enter_70 : decode cX12_enter 70 = .ok (.imul, 1) := by decide +kernel
theorem dX12_enter_71 : decode cX12_enter 71 = .ok (.iload 8, 2) := by decide +kernel
theorem dX12_enter_73 : decode cX12_enter 73 = .ok (.iadd, 1) := by decide +kernel
theorem dX12_enter_74 : decode cX12_enter 74 = .ok (.iaload, 1) := by decide +kernel
theorem dX12_enter_75 : decode cX12_enter 75 = .ok (.istore 9, 2) := by decide +kernel
theorem dX12_enter_77 : decode cX12_enter 77 = .ok (.iload 8, 2) := by decide +kernel
theorem dX12_enter_79 : decode cX12_enter 79 = .ok (.aload_n 0, 1) := by decide +kernel
theorem dX12_enter_80 : decode cX12_enter 80 = .ok (.getfield 71, 3) := by decide +kernel
theorem dX12_enter_83 : decode cX12_enter 83 = .ok (.iload 6, 2) := by decide +kernel
theorem dX12_enter_85 : decode cX12_enter 85 = .ok (.iaload, 1) := by decide +kernel
theorem dX12_enter_86 : decode cX12_enter 86 = .ok (.if_icmp .ge 7, 3) := by decide +kernel
theorem dX12_enter_89 : decode cX12_enter 89 = .ok (.iconst 1, 1) := by decide +kernel
theorem dX12_enter_90 : decode cX12_enter 90 = .ok (.goto 4, 3) := by decide +kernel
theorem dX12_enter_93 : decode cX12_enter 93 = .ok (.iconst 0, 1) := by decide +kernel
theorem dX12_enter_94 : decode cX12_enter 94 = .ok (.istore 10, 2) := by decide +kernel
theorem dX12_enter_96 : decode cX12_enter 96 = .ok (.iload 10, 2) := by decide +kernel
theorem dX12_enter_98 : decode cX12_enter 98 = .ok (.ifCond .ne 29, 3) := by decide +kernel
theorem dX12_enter_101 : decode cX12_enter 101 = .ok (.aload_n 0, 1) := by decide +kernel
theorem dX12_enter_102 : decode cX12_enter 102 = .ok (.getfield 65, 3) := by decide +kernel
theorem dX12_enter_105 : decode cX12_enter 105 = .ok (.iload 6, 2) := by decide +kernel
theorem dX12_enter_107 : decode cX12_enter 107 = .ok (.baload, 1) := by decide +kernel
theorem dX12_enter_108 : decode cX12_enter 108 = .ok (.ifCond .ne 19, 3) := by decide +kernel
theorem dX12_enter_111 : decode cX12_enter 111 = .ok (.iload 9, 2) := by decide +kernel
theorem dX12_enter_113 : decode cX12_enter 113 = .ok (.aload_n 0, 1) := by decide +kernel
theorem dX12_enter_114 : decode cX12_enter 114 = .ok (.getfield 62, 3) := by decide +kernel
theorem dX12_enter_117 : decode cX12_enter 117 = .ok (.iload 6, 2) := by decide +kernel
theorem dX12_enter_119 : decode cX12_enter 119 = .ok (.iaload, 1) := by decide +kernel
theorem dX12_enter_120 : decode cX12_enter 120 = .ok (.if_icmp .ne 7, 3) := by decide +kernel
theorem dX12_enter_123 : decode cX12_enter 123 = .ok (.iconst 1, 1) := by decide +kernel
theorem dX12_enter_124 : decode cX12_enter 124 = .ok (.goto 4, 3) := by decide +kernel
theorem dX12_enter_127 : decode cX12_enter 127 = .ok (.iconst 0, 1) := by decide +kernel
theorem dX12_enter_128 : decode cX12_enter 128 = .ok (.istore 11, 2) := by decide +kernel
theorem dX12_enter_130 : decode cX12_enter 130 = .ok (.iload 10, 2) := by decide +kernel
theorem dX12_enter_132 : decode cX12_enter 132 = .ok (.ifCond .eq 12, 3) := by decide +kernel
theorem dX12_enter_135 : decode cX12_enter 135 = .ok (.aload_n 0, 1) := by decide +kernel
theorem dX12_enter_136 : decode cX12_enter 136 = .ok (.iload 8, 2) := by decide +kernel
theorem dX12_enter_138 : decode cX12_enter 138 = .ok (.invokevirtual 1014, 3) := by decide +kernel
theorem dX12_enter_141 : decode cX12_enter 141 = .ok (.goto 14, 3) := by decide +kernel
theorem dX12_enter_144 : decode cX12_enter 144 = .ok (.iload 11, 2) := by decide +kernel
theorem dX12_enter_146 : decode cX12_enter 146 = .ok (.ifCond .eq 8, 3) := by decide +kernel
theorem dX12_enter_149 : decode cX12_enter 149 = .ok (.bipush 7, 2) := by decide +kernel
theorem dX12_enter_151 : decode cX12_enter 151 = .ok (.goto 4, 3) := by decide +kernel
theorem dX12_enter_154 : decode cX12_enter 154 = .ok (.iconst 0, 1) := by decide +kernel
theorem dX12_enter_155 : decode cX12_enter 155 = .ok (.istore 12, 2) := by decide +kernel
theorem dX12_enter_157 : decode cX12_enter 157 = .ok (.aload_n 0, 1) := by decide +kernel
theorem dX12_enter_158 : decode cX12_enter 158 = .ok (.iload 7, 2) := by decide +kernel
theorem dX12_enter_160 : decode cX12_enter 160 = .ok (.iload 9, 2) := by decide +kernel
theorem dX12_enter_162 : decode cX12_enter 162 = .ok (.iload 12, 2) := by decide +kernel
theorem dX12_enter_164 : decode cX12_enter 164 = .ok (.iload 10, 2) := by decide +kernel
theorem dX12_enter_166 : decode cX12_enter 166 = .ok (.ifCond .eq 12, 3) := by decide +kernel
theorem dX12_enter_169 : decode cX12_enter 169 = .ok (.aload_n 0, 1) := by decide +kernel
theorem dX12_enter_170 : decode cX12_enter 170 = .ok (.iload 8, 2) := by decide +kernel
theorem dX12_enter_172 : decode cX12_enter 172 = .ok (.invokevirtual 1017, 3) := by decide +kernel
theorem dX12_enter_175 : decode cX12_enter 175 = .ok (.goto 13, 3) := by decide +kernel
theorem dX12_enter_178 : decode cX12_enter 178 = .ok (.iload 11, 2) := by decide +kernel
theorem dX12_enter_180 : decode cX12_enter 180 = .ok (.ifCond .eq 7, 3) := by decide +kernel
theorem dX12_enter_183 : decode cX12_enter 183 = .ok (.iload_n 1, 1) := by decide +kernel
theorem dX12_enter_184 : decode cX12_enter 184 = .ok (.goto 4, 3) := by decide +kernel
theorem dX12_enter_187 : decode cX12_enter 187 = .ok (.iconst 0, 1) := by decide +kernel
theorem dX12_enter_188 : decode cX12_enter 188 = .ok (.invokevirtual 870, 3) := by decide +kernel
theorem dX12_enter_191 : decode cX12_enter 191 = .ok (.aload_n 0, 1) := by decide +kernel
theorem dX12_enter_192 : decode cX12_enter 192 = .ok (.getfield 794, 3) := by decide +kernel
theorem dX12_enter_195 : decode cX12_enter 195 = .ok (.ifCond .eq 4, 3) := by decide +kernel
theorem dX12_enter_198 : decode cX12_enter 198 = .ok (.return_, 1) := by decide +kernel
theorem dX12_enter_199 : decode cX12_enter 199 = .ok (.iinc 8 1, 3) := by decide +kernel
theorem dX12_enter_202 : decode cX12_enter 202 = .ok (.goto (-152), 3) := by decide +kernel
theorem dX12_enter_205 : decode cX12_enter 205 = .ok (.aload_n 0, 1) := by decide +kernel
theorem dX12_enter_206 : decode cX12_enter 206 = .ok (.iload 4, 2) := by decide +kernel
theorem dX12_enter_208 : decode cX12_enter 208 = .ok (.invokevirtual 882, 3) := by decide +kernel
theorem dX12_enter_211 : decode cX12_enter 211 = .ok (.aload_n 0, 1) := by decide +kernel
theorem dX12_enter_212 : decode cX12_enter 212 = .ok (.invokevirtual 888, 3) := by decide +kernel
theorem dX12_enter_215 : decode cX12_enter 215 = .ok (.aload_n 0, 1) := by decide +kernel
theorem dX12_enter_216 : decode cX12_enter 216 = .ok (.iload 6, 2) := by decide +kernel
theorem dX12_enter_218 : decode cX12_enter 218 = .ok (.iload 7, 2) := by decide +kernel
theorem dX12_enter_220 : decode cX12_enter 220 = .ok (.iload_n 2, 1) := by decide +kernel
theorem dX12_enter_221 : decode cX12_enter 221 = .ok (.iload_n 3, 1) := by decide +kernel
theorem dX12_enter_222 : decode cX12_enter 222 = .ok (.iload 5, 2) := by decide +kernel
theorem dX12_enter_224 : decode cX12_enter 224 = .ok (.invokevirtual 875, 3) := by decide +kernel
theorem dX12_enter_227 : decode cX12_enter 227 = .ok (.return_, 1) := by decide +kernel

def q_enter (p1 : Int) (p2 : Int) (p3 : Int) (p4 : Int) (p5 : Int) (S : sv_S) : Option Value → sv_S → Prop := fun v S' => v = none ∧ sm_ok S' ∧ sv_mod [1076, 41, 42, 43, 44, 45, 46, 47, 1075, 1100029, 1084, 1085, 48, 1086, 51, 52, 49, 50, 1100020, 1100021, 1100022, 58, 63, 64, 57, 1092, 53, 54, 55, 56, 59, 60] S S' ∧ (sm_PL (S' 1100020) (S' 51) (S' 52) (S' 46) (S' 47) (S' 1076 0) (S' 1086 0) ∧ sm_FR (S' 1100020) (S' 52) (S' 1100021) (S' 1100022) (3000 - (S' 1084 0)) (S' 1085 0) ∧ sm_PV (S' 1100020) (S' 48) (S' 49) (S' 50) (S' 44) (S' 1076 0) (S' 1007 0) ∧ sm_AL (S' 1100020) (S' 48) (S' 49) (S' 50) (S' 44) (S' 1076 0) (S' 1100032 0) ∧ sm_SV (S' 1100020) (S' 48) (S' 1100029) (S' 32) (S' 33) (S' 1076 0) (S' 1032 0) ∧ 0 ≤ (S' 1076 0) ∧ (S' 1076 0) ≤ 300 ∧ 0 ≤ (S' 1084 0) ∧ (S' 1084 0) ≤ 3000 ∧ 0 ≤ (S' 1086 0) ∧ sm_SC (S' 1100029) (S' 44) (S' 45) (S' 43) (S' 21) (S' 1076 0) (S' 1032 0) ∧ sm_PO (S' 42) (S' 1076 0) ∧ ((S' 1075 0) = 0 → (S' 1100032 0) = -1 ∧ sm_FO (S' 44) (S' 45) (S' 1076 0)) ∧ 23 ≤ (S' 1076 0) ∧ 31 ≤ (S' 1007 0) ∧ (S' 1007 0) ≤ 400 ∧ sm_LN (S' 4) 400 (S' 1007 0) ∧ (S' 1008 0) ≤ (S' 1007 0) ∧ ((S 1075 0) = 1 → (S' 1075 0) = 1) ∧ 0 ≤ (S' 1092 0) ∧ (S' 1092 0) ≤ 24 ∧ ((S' 1075 0) = 0 → (S' 1073 0) = 1 → 1 ≤ (S' 1092 0) ∧ (S' 1092 0) ≤ 24 ∧ 0 ≤ (S' 57 ((S' 1092 0) - 1)) ∧ (S' 57 ((S' 1092 0) - 1)) < (S' 1046 0) ∧ (S' 29 (S' 57 ((S' 1092 0) - 1))) = (S' 53 ((S' 1092 0) - 1)) ∧ 0 ≤ (S' 53 ((S' 1092 0) - 1)) ∧ (S' 53 ((S' 1092 0) - 1)) < (S' 1032 0) ∧ (S' 60 ((S' 1092 0) - 1)) = sm_dp (S' 1100024) (S' 1100023 (S' 57 ((S' 1092 0) - 1))) ∧ sm_TC (S' 61) (S' 62) (S' 27) (S' 1100007) (S' 1100023) (S' 1100024) (40 * ((S' 1092 0) - 1)) (S' 1100023 (S' 57 ((S' 1092 0) - 1))) ∧ sm_LK (S' 1100029) (S' 1076 0) (S' 54 ((S' 1092 0) - 1)) (S' 53 ((S' 1092 0) - 1)) ∧ sm_VO (S' 44) (S' 1076 0) (S' 1007 0) ((S' 55 ((S' 1092 0) - 1))) ((S' 56 ((S' 1092 0) - 1))) ∧ sm_FW (S' 44) (S' 1076 0) (S' 59 ((S' 1092 0) - 1)) ∧ sm_FL (S' 53) (S' 54) (S' 55) (S' 56) (S' 57) (S' 58) (S' 59) (S' 60) (S' 61) (S' 62) (S' 63) (S' 64) (S' 27) (S' 29) (S' 1100007) (S' 1100023) (S' 1100024) (S' 1100025) (S' 26) (S' 1100029) (S' 44) (S' 1046 0) (S' 1032 0) (S' 1076 0) (S' 1007 0) (((S' 1092 0) - 1)) ∧ (S' 58 ((S' 1092 0) - 1)) = (S' 1100007 (S' 57 ((S' 1092 0) - 1))) ∧ sm_SK (S' 63) (S' 64) (S' 44) (S' 1100007) (S' 1100025) (S' 1076 0) (S' 1007 0) (400 * ((S' 1092 0) - 1)) ((S' 58 ((S' 1092 0) - 1))) ((S' 1100025 (S' 57 ((S' 1092 0) - 1))))) ∧ (S 1086 0) ≤ (S' 1086 0) ∧ (S' 1086 0) ≤ (S 1086 0) + 110)
theorem la_enter_0 {x0 : Int} (h0 : x0 = 1) : ¬ x0 = 3 := by omega
theorem la_enter_1 : ¬ (7 : Int) = 6 := by omega
theorem la_enter_2 : (7 : Int) = 7 := by omega
theorem la_enter_3 {x0 : Int} (h0 : x0 = 1) : x0 ≤ 3 := by omega
theorem la_enter_4 {x0 : Int} (h0 : x0 ≤ 3) (h1 : ¬ x0 = 3) : x0 < 3 := by omega
theorem la_enter_5 {x0 x1 : Int} (h0 : x0 ≤ 300) (h1 : 0 ≤ x1) (h2 : x1 < x0) : 0 ≤ x1 ∧ x1 < 300 := by omega
theorem la_enter_6 {x0 x1 : Int} (h0 : x0 ≤ 11) (h1 : 1 ≤ x1) (h2 : x1 < x0) : sv_R (29 + 6 * (x1 - 1)) := by omega
theorem la_enter_7 {x0 x1 x2 x3 : Int} (h0 : 23 ≤ x0) (h1 : x1 ≤ 11) (h2 : 1 ≤ x2) (h3 : x2 < x1) : 2 ≤ x0 ∧ (((-1) : Int) = (-1) ∨ (0 : Int) ≤ (-1) ∧ (-1) < x0) ∧ 0 ≤ 29 + 6 * (x2 - 1) ∧ 29 + 6 * (x2 - 1) ≤ 1000 ∧ (0 : Int) ≤ 3 ∧ (3 : Int) ≤ 3 ∧ ((3 : Int) = 2 → x3 = x0) := by omega
theorem la_enter_8 {x0 : Int} (h0 : x0 = 0) : ¬ x0 = 1 := by omega
theorem la_enter_9 : ¬ (3 : Int) = 1 := by omega
theorem la_enter_10 {x0 x1 x2 : Int} (h0 : x0 < x1) (h1 : x0 = x2) : ¬ x1 = x2 := by omega
theorem la_enter_11 {x0 x1 x2 : Int} (h0 : 23 ≤ x0) (h1 : x1 ≤ 300) (h2 : x2 < x1) (h3 : x2 = x0) : 0 ≤ x2 ∧ x2 < 300 := by omega
theorem la_enter_12 {x0 x1 : Int} (h0 : x0 = 3) : x1 < 1 ∨ ¬ x0 = 1 := by omega
theorem la_enter_13 {x0 : Int} (h0 : x0 = 0) : x0 < 1 := by omega
theorem la_enter_14 : (0 : Int) ≤ 0 := by omega
theorem la_enter_15 {x0 : Int} (h0 : 1 ≤ x0) : 0 ≤ x0 := by omega
theorem la_enter_16 {x0 x1 : Int} (h0 : x0 = x1) : x1 = x0 := by omega
theorem la_enter_17 {x0 : Int} : x0 ≤ x0 := by omega
theorem la_enter_18 {x0 : Int} : x0 ≤ x0 + 0 := by omega
theorem la_enter_19 {x0 x1 : Int} (h0 : x0 ≤ x1) : 0 ≤ x1 - x0 := by omega
theorem la_enter_20 {x0 x1 : Int} (h0 : x0 ≤ 11) (h1 : 1 ≤ x1) (h2 : x1 < x0) : 0 ≤ x1 ∧ x1 < 12 := by omega
theorem la_enter_21 {x0 x1 x2 : Int} (h0 : 1 ≤ x0) (h1 : x1 ≤ 396) (h2 : 1 ≤ x2) (h3 : x2 ≤ x1) (h4 : x0 ≤ 23) : 1 ≤ x0 ∧ x0 ≤ 24 ∧ 0 ≤ x1 ∧ x1 ≤ 400 ∧ 0 ≤ x2 ∧ x2 ≤ x1 := by omega
theorem la_enter_22 {x0 x1 x2 x3 : Int} (h0 : x0 ≤ 600) (h1 : 1 ≤ x1) (h2 : 0 ≤ x2) (h3 : x3 = x2) (h4 : x2 + 1 < x0) (h5 : x1 ≤ 23) : 1 ≤ x1 ∧ x1 ≤ 24 ∧ 0 ≤ x3 ∧ x3 ≤ 600 := by omega
theorem la_enter_23 {x0 x1 : Int} (h0 : x0 = x1) : x1 ≤ x0 := by omega
theorem la_enter_24 {x0 x1 x2 : Int} (h0 : x0 = x1) (h1 : x2 = x0 + 1) : x2 = x1 + 1 := by omega
theorem la_enter_25 {x0 x1 x2 x3 x4 x5 x6 x7 x8 x9 : Int} (h0 : 0 ≤ x0) (h1 : x1 = x2) (h2 : 0 ≤ x2) (h3 : x2 < x3) (h4 : x4 ≤ 396) (h5 : 1 ≤ x5) (h6 : x5 ≤ x4) (h7 : x0 + 1 < x6) (h8 : x7 = x1) (h9 : x8 = x4 + 1 - x5) (h10 : x9 = x4 - x5) : 0 ≤ x2 ∧ x2 < x3 ∧ 0 ≤ x0 + 1 ∧ x0 + 1 < x6 ∧ x7 = x2 ∧ x9 = x8 - 1 ∧ 0 ≤ x9 ∧ x9 ≤ 396 := by omega
theorem la_enter_26 {x0 x1 x2 : Int} (h0 : x0 = x1) (h1 : x2 = x1) : x0 = x2 := by omega
theorem la_enter_27 {x0 x1 x2 : Int} (h0 : 1 ≤ x0) (h1 : x1 = x2 - x0) : x1 ≤ x2 := by omega
theorem la_enter_28 {x0 x1 x2 : Int} (h0 : x0 ≤ 11) (h1 : 1 ≤ x1) (h2 : x1 ≤ 23) (h3 : 1 ≤ x2) (h4 : x2 < x0) : 0 ≤ x1 ∧ x1 < 24 ∧ 0 ≤ x2 ∧ x2 ≤ 11 := by omega
theorem la_enter_29 {x0 x1 : Int} (h0 : 1 ≤ x0) (h1 : x0 < x1) : 1 ≤ x0 ∧ x0 < x1 := by omega
theorem la_enter_30 {x0 : Int} : x0 = x0 := by omega
theorem la_enter_31 {x0 : Int} : ¬ x0 - 1 = x0 := by omega
theorem la_enter_32 {x0 : Int} : ¬ ¬ x0 - 1 = x0 - 1 := by omega
theorem la_enter_33 {x0 : Int} : ¬ ¬ x0 = x0 := by omega
theorem la_enter_34 {x0 x1 : Int} (h0 : x0 = x1 + 1) : ¬ ¬ x0 - 1 = x1 := by omega
theorem la_enter_35 {x0 x1 : Int} (h0 : x0 = x1 + 1) : x1 = x0 - 1 := by omega
theorem la_enter_36 {x0 x1 x2 : Int} (h0 : 23 ≤ x0) (h1 : x1 < x2) (h2 : x1 = x0) : 23 ≤ x2 := by omega
theorem la_enter_37 {x0 x1 : Int} (h0 : x0 = 0) (h1 : x1 = 0) : x0 = 1 → x1 = 1 := by omega
theorem la_enter_38 {x0 x1 : Int} (h0 : 1 ≤ x0) (h1 : x1 = x0 + 1) : 0 ≤ x1 := by omega
theorem la_enter_39 {x0 x1 : Int} (h0 : x0 ≤ 23) (h1 : x1 = x0 + 1) : x1 ≤ 24 := by omega
theorem la_enter_40 {x0 x1 : Int} (h0 : 1 ≤ x0) (h1 : x1 = x0 + 1) : 1 ≤ x1 := by omega
theorem la_enter_41 {x0 x1 x2 : Int} (h0 : x0 = x1) (h1 : 0 ≤ x1) (h2 : x0 = x2) : 0 ≤ x2 := by omega
theorem la_enter_42 {x0 x1 x2 x3 : Int} (h0 : x0 = x1) (h1 : x1 < x2) (h2 : x0 = x3) : x3 < x2 := by omega
theorem la_enter_43 {x0 x1 x2 : Int} (h0 : x0 = x1) (h1 : x0 = x2) : x2 = x1 := by omega
theorem la_enter_44 {x0 x1 : Int} (h0 : x0 = (-1)) (h1 : x1 = x0) : x1 < 0 := by omega
theorem la_enter_45 {x0 x1 x2 x3 x4 : Int} (h0 : x0 = x1) (h1 : x2 = x1) (h2 : x0 = x3) (h3 : x4 = x2) : x4 = x3 := by omega
theorem la_enter_46 {x0 x1 x2 : Int} (h0 : 1 ≤ x0) (h1 : x1 = x0) (h2 : x1 = x2) : 0 ≤ x2 := by omega
theorem la_enter_47 {x0 x1 x2 x3 : Int} (h0 : x0 < x1) (h1 : x2 = x0) (h2 : x2 = x3) : x3 < x1 := by omega
theorem la_enter_48 {x0 x1 x2 : Int} (h0 : x0 = 0) (h1 : x0 = x1) (h2 : x2 = 0) : x1 = x2 := by omega
theorem la_enter_49 {x0 x1 : Int} (h0 : x0 = x1 + 1) : x0 - 1 ≤ x1 := by omega
theorem la_enter_50 {x0 x1 x2 x3 : Int} (h0 : x0 = 0) (h1 : x1 = 0) (h2 : x0 = x2) (h3 : x3 = x1) : x2 = x3 := by omega
theorem la_enter_51 {x0 x1 : Int} (h0 : x0 = 0) (h1 : x0 = x1) : x1 ≤ 0 := by omega
theorem la_enter_52 {x0 x1 x2 x3 : Int} (h0 : x0 ≤ x1) (h1 : x2 ≤ x3 + x0) (h2 : x1 ≤ 100) : x2 ≤ x3 + 110 := by omega
theorem la_enter_53 {x0 x1 : Int} (h0 : ¬ x0 ≤ x1) : x1 < x0 := by omega
theorem la_enter_54 {x0 x1 : Int} (h0 : 1 ≤ x0) (h1 : 0 ≤ x1) : 0 ≤ 100 * x0 + x1 := by omega
theorem la_enter_55 {x0 x1 x2 x3 : Int} (h0 : x0 ≤ 11) (h1 : x1 < x0) (h2 : ¬ x2 ≤ x3) (h3 : x2 ≤ 100) : 100 * x1 + x3 < 1200 := by omega
theorem la_enter_56 {x0 : Int} (h0 : x0 = 0) : ¬ ¬ x0 = 0 := by omega
theorem la_enter_57 {x0 x1 : Int} (h0 : 0 ≤ x0) (h1 : x0 = x1) : 0 ≤ x1 := by omega
theorem la_enter_58 {x0 x1 x2 x3 : Int} (h0 : x0 ≤ x1) (h1 : x2 < x0) (h2 : x2 = x3) : x3 < x1 := by omega
theorem la_enter_59 {x0 : Int} (h0 : x0 = 0) : 0 ≤ x0 := by omega
theorem la_enter_60 {x0 : Int} (h0 : x0 = 0) : x0 ≤ 7 := by omega
theorem la_enter_61 {x0 x1 : Int} (h0 : 31 ≤ x0) : x1 = 6 → (0 : Int) ≤ 0 ∧ 0 < x0 := by omega
theorem la_enter_62 {x0 x1 x2 x3 : Int} (h0 : 23 ≤ x0) (h1 : x0 ≤ x1) (h2 : x2 = 0) : x2 = 7 → (0 : Int) ≤ 0 ∧ 0 < x1 ∧ ¬ x3 = 3 := by omega
theorem la_enter_63 {x0 x1 x2 : Int} (h0 : x0 = 3) (h1 : x1 = 0) : x0 = 2 → x2 = 0 → x1 = 5 ∧ (0 : Int) ≤ 0 ∧ (0 : Int) ≤ 100 := by omega
theorem la_enter_64 {x0 x1 x2 x3 : Int} (h0 : x0 ≤ 1900000000) (h1 : x1 ≤ x0 + x2) (h2 : ¬ x3 ≤ x2) (h3 : x3 ≤ 100) : x1 < 2000000000 := by omega
theorem la_enter_65 {x0 x1 : Int} (h0 : 0 ≤ x0) (h1 : sv_R x1) (h2 : ¬ x1 ≤ x0) : sv_R (x0 + 1) := by omega
theorem la_enter_66 {x0 : Int} (h0 : 0 ≤ x0) : 0 ≤ x0 + 1 := by omega
theorem la_enter_67 {x0 x1 : Int} (h0 : ¬ x0 ≤ x1) : x1 + 1 ≤ x0 := by omega
theorem la_enter_68 {x0 : Int} : x0 + 1 = x0 + 1 := by omega
theorem la_enter_69 {x0 x1 x2 x3 : Int} (h0 : x0 ≤ x1) (h1 : x1 ≤ x0 + x2) (h2 : x1 ≤ x3) (h3 : x3 ≤ x1 + 1) : x0 ≤ x3 ∧ x3 ≤ x0 + (x2 + 1) := by omega
theorem la_enter_70 {x0 x1 : Int} : x0 - (x1 + 1) < x0 - x1 := by omega
theorem la_enter_71 {x0 : Int} (h0 : 0 ≤ x0) (h1 : ¬ x0 = 0) : 0 < x0 := by omega
theorem la_enter_72 {x0 x1 : Int} (h0 : x0 = 0) : x0 = 1 → x1 = 1 := by omega
theorem la_enter_73 {x0 x1 : Int} (h0 : 0 ≤ x0) (h1 : x1 = x0) : 0 ≤ x1 := by omega
theorem la_enter_74 {x0 x1 x2 : Int} (h0 : x0 = x1) (h1 : x1 + 1 < x2) : x0 < x2 := by omega
theorem la_enter_75 {x0 x1 x2 : Int} (h0 : x0 = x1) (h1 : x2 = x0) : x2 = x1 := by omega
theorem la_enter_76 {x0 x1 x2 : Int} (h0 : x0 = x1) (h1 : x2 = x1) : x2 = x0 := by omega
theorem la_enter_77 {x0 : Int} : x0 = x0 - 1 + 1 := by omega
theorem la_enter_78 {x0 x1 x2 : Int} (h0 : x0 ≤ x1) (h1 : x1 ≤ x2) : x0 ≤ x2 := by omega
theorem la_enter_79 {x0 x1 x2 x3 x4 : Int} (h0 : x0 ≤ x1 + x2) (h1 : ¬ x3 ≤ x2) (h2 : x4 ≤ x0 + 1) (h3 : x3 ≤ 100) : x4 ≤ x1 + 110 := by omega
theorem la_enter_80 {x0 : Int} (h0 : x0 = 1) : 0 ≤ x0 := by omega
theorem la_enter_81 {x0 x1 x2 x3 : Int} (h0 : x0 = 3) (h1 : x1 = 7) : x0 = 2 → x2 = 0 → x1 = 5 ∧ 0 ≤ x3 ∧ x3 ≤ 100 := by omega
theorem la_enter_82 {x0 x1 x2 x3 x4 x5 : Int} (h0 : 1 ≤ x0) (h1 : x1 ≤ 396) (h2 : x2 ≤ x1) (h3 : x3 ≤ x2 - 1) (h4 : x4 + x3 = 400 * (x0 - 1) + x1) (h5 : x0 ≤ 23) (h6 : 0 ≤ x5) : x5 < x3 → 0 ≤ x4 + x5 ∧ x4 + x5 < 9600 := by omega
theorem la_enter_83 {x0 x1 x2 x3 : Int} (h0 : x0 = 3) : x0 = 2 → x1 = 0 → x2 = 5 ∧ 0 ≤ x3 ∧ x3 ≤ 100 := by omega
theorem la_enter_84 {x0 x1 x2 x3 x4 : Int} : x0 = 0 → (x1 = 0 → (¬ x0 = 0 → (x2 < x3 → 0 = x4) ∧ (¬ x2 < x3 → (0 : Int) = 0)) ∧ (x0 = 0 → ¬ x1 = 0 → (0 : Int) = 7) ∧ (x0 = 0 → x1 = 0 → (0 : Int) = 0)) ∧ (¬ x1 = 0 → (¬ x0 = 0 → (x2 < x3 → 7 = x4) ∧ (¬ x2 < x3 → (7 : Int) = 0)) ∧ (x0 = 0 → ¬ x1 = 0 → (7 : Int) = 7) ∧ (x0 = 0 → x1 = 0 → (7 : Int) = 0)) := by omega
theorem la_enter_85 {x0 x1 x2 x3 x4 : Int} (h0 : x0 = 1) (h1 : x1 < x2 → x3 = x4) (h2 : ¬ x1 < x2 → x3 = 0) : ¬ x0 = 0 → (x1 < x2 → x3 = x4) ∧ (¬ x1 < x2 → x3 = 0) := by omega
theorem la_enter_86 {x0 x1 x2 : Int} (h0 : x0 = 1) : x0 = 0 → ¬ x1 = 0 → x2 = 7 := by omega
theorem la_enter_87 {x0 : Int} (h0 : x0 = 1) (h1 : x0 = 0) : False := by omega
theorem la_enter_88 {x0 : Int} : ¬ x0 = 0 → (0 : Int) = 0 ∨ (0 : Int) = 1 := by omega
theorem la_enter_89 {x0 : Int} (h0 : ¬ ¬ x0 = 0) : ¬ x0 = 1 := by omega
theorem la_enter_90 {x0 x1 : Int} : ¬ x0 = x1 → (0 : Int) = 0 ∨ (0 : Int) = 1 := by omega
theorem la_enter_91 : (1 : Int) = 0 ∨ (1 : Int) = 1 := by omega
theorem la_enter_92 {x0 x1 : Int} : x0 ≤ x1 → (0 : Int) = 0 ∨ (0 : Int) = 1 := by omega
theorem la_enter_93 {x0 : Int} (h0 : x0 ≤ 1) (h1 : 0 < x0) : x0 = 1 := by omega
theorem la_enter_94 {x0 x1 : Int} (h0 : 23 ≤ x0) (h1 : x0 ≤ x1) : 23 ≤ x1 := by omega
theorem la_enter_95 {x0 : Int} : x0 ≤ x0 + 110 := by omega
set_option maxHeartbeats 8000000 in
theorem f_enter : ∀ (p1 : Int) (p2 : Int) (p3 : Int) (p4 : Int) (p5 : Int) (S : sv_S), sm_ok S → sv_R p1 → sv_R p2 → sv_R p3 → sv_R p4 → sv_R p5 → ((S 1075 0) = 0 ∧ (S 1073 0) = 1 ∧ sm_PL (S 1100020) (S 51) (S 52) (S 46) (S 47) (S 1076 0) (S 1086 0) ∧ sm_FR (S 1100020) (S 52) (S 1100021) (S 1100022) (3000 - (S 1084 0)) (S 1085 0) ∧ sm_PV (S 1100020) (S 48) (S 49) (S 50) (S 44) (S 1076 0) (S 1007 0) ∧ sm_AL (S 1100020) (S 48) (S 49) (S 50) (S 44) (S 1076 0) (S 1100032 0) ∧ sm_SV (S 1100020) (S 48) (S 1100029) (S 32) (S 33) (S 1076 0) (S 1032 0) ∧ 0 ≤ (S 1076 0) ∧ (S 1076 0) ≤ 300 ∧ 0 ≤ (S 1084 0) ∧ (S 1084 0) ≤ 3000 ∧ 0 ≤ (S 1086 0) ∧ sm_SC (S 1100029) (S 44) (S 45) (S 43) (S 21) (S 1076 0) (S 1032 0) ∧ sm_PO (S 42) (S 1076 0) ∧ (S 1100032 0) = -1 ∧ sm_FO (S 44) (S 45) (S 1076 0) ∧ 23 ≤ (S 1076 0) ∧ 31 ≤ (S 1007 0) ∧ (S 1007 0) ≤ 400 ∧ sm_LN (S 4) 400 (S 1007 0) ∧ sm_CT (S 26) (S 27) (S 28) (S 29) (S 1100007) (S 1100023) (S 1100024) (S 1100025) (S 21) (S 1046 0) (S 1032 0) (S 1008 0) (S 1055 0) ∧ sm_LS (S 26) (S 1100007) (S 1100025) (S 1046 0) ∧ sm_CL (S 1100007) (S 1100023) (S 1100025) (S 1046 0) ∧ 1 ≤ (S 1032 0) ∧ (S 1032 0) ≤ 11 ∧ 0 ≤ (S 1046 0) ∧ (S 1046 0) ≤ 600 ∧ 31 ≤ (S 1008 0) ∧ (S 1008 0) ≤ (S 1007 0) ∧ 0 ≤ (S 1055 0) ∧ (S 1055 0) ≤ 19 ∧ 1 ≤ (S 1092 0) ∧ (S 1092 0) ≤ 24 ∧ 0 ≤ (S 1100033 0) ∧ (S 1100033 0) < (S 1046 0) ∧ (S 29 (S 1100033 0)) = (S 53 ((S 1092 0) - 1)) ∧ 0 ≤ (S 53 ((S 1092 0) - 1)) ∧ (S 53 ((S 1092 0) - 1)) < (S 1032 0) ∧ (S 60 ((S 1092 0) - 1)) = sm_dp (S 1100024) (S 1100023 (S 1100033 0)) ∧ sm_TC (S 61) (S 62) (S 27) (S 1100007) (S 1100023) (S 1100024) (40 * ((S 1092 0) - 1)) (S 1100023 (S 1100033 0)) ∧ sm_LK (S 1100029) (S 1076 0) (S 54 ((S 1092 0) - 1)) (S 53 ((S 1092 0) - 1)) ∧ sm_VO (S 44) (S 1076 0) (S 1007 0) ((S 55 ((S 1092 0) - 1))) ((S 56 ((S 1092 0) - 1))) ∧ sm_FW (S 44) (S 1076 0) (S 59 ((S 1092 0) - 1)) ∧ sm_FL (S 53) (S 54) (S 55) (S 56) (S 57) (S 58) (S 59) (S 60) (S 61) (S 62) (S 63) (S 64) (S 27) (S 29) (S 1100007) (S 1100023) (S 1100024) (S 1100025) (S 26) (S 1100029) (S 44) (S 1046 0) (S 1032 0) (S 1076 0) (S 1007 0) (((S 1092 0) - 1)) ∧ (S 57 ((S 1092 0) - 1)) = (S 1100033 0) ∧ 0 ≤ (S 58 ((S 1092 0) - 1)) ∧ (S 58 ((S 1092 0) - 1)) ≤ 400 ∧ sm_SK (S 63) (S 64) (S 44) (S 1100007) (S 1100025) (S 1076 0) (S 1007 0) (400 * ((S 1092 0) - 1)) ((S 58 ((S 1092 0) - 1))) ((S 1100034 0)) ∧ -1 ≤ (S 1100034 0) ∧ (S 1100034 0) < (S 1046 0) ∧ (0 ≤ (S 1100034 0) → (S 26 (S 1100034 0)) = 29) ∧ (S 58 ((S 1092 0) - 1)) = (S 1100007 (S 1100033 0)) ∧ (S 1100034 0) = (S 1100025 (S 1100033 0)) ∧ (0 ≤ (S 1100023 (S 1100033 0)) → (S 1100007 (S 1100023 (S 1100033 0))) ≤ (S 58 ((S 1092 0) - 1))) ∧ (S 58 ((S 1092 0) - 1)) ≤ 396 ∧ 1 ≤ p4 ∧ p4 ≤ (S 58 ((S 1092 0) - 1)) ∧ (0 ≤ (S 1100034 0) → (S 1100007 (S 1100034 0)) ≤ (S 58 ((S 1092 0) - 1)) - p4) ∧ (S 1100033 0) + 1 < (S 1046 0) ∧ (S 29 ((S 1100033 0) + 1)) = (S 29 (S 1100033 0)) ∧ (S 1100007 ((S 1100033 0) + 1)) = (S 58 ((S 1092 0) - 1)) + 1 - p4 ∧ (S 1100023 ((S 1100033 0) + 1)) = (S 1100023 (S 1100033 0)) ∧ (S 1100025 ((S 1100033 0) + 1)) = (S 1100034 0) ∧ (0 ≤ (S 1100023 (S 1100033 0)) → (S 1100007 (S 1100023 (S 1100033 0))) ≤ (S 58 ((S 1092 0) - 1)) - p4) ∧ 0 ≤ (S 1115 0) ∧ (S 1115 0) ≤ p4 - 1 ∧ (S 1114 0) + (S 1115 0) = (400 * ((S 1092 0) - 1) + (S 58 ((S 1092 0) - 1))) ∧ (∀ g : Int, 0 ≤ g → g < (S 1032 0) → 0 ≤ (S 30 g) ∧ (S 30 g) < (S 1046 0) ∧ (S 1100007 (S 30 g)) = 0 ∧ (S 1100023 (S 30 g)) = -1 ∧ 0 ≤ (S 33 g) ∧ (S 33 g) ≤ 100 ∧ 0 ≤ (S 20 g) ∧ (S 20 g) ≤ 8) ∧ sm_VN (S 32) (S 33) (S 1032 0) (S 1008 0) ∧ (∀ f : Int, 0 ≤ f → f < (S 1032 0) → 0 ≤ (S 30 f) ∧ (S 30 f) < (S 1046 0) ∧ (S 29 (S 30 f)) = f ∧ (S 1100007 (S 30 f)) = 0 ∧ (S 1100023 (S 30 f)) = -1 ∧ (S 1100025 (S 30 f)) = -1) ∧ (S 1086 0) ≤ 1900000000 ∧ (S 1092 0) ≤ 23 ∧ 0 ≤ p1 ∧ p1 < (S 1076 0) ∧ (S 44 p1) = 1 ∧ 1 ≤ (S 45 p1) ∧ sm_VO (S 44) (S 1076 0) (S 1007 0) (p2) (p3) ∧ sm_FW (S 44) (S 1076 0) p5) → ((sm_SC (S 1100029) (S 44) (S 45) (S 43) (S 21) (S 1076 0) (S 1032 0) → 0 ≤ p1 → p1 < (S 1076 0) → (S 44 p1) = 1 → 1 ≤ (S 45 p1) → (S 45 p1) < (S 1032 0) ∧ sm_LK (S 1100029) (S 1076 0) (S 43 p1) (S 21 (S 45 p1))) → ((0 ≤ p1 → p1 < (S 1076 0) → ¬ (S 44 p1) = 3 → sm_VO (S 44) (S 1076 0) (S 1007 0) (7) (p1)) → (((S 1100023 ((S 1100033 0) + 1)) = (S 1100023 (S 1100033 0)) → sm_dp (S 1100024) (S 1100023 ((S 1100033 0) + 1)) = sm_dp (S 1100024) (S 1100023 (S 1100033 0))) → (((S 1100025 ((S 1100033 0) + 1)) = (S 1100034 0) → (0 ≤ (S 1100034 0) → (S 1100007 (S 1100034 0)) ≤ (S 58 ((S 1092 0) - 1)) - p4) → (0 ≤ (S 1100025 ((S 1100033 0) + 1)) → (S 1100007 (S 1100025 ((S 1100033 0) + 1))) ≤ (S 58 ((S 1092 0) - 1)) - p4)) → (((S 1100023 ((S 1100033 0) + 1)) = (S 1100023 (S 1100033 0)) → (0 ≤ (S 1100023 (S 1100033 0)) → (S 1100007 (S 1100023 (S 1100033 0))) ≤ (S 58 ((S 1092 0) - 1)) - p4) → (0 ≤ (S 1100023 ((S 1100033 0) + 1)) → (S 1100007 (S 1100023 ((S 1100033 0) + 1))) ≤ (S 58 ((S 1092 0) - 1)) - p4)) → (0 ≤ p1 ∧ p1 < 300) ∧ (sv_R (S 45 p1) → (sv_R ((29 : Int) + ((6 : Int) * ((S 45 p1) - (1 : Int))))) ∧ (sm_PL (S 1100020) (S 51) (S 52) (S 46) (S 47) (S 1076 0) (S 1086 0) ∧ sm_FR (S 1100020) (S 52) (S 1100021) (S 1100022) (3000 - (S 1084 0)) (S 1085 0) ∧ sm_PV (S 1100020) (S 48) (S 49) (S 50) (S 44) (S 1076 0) (S 1007 0) ∧ sm_AL (S 1100020) (S 48) (S 49) (S 50) (S 44) (S 1076 0) (S 1100032 0) ∧ sm_SV (S 1100020) (S 48) (S 1100029) (S 32) (S 33) (S 1076 0) (S 1032 0) ∧ 0 ≤ (S 1076 0) ∧ (S 1076 0) ≤ 300 ∧ 0 ≤ (S 1084 0) ∧ (S 1084 0) ≤ 3000 ∧ 0 ≤ (S 1086 0) ∧ sm_SC (S 1100029) (S 44) (S 45) (S 43) (S 21) (S 1076 0) (S 1032 0) ∧ sm_PO (S 42) (S 1076 0) ∧ 2 ≤ (S 1076 0) ∧ ((-1 : Int) = -1 ∨ (0 ≤ (-1 : Int) ∧ (-1 : Int) < (S 1076 0))) ∧ 0 ≤ ((29 : Int) + ((6 : Int) * ((S 45 p1) - (1 : Int)))) ∧ ((29 : Int) + ((6 : Int) * ((S 45 p1) - (1 : Int)))) ≤ 1000 ∧ 0 ≤ (3 : Int) ∧ (3 : Int) ≤ 3 ∧ ((3 : Int) = 2 → (S 1100032 0) = (S 1076 0))) ∧ (∀ r14 : Int, sv_R r14 → ∀ g10 : sv_S, (sm_PL (S 1100020) (S 51) (S 52) (g10 46) (g10 47) (g10 1076 0) (S 1086 0) ∧ sm_FR (S 1100020) (S 52) (S 1100021) (S 1100022) (3000 - (S 1084 0)) (S 1085 0) ∧ sm_PV (S 1100020) (S 48) (S 49) (S 50) (g10 44) (g10 1076 0) (S 1007 0) ∧ sm_AL (S 1100020) (S 48) (S 49) (S 50) (g10 44) (g10 1076 0) (S 1100032 0) ∧ sm_SV (S 1100020) (S 48) (g10 1100029) (S 32) (S 33) (g10 1076 0) (S 1032 0) ∧ 0 ≤ (g10 1076 0) ∧ (g10 1076 0) ≤ 300 ∧ 0 ≤ (S 1084 0) ∧ (S 1084 0) ≤ 3000 ∧ 0 ≤ (S 1086 0) ∧ sm_SC (g10 1100029) (g10 44) (g10 45) (g10 43) (S 21) (g10 1076 0) (S 1032 0) ∧ sm_PO (g10 42) (g10 1076 0) ∧ 0 ≤ r14 ∧ r14 < (g10 1076 0) ∧ ((S 1075 0) = 1 → (g10 1075 0) = 1) ∧ (S 1076 0) ≤ (g10 1076 0) ∧ sm_F1 (S 44) (g10 44) (S 1076 0) ∧ sm_F1 (S 1100029) (g10 1100029) (S 1076 0) ∧ sm_F1 (S 42) (g10 42) (S 1076 0) ∧ sm_F1 (S 43) (g10 43) (S 1076 0) ∧ sm_F1 (S 45) (g10 45) (S 1076 0) ∧ ((g10 1075 0) = 0 → r14 = (S 1076 0) ∧ (g10 1076 0) = r14 + 1 ∧ (g10 44 r14) = (3 : Int) ∧ (g10 1100029 r14) = 0 ∧ (g10 45 r14) = 0 ∧ (g10 43 r14) = -1 ∧ (g10 42 r14) = (-1 : Int)) ∧ ((g10 1076 0) = (S 1076 0) → r14 = 0) ∧ ((g10 1075 0) = 1 → (S 1075 0) = 0 → (g10 1076 0) = (S 1076 0)) ∧ (sm_FO (S 44) (S 45) (S 1076 0) → ¬ (3 : Int) = 1 → sm_FO (g10 44) (g10 45) (g10 1076 0))) → ((0 ≤ (g10 1075 0) ∧ (g10 1075 0) ≤ 1) → ((((g10 1075 0) = (0 : Int)) → (sv_R (g10 43 p1) → (0 ≤ r14 ∧ r14 < 300) ∧ ((sm_PL (S 1100020) (S 51) (S 52) (g10 46) (g10 47) (g10 1076 0) (S 1086 0) ∧ sm_FR (S 1100020) (S 52) (S 1100021) (S 1100022) (3000 - (S 1084 0)) (S 1085 0) ∧ sm_PV (S 1100020) (S 48) (S 49) (S 50) (g10 44) (g10 1076 0) (S 1007 0) ∧ sm_AL (S 1100020) (S 48) (S 49) (S 50) (g10 44) (g10 1076 0) (S 1100032 0) ∧ sm_SV (S 1100020) (S 48) (g10 1100029) (S 32) (S 33) (g10 1076 0) (S 1032 0) ∧ 0 ≤ (g10 1076 0) ∧ (g10 1076 0) ≤ 300 ∧ 0 ≤ (S 1084 0) ∧ (S 1084 0) ≤ 3000 ∧ 0 ≤ (S 1086 0) ∧ sm_SC (g10 1100029) (g10 44) (g10 45) (fun i' : Int => if i' = r14 then (g10 43 p1) else (g10 43) i') (S 21) (g10 1076 0) (S 1032 0) ∧ sm_PO (g10 42) (g10 1076 0) ∧ (g10 1075 0) = 0 ∧ 0 ≤ (0 : Int) ∧ (0 : Int) ≤ (S 33 (S 45 p1)) ∧ sm_SJ (S 1100020) (S 48) (S 32) r14 (S 45 p1) (0 : Int) ∧ (S 1086 0) ≤ (S 1086 0) ∧ (S 1086 0) ≤ (S 1086 0) + (0 : Int)) ∧ (∀ l8_22 : Int, sv_R l8_22 → ∀ g21 : sv_S, (sm_PL (g21 1100020) (g21 51) (g21 52) (g21 46) (g21 47) (g10 1076 0) (g21 1086 0) ∧ sm_FR (g21 1100020) (g21 52) (g21 1100021) (g21 1100022) (3000 - (g21 1084 0)) (g21 1085 0) ∧ sm_PV (g21 1100020) (g21 48) (g21 49) (g21 50) (g10 44) (g10 1076 0) (S 1007 0) ∧ sm_AL (g21 1100020) (g21 48) (g21 49) (g21 50) (g10 44) (g10 1076 0) (S 1100032 0) ∧ sm_SV (g21 1100020) (g21 48) (g10 1100029) (S 32) (S 33) (g10 1076 0) (S 1032 0) ∧ 0 ≤ (g10 1076 0) ∧ (g10 1076 0) ≤ 300 ∧ 0 ≤ (g21 1084 0) ∧ (g21 1084 0) ≤ 3000 ∧ 0 ≤ (g21 1086 0) ∧ sm_SC (g10 1100029) (g10 44) (g10 45) (fun i' : Int => if i' = r14 then (g10 43 p1) else (g10 43) i') (S 21) (g10 1076 0) (S 1032 0) ∧ sm_PO (g10 42) (g10 1076 0) ∧ (g21 1075 0) = 0 ∧ 0 ≤ l8_22 ∧ l8_22 ≤ (S 33 (S 45 p1)) ∧ sm_SJ (g21 1100020) (g21 48) (S 32) r14 (S 45 p1) l8_22 ∧ (S 1086 0) ≤ (g21 1086 0) ∧ (g21 1086 0) ≤ (S 1086 0) + l8_22) → (0 ≤ (S 33 (S 45 p1)) - l8_22) ∧ (0 ≤ (S 45 p1) ∧ (S 45 p1) < 12) ∧ (sv_R (S 33 (S 45 p1)) → ((((S 33 (S 45 p1)) ≤ l8_22) → (sv_R ((S 45 p1))) ∧ ((0 ≤ r14 → r14 < (g10 1076 0) → 1 ≤ (S 45 p1) → sm_LK (fun i' : Int => if i' = r14 then ((S 45 p1)) else (g10 1100029) i') (g10 1076 0) r14 (S 45 p1)) → (1 ≤ (S 1092 0) ∧ (S 1092 0) ≤ 24 ∧ 0 ≤ (S 58 ((S 1092 0) - 1)) ∧ (S 58 ((S 1092 0) - 1)) ≤ 400 ∧ 0 ≤ p4 ∧ p4 ≤ (S 58 ((S 1092 0) - 1))) ∧ (∀ g35 : sv_S, ((g35 58 ((S 1092 0) - 1)) = (S 58 ((S 1092 0) - 1)) - p4 ∧ (∀ k : Int, ¬ k = (S 1092 0) - 1 → (g35 58 k) = (S 58 k))) → (1 ≤ (S 1092 0) ∧ (S 1092 0) ≤ 24 ∧ 0 ≤ (S 57 ((S 1092 0) - 1)) ∧ (S 57 ((S 1092 0) - 1)) ≤ 600) ∧ (∀ g41 : sv_S, ((g41 57 ((S 1092 0) - 1)) = (S 57 ((S 1092 0) - 1)) + 1 ∧ (∀ k : Int, ¬ k = (S 1092 0) - 1 → (g41 57 k) = (S 57 k))) → ((sm_CT (S 26) (S 27) (S 28) (S 29) (S 1100007) (S 1100023) (S 1100024) (S 1100025) (S 21) (S 1046 0) (S 1032 0) (S 1008 0) (S 1055 0) → sm_FL (S 53) (S 54) (S 55) (S 56) (g41 57) (g35 58) (S 59) (S 60) (S 61) (S 62) (S 63) (S 64) (S 27) (S 29) (S 1100007) (S 1100023) (S 1100024) (S 1100025) (S 26) (fun i' : Int => if i' = r14 then ((S 45 p1)) else (g10 1100029) i') (g10 44) (S 1046 0) (S 1032 0) (g10 1076 0) (S 1007 0) (((S 1092 0) - 1)) → (g41 57 ((S 1092 0) - 1)) = ((S 1100033 0) + 1) → 0 ≤ (S 53 ((S 1092 0) - 1)) ∧ (S 53 ((S 1092 0) - 1)) < (S 1032 0) ∧ 0 ≤ ((S 1100033 0) + 1) ∧ ((S 1100033 0) + 1) < (S 1046 0) ∧ (S 29 ((S 1100033 0) + 1)) = (S 53 ((S 1092 0) - 1)) ∧ (g35 58 ((S 1092 0) - 1)) = (S 1100007 ((S 1100033 0) + 1)) - 1 ∧ 0 ≤ (g35 58 ((S 1092 0) - 1)) ∧ (g35 58 ((S 1092 0) - 1)) ≤ 396 → (S 60 ((S 1092 0) - 1)) = sm_dp (S 1100024) (S 1100023 ((S 1100033 0) + 1)) → sm_TC (S 61) (S 62) (S 27) (S 1100007) (S 1100023) (S 1100024) (40 * ((S 1092 0) - 1)) (S 1100023 ((S 1100033 0) + 1)) → sm_SK (S 63) (S 64) (g10 44) (S 1100007) (S 1100025) (g10 1076 0) (S 1007 0) (400 * ((S 1092 0) - 1)) ((g35 58 ((S 1092 0) - 1))) ((S 1100025 ((S 1100033 0) + 1))) → (0 ≤ (S 1100025 ((S 1100033 0) + 1)) → (S 1100007 (S 1100025 ((S 1100033 0) + 1))) ≤ (S 58 ((S 1092 0) - 1)) - p4) → (0 ≤ (S 1100023 ((S 1100033 0) + 1)) → (S 1100007 (S 1100023 ((S 1100033 0) + 1))) ≤ (S 58 ((S 1092 0) - 1)) - p4) → (g35 58 ((S 1092 0) - 1)) = (S 58 ((S 1092 0) - 1)) - p4 → sm_LK (fun i' : Int => if i' = r14 then ((S 45 p1)) else (g10 1100029) i') (g10 1076 0) (S 54 ((S 1092 0) - 1)) (S 53 ((S 1092 0) - 1)) → sm_VO (g10 44) (g10 1076 0) (S 1007 0) ((S 55 ((S 1092 0) - 1))) ((S 56 ((S 1092 0) - 1))) → sm_FW (g10 44) (g10 1076 0) (S 59 ((S 1092 0) - 1)) → sm_FL (S 53) (S 54) (S 55) (S 56) (g41 57) (g35 58) (S 59) (S 60) (S 61) (S 62) (S 63) (S 64) (S 27) (S 29) (S 1100007) (S 1100023) (S 1100024) (S 1100025) (S 26) (fun i' : Int => if i' = r14 then ((S 45 p1)) else (g10 1100029) i') (g10 44) (S 1046 0) (S 1032 0) (g10 1076 0) (S 1007 0) ((S 1092 0))) → (0 ≤ (S 1092 0) ∧ (S 1092 0) < 24 ∧ 0 ≤ (S 45 p1) ∧ (S 45 p1) ≤ 11) ∧ (∀ g48 : sv_S, ((g48 1092 0) = (S 1092 0) + 1 ∧ (g48 53 (S 1092 0)) = (S 45 p1) ∧ (∀ k : Int, ¬ k = (S 1092 0) → (g48 53 k) = (S 53 k)) ∧ (g48 54 (S 1092 0)) = r14 ∧ (∀ k : Int, ¬ k = (S 1092 0) → (g48 54 k) = (S 54 k)) ∧ (g48 55 (S 1092 0)) = p2 ∧ (∀ k : Int, ¬ k = (S 1092 0) → (g48 55 k) = (S 55 k)) ∧ (g48 56 (S 1092 0)) = p3 ∧ (∀ k : Int, ¬ k = (S 1092 0) → (g48 56 k) = (S 56 k)) ∧ (g48 57 (S 1092 0)) = (S 30 (S 45 p1)) ∧ (∀ k : Int, ¬ k = (S 1092 0) → (g48 57 k) = (g41 57 k)) ∧ (g48 58 (S 1092 0)) = 0 ∧ (∀ k : Int, ¬ k = (S 1092 0) → (g48 58 k) = (g35 58 k)) ∧ (g48 59 (S 1092 0)) = p5 ∧ (∀ k : Int, ¬ k = (S 1092 0) → (g48 59 k) = (S 59 k)) ∧ (g48 60 (S 1092 0)) = 0 ∧ (∀ k : Int, ¬ k = (S 1092 0) → (g48 60 k) = (S 60 k))) → (((S 1100023 (g48 57 ((g48 1092 0) - 1))) < 0 → sm_dp (S 1100024) (S 1100023 (g48 57 ((g48 1092 0) - 1))) = 0) → (sm_PL (g21 1100020) (g21 51) (g21 52) (g21 46) (g21 47) (g10 1076 0) (g21 1086 0) ∧ sm_FR (g21 1100020) (g21 52) (g21 1100021) (g21 1100022) (3000 - (g21 1084 0)) (g21 1085 0) ∧ sm_PV (g21 1100020) (g21 48) (g21 49) (g21 50) (g10 44) (g10 1076 0) (S 1007 0) ∧ sm_AL (g21 1100020) (g21 48) (g21 49) (g21 50) (g10 44) (g10 1076 0) (S 1100032 0) ∧ sm_SV (g21 1100020) (g21 48) (fun i' : Int => if i' = r14 then ((S 45 p1)) else (g10 1100029) i') (S 32) (S 33) (g10 1076 0) (S 1032 0) ∧ 0 ≤ (g10 1076 0) ∧ (g10 1076 0) ≤ 300 ∧ 0 ≤ (g21 1084 0) ∧ (g21 1084 0) ≤ 3000 ∧ 0 ≤ (g21 1086 0) ∧ sm_SC (fun i' : Int => if i' = r14 then ((S 45 p1)) else (g10 1100029) i') (g10 44) (g10 45) (fun i' : Int => if i' = r14 then (g10 43 p1) else (g10 43) i') (S 21) (g10 1076 0) (S 1032 0) ∧ sm_PO (g10 42) (g10 1076 0) ∧ ((g21 1075 0) = 0 → (S 1100032 0) = -1 ∧ sm_FO (g10 44) (g10 45) (g10 1076 0)) ∧ 23 ≤ (g10 1076 0) ∧ 31 ≤ (S 1007 0) ∧ (S 1007 0) ≤ 400 ∧ sm_LN (S 4) 400 (S 1007 0) ∧ (S 1008 0) ≤ (S 1007 0) ∧ ((S 1075 0) = 1 → (g21 1075 0) = 1) ∧ 0 ≤ (g48 1092 0) ∧ (g48 1092 0) ≤ 24 ∧ ((g21 1075 0) = 0 → (S 1073 0) = 1 → 1 ≤ (g48 1092 0) ∧ (g48 1092 0) ≤ 24 ∧ 0 ≤ (g48 57 ((g48 1092 0) - 1)) ∧ (g48 57 ((g48 1092 0) - 1)) < (S 1046 0) ∧ (S 29 (g48 57 ((g48 1092 0) - 1))) = (g48 53 ((g48 1092 0) - 1)) ∧ 0 ≤ (g48 53 ((g48 1092 0) - 1)) ∧ (g48 53 ((g48 1092 0) - 1)) < (S 1032 0) ∧ (g48 60 ((g48 1092 0) - 1)) = sm_dp (S 1100024) (S 1100023 (g48 57 ((g48 1092 0) - 1))) ∧ sm_TC (S 61) (S 62) (S 27) (S 1100007) (S 1100023) (S 1100024) (40 * ((g48 1092 0) - 1)) (S 1100023 (g48 57 ((g48 1092 0) - 1))) ∧ sm_LK (fun i' : Int => if i' = r14 then ((S 45 p1)) else (g10 1100029) i') (g10 1076 0) (g48 54 ((g48 1092 0) - 1)) (g48 53 ((g48 1092 0) - 1)) ∧ sm_VO (g10 44) (g10 1076 0) (S 1007 0) ((g48 55 ((g48 1092 0) - 1))) ((g48 56 ((g48 1092 0) - 1))) ∧ sm_FW (g10 44) (g10 1076 0) (g48 59 ((g48 1092 0) - 1)) ∧ sm_FL (g48 53) (g48 54) (g48 55) (g48 56) (g48 57) (g48 58) (g48 59) (g48 60) (S 61) (S 62) (S 63) (S 64) (S 27) (S 29) (S 1100007) (S 1100023) (S 1100024) (S 1100025) (S 26) (fun i' : Int => if i' = r14 then ((S 45 p1)) else (g10 1100029) i') (g10 44) (S 1046 0) (S 1032 0) (g10 1076 0) (S 1007 0) (((g48 1092 0) - 1)) ∧ (g48 58 ((g48 1092 0) - 1)) = (S 1100007 (g48 57 ((g48 1092 0) - 1))) ∧ sm_SK (S 63) (S 64) (g10 44) (S 1100007) (S 1100025) (g10 1076 0) (S 1007 0) (400 * ((g48 1092 0) - 1)) ((g48 58 ((g48 1092 0) - 1))) ((S 1100025 (g48 57 ((g48 1092 0) - 1))))) ∧ (S 1086 0) ≤ (g21 1086 0) ∧ (g21 1086 0) ≤ (S 1086 0) + 110)))))))) ∧ ((¬ ((S 33 (S 45 p1)) ≤ l8_22)) → ((sm_VN (S 32) (S 33) (S 1032 0) (S 1008 0) → 1 ≤ (S 45 p1) → (S 45 p1) < (S 1032 0) → 0 ≤ l8_22 → l8_22 < (S 33 (S 45 p1)) → 0 ≤ (S 32 (100 * (S 45 p1) + l8_22)) ∧ (S 32 (100 * (S 45 p1) + l8_22)) < (S 1008 0)) → (0 ≤ (((100 : Int) * (S 45 p1)) + l8_22) ∧ (((100 : Int) * (S 45 p1)) + l8_22) < 1200) ∧ (sv_R (S 32 (((100 : Int) * (S 45 p1)) + l8_22)) → (∀ x57 : Int, (S 32 (((100 : Int) * (S 45 p1)) + l8_22)) = x57 → ((∀ s59 : Int, sv_R s59 → (s59 = 0 ∨ s59 = 1) → ((∀ s61 : Int, sv_R s61 → (s61 = 0 ∨ s61 = 1) → ((∀ s63 : Int, sv_R s63 → ((¬ s59 = 0 → (l8_22 < (S 1115 0) → s63 = (S 63 ((S 1114 0) + l8_22))) ∧ (¬ l8_22 < (S 1115 0) → s63 = 0)) ∧ (s59 = 0 → ¬ s61 = 0 → s63 = 7) ∧ (s59 = 0 → s61 = 0 → s63 = 0)) → (((s59 = (0 : Int)) → (((s61 = (0 : Int)) → (sm_PL (g21 1100020) (g21 51) (g21 52) (g21 46) (g21 47) (g10 1076 0) (g21 1086 0) ∧ sm_FR (g21 1100020) (g21 52) (g21 1100021) (g21 1100022) (3000 - (g21 1084 0)) (g21 1085 0) ∧ sm_PV (g21 1100020) (g21 48) (g21 49) (g21 50) (g10 44) (g10 1076 0) (S 1007 0) ∧ sm_AL (g21 1100020) (g21 48) (g21 49) (g21 50) (g10 44) (g10 1076 0) (S 1100032 0) ∧ sm_SV (g21 1100020) (g21 48) (g10 1100029) (S 32) (S 33) (g10 1076 0) (S 1032 0) ∧ 0 ≤ (g10 1076 0) ∧ (g10 1076 0) ≤ 300 ∧ 0 ≤ (g21 1084 0) ∧ (g21 1084 0) ≤ 3000 ∧ 0 ≤ (g21 1086 0) ∧ 0 ≤ r14 ∧ r14 < (g10 1076 0) ∧ 0 ≤ x57 ∧ x57 < (S 1007 0) ∧ sm_VO (g10 44) (g10 1076 0) (S 1007 0) (s63) ((0 : Int)) ∧ ((g10 44 r14) = 2 → x57 = 0 → s63 = 5 ∧ 0 ≤ (0 : Int) ∧ (0 : Int) ≤ 100) ∧ (g21 1086 0) < 2000000000) ∧ (∀ g66 : sv_S, (sm_PL (g66 1100020) (g66 51) (g66 52) (g66 46) (g66 47) (g10 1076 0) (g66 1086 0) ∧ sm_FR (g66 1100020) (g66 52) (g66 1100021) (g66 1100022) (3000 - (g66 1084 0)) (g66 1085 0) ∧ sm_PV (g66 1100020) (g66 48) (g66 49) (g66 50) (g10 44) (g10 1076 0) (S 1007 0) ∧ sm_AL (g66 1100020) (g66 48) (g66 49) (g66 50) (g10 44) (g10 1076 0) (S 1100032 0) ∧ sm_SV (g66 1100020) (g66 48) (g10 1100029) (S 32) (S 33) (g10 1076 0) (S 1032 0) ∧ 0 ≤ (g10 1076 0) ∧ (g10 1076 0) ≤ 300 ∧ 0 ≤ (g66 1084 0) ∧ (g66 1084 0) ≤ 3000 ∧ 0 ≤ (g66 1086 0) ∧ sm_KP (g21 1100020) (g21 48) (g66 1100020) (g66 48) ∧ ((g21 1075 0) = 1 → (g66 1075 0) = 1) ∧ ((g66 1075 0) = 0 → sm_HN (g66 1100020) (g66 48) r14 x57) ∧ (g21 1086 0) ≤ (g66 1086 0) ∧ (g66 1086 0) ≤ (g21 1086 0) + 1) → ((0 ≤ (g66 1075 0) ∧ (g66 1075 0) ≤ 1) → ((((g66 1075 0) = (0 : Int)) → (sv_R (l8_22 + (1 : Int))) ∧ ((sm_PL (g66 1100020) (g66 51) (g66 52) (g66 46) (g66 47) (g10 1076 0) (g66 1086 0) ∧ sm_FR (g66 1100020) (g66 52) (g66 1100021) (g66 1100022) (3000 - (g66 1084 0)) (g66 1085 0) ∧ sm_PV (g66 1100020) (g66 48) (g66 49) (g66 50) (g10 44) (g10 1076 0) (S 1007 0) ∧ sm_AL (g66 1100020) (g66 48) (g66 49) (g66 50) (g10 44) (g10 1076 0) (S 1100032 0) ∧ sm_SV (g66 1100020) (g66 48) (g10 1100029) (S 32) (S 33) (g10 1076 0) (S 1032 0) ∧ 0 ≤ (g10 1076 0) ∧ (g10 1076 0) ≤ 300 ∧ 0 ≤ (g66 1084 0) ∧ (g66 1084 0) ≤ 3000 ∧ 0 ≤ (g66 1086 0) ∧ sm_SC (g10 1100029) (g10 44) (g10 45) (fun i' : Int => if i' = r14 then (g10 43 p1) else (g10 43) i') (S 21) (g10 1076 0) (S 1032 0) ∧ sm_PO (g10 42) (g10 1076 0) ∧ (g66 1075 0) = 0 ∧ 0 ≤ (l8_22 + (1 : Int)) ∧ (l8_22 + (1 : Int)) ≤ (S 33 (S 45 p1)) ∧ sm_SJ (g66 1100020) (g66 48) (S 32) r14 (S 45 p1) (l8_22 + (1 : Int)) ∧ (S 1086 0) ≤ (g66 1086 0) ∧ (g66 1086 0) ≤ (S 1086 0) + (l8_22 + (1 : Int))) ∧ ((S 33 (S 45 p1)) - (l8_22 + (1 : Int))) < ((S 33 (S 45 p1)) - l8_22))) ∧ ((¬ ((g66 1075 0) = (0 : Int))) → (sm_PL (g66 1100020) (g66 51) (g66 52) (g66 46) (g66 47) (g10 1076 0) (g66 1086 0) ∧ sm_FR (g66 1100020) (g66 52) (g66 1100021) (g66 1100022) (3000 - (g66 1084 0)) (g66 1085 0) ∧ sm_PV (g66 1100020) (g66 48) (g66 49) (g66 50) (g10 44) (g10 1076 0) (S 1007 0) ∧ sm_AL (g66 1100020) (g66 48) (g66 49) (g66 50) (g10 44) (g10 1076 0) (S 1100032 0) ∧ sm_SV (g66 1100020) (g66 48) (g10 1100029) (S 32) (S 33) (g10 1076 0) (S 1032 0) ∧ 0 ≤ (g10 1076 0) ∧ (g10 1076 0) ≤ 300 ∧ 0 ≤ (g66 1084 0) ∧ (g66 1084 0) ≤ 3000 ∧ 0 ≤ (g66 1086 0) ∧ sm_SC (g10 1100029) (g10 44) (g10 45) (fun i' : Int => if i' = r14 then (g10 43 p1) else (g10 43) i') (S 21) (g10 1076 0) (S 1032 0) ∧ sm_PO (g10 42) (g10 1076 0) ∧ ((g66 1075 0) = 0 → (S 1100032 0) = -1 ∧ sm_FO (g10 44) (g10 45) (g10 1076 0)) ∧ 23 ≤ (g10 1076 0) ∧ 31 ≤ (S 1007 0) ∧ (S 1007 0) ≤ 400 ∧ sm_LN (S 4) 400 (S 1007 0) ∧ (S 1008 0) ≤ (S 1007 0) ∧ ((S 1075 0) = 1 → (g66 1075 0) = 1) ∧ 0 ≤ (S 1092 0) ∧ (S 1092 0) ≤ 24 ∧ ((g66 1075 0) = 0 → (S 1073 0) = 1 → 1 ≤ (S 1092 0) ∧ (S 1092 0) ≤ 24 ∧ 0 ≤ (S 57 ((S 1092 0) - 1)) ∧ (S 57 ((S 1092 0) - 1)) < (S 1046 0) ∧ (S 29 (S 57 ((S 1092 0) - 1))) = (S 53 ((S 1092 0) - 1)) ∧ 0 ≤ (S 53 ((S 1092 0) - 1)) ∧ (S 53 ((S 1092 0) - 1)) < (S 1032 0) ∧ (S 60 ((S 1092 0) - 1)) = sm_dp (S 1100024) (S 1100023 (S 57 ((S 1092 0) - 1))) ∧ sm_TC (S 61) (S 62) (S 27) (S 1100007) (S 1100023) (S 1100024) (40 * ((S 1092 0) - 1)) (S 1100023 (S 57 ((S 1092 0) - 1))) ∧ sm_LK (g10 1100029) (g10 1076 0) (S 54 ((S 1092 0) - 1)) (S 53 ((S 1092 0) - 1)) ∧ sm_VO (g10 44) (g10 1076 0) (S 1007 0) ((S 55 ((S 1092 0) - 1))) ((S 56 ((S 1092 0) - 1))) ∧ sm_FW (g10 44) (g10 1076 0) (S 59 ((S 1092 0) - 1)) ∧ sm_FL (S 53) (S 54) (S 55) (S 56) (S 57) (S 58) (S 59) (S 60) (S 61) (S 62) (S 63) (S 64) (S 27) (S 29) (S 1100007) (S 1100023) (S 1100024) (S 1100025) (S 26) (g10 1100029) (g10 44) (S 1046 0) (S 1032 0) (g10 1076 0) (S 1007 0) (((S 1092 0) - 1)) ∧ (S 58 ((S 1092 0) - 1)) = (S 1100007 (S 57 ((S 1092 0) - 1))) ∧ sm_SK (S 63) (S 64) (g10 44) (S 1100007) (S 1100025) (g10 1076 0) (S 1007 0) (400 * ((S 1092 0) - 1)) ((S 58 ((S 1092 0) - 1))) ((S 1100025 (S 57 ((S 1092 0) - 1))))) ∧ (S 1086 0) ≤ (g66 1086 0) ∧ (g66 1086 0) ≤ (S 1086 0) + 110)))))) ∧ ((¬ (s61 = (0 : Int))) → (sm_PL (g21 1100020) (g21 51) (g21 52) (g21 46) (g21 47) (g10 1076 0) (g21 1086 0) ∧ sm_FR (g21 1100020) (g21 52) (g21 1100021) (g21 1100022) (3000 - (g21 1084 0)) (g21 1085 0) ∧ sm_PV (g21 1100020) (g21 48) (g21 49) (g21 50) (g10 44) (g10 1076 0) (S 1007 0) ∧ sm_AL (g21 1100020) (g21 48) (g21 49) (g21 50) (g10 44) (g10 1076 0) (S 1100032 0) ∧ sm_SV (g21 1100020) (g21 48) (g10 1100029) (S 32) (S 33) (g10 1076 0) (S 1032 0) ∧ 0 ≤ (g10 1076 0) ∧ (g10 1076 0) ≤ 300 ∧ 0 ≤ (g21 1084 0) ∧ (g21 1084 0) ≤ 3000 ∧ 0 ≤ (g21 1086 0) ∧ 0 ≤ r14 ∧ r14 < (g10 1076 0) ∧ 0 ≤ x57 ∧ x57 < (S 1007 0) ∧ sm_VO (g10 44) (g10 1076 0) (S 1007 0) (s63) (p1) ∧ ((g10 44 r14) = 2 → x57 = 0 → s63 = 5 ∧ 0 ≤ p1 ∧ p1 ≤ 100) ∧ (g21 1086 0) < 2000000000) ∧ (∀ g75 : sv_S, (sm_PL (g75 1100020) (g75 51) (g75 52) (g75 46) (g75 47) (g10 1076 0) (g75 1086 0) ∧ sm_FR (g75 1100020) (g75 52) (g75 1100021) (g75 1100022) (3000 - (g75 1084 0)) (g75 1085 0) ∧ sm_PV (g75 1100020) (g75 48) (g75 49) (g75 50) (g10 44) (g10 1076 0) (S 1007 0) ∧ sm_AL (g75 1100020) (g75 48) (g75 49) (g75 50) (g10 44) (g10 1076 0) (S 1100032 0) ∧ sm_SV (g75 1100020) (g75 48) (g10 1100029) (S 32) (S 33) (g10 1076 0) (S 1032 0) ∧ 0 ≤ (g10 1076 0) ∧ (g10 1076 0) ≤ 300 ∧ 0 ≤ (g75 1084 0) ∧ (g75 1084 0) ≤ 3000 ∧ 0 ≤ (g75 1086 0) ∧ sm_KP (g21 1100020) (g21 48) (g75 1100020) (g75 48) ∧ ((g21 1075 0) = 1 → (g75 1075 0) = 1) ∧ ((g75 1075 0) = 0 → sm_HN (g75 1100020) (g75 48) r14 x57) ∧ (g21 1086 0) ≤ (g75 1086 0) ∧ (g75 1086 0) ≤ (g21 1086 0) + 1) → ((0 ≤ (g75 1075 0) ∧ (g75 1075 0) ≤ 1) → ((((g75 1075 0) = (0 : Int)) → (sv_R (l8_22 + (1 : Int))) ∧ ((sm_PL (g75 1100020) (g75 51) (g75 52) (g75 46) (g75 47) (g10 1076 0) (g75 1086 0) ∧ sm_FR (g75 1100020) (g75 52) (g75 1100021) (g75 1100022) (3000 - (g75 1084 0)) (g75 1085 0) ∧ sm_PV (g75 1100020) (g75 48) (g75 49) (g75 50) (g10 44) (g10 1076 0) (S 1007 0) ∧ sm_AL (g75 1100020) (g75 48) (g75 49) (g75 50) (g10 44) (g10 1076 0) (S 1100032 0) ∧ sm_SV (g75 1100020) (g75 48) (g10 1100029) (S 32) (S 33) (g10 1076 0) (S 1032 0) ∧ 0 ≤ (g10 1076 0) ∧ (g10 1076 0) ≤ 300 ∧ 0 ≤ (g75 1084 0) ∧ (g75 1084 0) ≤ 3000 ∧ 0 ≤ (g75 1086 0) ∧ sm_SC (g10 1100029) (g10 44) (g10 45) (fun i' : Int => if i' = r14 then (g10 43 p1) else (g10 43) i') (S 21) (g10 1076 0) (S 1032 0) ∧ sm_PO (g10 42) (g10 1076 0) ∧ (g75 1075 0) = 0 ∧ 0 ≤ (l8_22 + (1 : Int)) ∧ (l8_22 + (1 : Int)) ≤ (S 33 (S 45 p1)) ∧ sm_SJ (g75 1100020) (g75 48) (S 32) r14 (S 45 p1) (l8_22 + (1 : Int)) ∧ (S 1086 0) ≤ (g75 1086 0) ∧ (g75 1086 0) ≤ (S 1086 0) + (l8_22 + (1 : Int))) ∧ ((S 33 (S 45 p1)) - (l8_22 + (1 : Int))) < ((S 33 (S 45 p1)) - l8_22))) ∧ ((¬ ((g75 1075 0) = (0 : Int))) → (sm_PL (g75 1100020) (g75 51) (g75 52) (g75 46) (g75 47) (g10 1076 0) (g75 1086 0) ∧ sm_FR (g75 1100020) (g75 52) (g75 1100021) (g75 1100022) (3000 - (g75 1084 0)) (g75 1085 0) ∧ sm_PV (g75 1100020) (g75 48) (g75 49) (g75 50) (g10 44) (g10 1076 0) (S 1007 0) ∧ sm_AL (g75 1100020) (g75 48) (g75 49) (g75 50) (g10 44) (g10 1076 0) (S 1100032 0) ∧ sm_SV (g75 1100020) (g75 48) (g10 1100029) (S 32) (S 33) (g10 1076 0) (S 1032 0) ∧ 0 ≤ (g10 1076 0) ∧ (g10 1076 0) ≤ 300 ∧ 0 ≤ (g75 1084 0) ∧ (g75 1084 0) ≤ 3000 ∧ 0 ≤ (g75 1086 0) ∧ sm_SC (g10 1100029) (g10 44) (g10 45) (fun i' : Int => if i' = r14 then (g10 43 p1) else (g10 43) i') (S 21) (g10 1076 0) (S 1032 0) ∧ sm_PO (g10 42) (g10 1076 0) ∧ ((g75 1075 0) = 0 → (S 1100032 0) = -1 ∧ sm_FO (g10 44) (g10 45) (g10 1076 0)) ∧ 23 ≤ (g10 1076 0) ∧ 31 ≤ (S 1007 0) ∧ (S 1007 0) ≤ 400 ∧ sm_LN (S 4) 400 (S 1007 0) ∧ (S 1008 0) ≤ (S 1007 0) ∧ ((S 1075 0) = 1 → (g75 1075 0) = 1) ∧ 0 ≤ (S 1092 0) ∧ (S 1092 0) ≤ 24 ∧ ((g75 1075 0) = 0 → (S 1073 0) = 1 → 1 ≤ (S 1092 0) ∧ (S 1092 0) ≤ 24 ∧ 0 ≤ (S 57 ((S 1092 0) - 1)) ∧ (S 57 ((S 1092 0) - 1)) < (S 1046 0) ∧ (S 29 (S 57 ((S 1092 0) - 1))) = (S 53 ((S 1092 0) - 1)) ∧ 0 ≤ (S 53 ((S 1092 0) - 1)) ∧ (S 53 ((S 1092 0) - 1)) < (S 1032 0) ∧ (S 60 ((S 1092 0) - 1)) = sm_dp (S 1100024) (S 1100023 (S 57 ((S 1092 0) - 1))) ∧ sm_TC (S 61) (S 62) (S 27) (S 1100007) (S 1100023) (S 1100024) (40 * ((S 1092 0) - 1)) (S 1100023 (S 57 ((S 1092 0) - 1))) ∧ sm_LK (g10 1100029) (g10 1076 0) (S 54 ((S 1092 0) - 1)) (S 53 ((S 1092 0) - 1)) ∧ sm_VO (g10 44) (g10 1076 0) (S 1007 0) ((S 55 ((S 1092 0) - 1))) ((S 56 ((S 1092 0) - 1))) ∧ sm_FW (g10 44) (g10 1076 0) (S 59 ((S 1092 0) - 1)) ∧ sm_FL (S 53) (S 54) (S 55) (S 56) (S 57) (S 58) (S 59) (S 60) (S 61) (S 62) (S 63) (S 64) (S 27) (S 29) (S 1100007) (S 1100023) (S 1100024) (S 1100025) (S 26) (g10 1100029) (g10 44) (S 1046 0) (S 1032 0) (g10 1076 0) (S 1007 0) (((S 1092 0) - 1)) ∧ (S 58 ((S 1092 0) - 1)) = (S 1100007 (S 57 ((S 1092 0) - 1))) ∧ sm_SK (S 63) (S 64) (g10 44) (S 1100007) (S 1100025) (g10 1076 0) (S 1007 0) (400 * ((S 1092 0) - 1)) ((S 58 ((S 1092 0) - 1))) ((S 1100025 (S 57 ((S 1092 0) - 1))))) ∧ (S 1086 0) ≤ (g75 1086 0) ∧ (g75 1086 0) ≤ (S 1086 0) + 110)))))))) ∧ ((¬ (s59 = (0 : Int))) → (l8_22 < (S 1115 0) → 0 ≤ (S 1114 0) + l8_22 ∧ (S 1114 0) + l8_22 < 9600) ∧ (∀ r88 : Int, sv_R r88 → ((l8_22 < (S 1115 0) → r88 = (S 64 ((S 1114 0) + l8_22))) ∧ (¬ l8_22 < (S 1115 0) → r88 = 0)) → ((sm_SK (S 63) (S 64) (g10 44) (S 1100007) (S 1100025) (g10 1076 0) (S 1007 0) (400 * ((S 1092 0) - 1)) ((S 58 ((S 1092 0) - 1))) ((S 1100034 0)) → sm_LS (S 26) (S 1100007) (S 1100025) (S 1046 0) → (S 1114 0) + (S 1115 0) = 400 * ((S 1092 0) - 1) + (S 58 ((S 1092 0) - 1)) → 0 ≤ l8_22 → (S 1115 0) ≤ p4 - 1 → p4 ≤ (S 58 ((S 1092 0) - 1)) → (S 1100034 0) < (S 1046 0) → (0 ≤ (S 1100034 0) → (S 26 (S 1100034 0)) = 29) → (0 ≤ (S 1100034 0) → (S 1100007 (S 1100034 0)) ≤ (S 58 ((S 1092 0) - 1)) - p4) → (l8_22 < (S 1115 0) → s63 = (S 63 ((S 1114 0) + l8_22))) → (¬ l8_22 < (S 1115 0) → s63 = 0) → (l8_22 < (S 1115 0) → r88 = (S 64 ((S 1114 0) + l8_22))) → (¬ l8_22 < (S 1115 0) → r88 = 0) → sm_VO (g10 44) (g10 1076 0) (S 1007 0) (s63) (r88)) → (sm_PL (g21 1100020) (g21 51) (g21 52) (g21 46) (g21 47) (g10 1076 0) (g21 1086 0) ∧ sm_FR (g21 1100020) (g21 52) (g21 1100021) (g21 1100022) (3000 - (g21 1084 0)) (g21 1085 0) ∧ sm_PV (g21 1100020) (g21 48) (g21 49) (g21 50) (g10 44) (g10 1076 0) (S 1007 0) ∧ sm_AL (g21 1100020) (g21 48) (g21 49) (g21 50) (g10 44) (g10 1076 0) (S 1100032 0) ∧ sm_SV (g21 1100020) (g21 48) (g10 1100029) (S 32) (S 33) (g10 1076 0) (S 1032 0) ∧ 0 ≤ (g10 1076 0) ∧ (g10 1076 0) ≤ 300 ∧ 0 ≤ (g21 1084 0) ∧ (g21 1084 0) ≤ 3000 ∧ 0 ≤ (g21 1086 0) ∧ 0 ≤ r14 ∧ r14 < (g10 1076 0) ∧ 0 ≤ x57 ∧ x57 < (S 1007 0) ∧ sm_VO (g10 44) (g10 1076 0) (S 1007 0) (s63) (r88) ∧ ((g10 44 r14) = 2 → x57 = 0 → s63 = 5 ∧ 0 ≤ r88 ∧ r88 ≤ 100) ∧ (g21 1086 0) < 2000000000) ∧ (∀ g91 : sv_S, (sm_PL (g91 1100020) (g91 51) (g91 52) (g91 46) (g91 47) (g10 1076 0) (g91 1086 0) ∧ sm_FR (g91 1100020) (g91 52) (g91 1100021) (g91 1100022) (3000 - (g91 1084 0)) (g91 1085 0) ∧ sm_PV (g91 1100020) (g91 48) (g91 49) (g91 50) (g10 44) (g10 1076 0) (S 1007 0) ∧ sm_AL (g91 1100020) (g91 48) (g91 49) (g91 50) (g10 44) (g10 1076 0) (S 1100032 0) ∧ sm_SV (g91 1100020) (g91 48) (g10 1100029) (S 32) (S 33) (g10 1076 0) (S 1032 0) ∧ 0 ≤ (g10 1076 0) ∧ (g10 1076 0) ≤ 300 ∧ 0 ≤ (g91 1084 0) ∧ (g91 1084 0) ≤ 3000 ∧ 0 ≤ (g91 1086 0) ∧ sm_KP (g21 1100020) (g21 48) (g91 1100020) (g91 48) ∧ ((g21 1075 0) = 1 → (g91 1075 0) = 1) ∧ ((g91 1075 0) = 0 → sm_HN (g91 1100020) (g91 48) r14 x57) ∧ (g21 1086 0) ≤ (g91 1086 0) ∧ (g91 1086 0) ≤ (g21 1086 0) + 1) → ((0 ≤ (g91 1075 0) ∧ (g91 1075 0) ≤ 1) → ((((g91 1075 0) = (0 : Int)) → (sv_R (l8_22 + (1 : Int))) ∧ ((sm_PL (g91 1100020) (g91 51) (g91 52) (g91 46) (g91 47) (g10 1076 0) (g91 1086 0) ∧ sm_FR (g91 1100020) (g91 52) (g91 1100021) (g91 1100022) (3000 - (g91 1084 0)) (g91 1085 0) ∧ sm_PV (g91 1100020) (g91 48) (g91 49) (g91 50) (g10 44) (g10 1076 0) (S 1007 0) ∧ sm_AL (g91 1100020) (g91 48) (g91 49) (g91 50) (g10 44) (g10 1076 0) (S 1100032 0) ∧ sm_SV (g91 1100020) (g91 48) (g10 1100029) (S 32) (S 33) (g10 1076 0) (S 1032 0) ∧ 0 ≤ (g10 1076 0) ∧ (g10 1076 0) ≤ 300 ∧ 0 ≤ (g91 1084 0) ∧ (g91 1084 0) ≤ 3000 ∧ 0 ≤ (g91 1086 0) ∧ sm_SC (g10 1100029) (g10 44) (g10 45) (fun i' : Int => if i' = r14 then (g10 43 p1) else (g10 43) i') (S 21) (g10 1076 0) (S 1032 0) ∧ sm_PO (g10 42) (g10 1076 0) ∧ (g91 1075 0) = 0 ∧ 0 ≤ (l8_22 + (1 : Int)) ∧ (l8_22 + (1 : Int)) ≤ (S 33 (S 45 p1)) ∧ sm_SJ (g91 1100020) (g91 48) (S 32) r14 (S 45 p1) (l8_22 + (1 : Int)) ∧ (S 1086 0) ≤ (g91 1086 0) ∧ (g91 1086 0) ≤ (S 1086 0) + (l8_22 + (1 : Int))) ∧ ((S 33 (S 45 p1)) - (l8_22 + (1 : Int))) < ((S 33 (S 45 p1)) - l8_22))) ∧ ((¬ ((g91 1075 0) = (0 : Int))) → (sm_PL (g91 1100020) (g91 51) (g91 52) (g91 46) (g91 47) (g10 1076 0) (g91 1086 0) ∧ sm_FR (g91 1100020) (g91 52) (g91 1100021) (g91 1100022) (3000 - (g91 1084 0)) (g91 1085 0) ∧ sm_PV (g91 1100020) (g91 48) (g91 49) (g91 50) (g10 44) (g10 1076 0) (S 1007 0) ∧ sm_AL (g91 1100020) (g91 48) (g91 49) (g91 50) (g10 44) (g10 1076 0) (S 1100032 0) ∧ sm_SV (g91 1100020) (g91 48) (g10 1100029) (S 32) (S 33) (g10 1076 0) (S 1032 0) ∧ 0 ≤ (g10 1076 0) ∧ (g10 1076 0) ≤ 300 ∧ 0 ≤ (g91 1084 0) ∧ (g91 1084 0) ≤ 3000 ∧ 0 ≤ (g91 1086 0) ∧ sm_SC (g10 1100029) (g10 44) (g10 45) (fun i' : Int => if i' = r14 then (g10 43 p1) else (g10 43) i') (S 21) (g10 1076 0) (S 1032 0) ∧ sm_PO (g10 42) (g10 1076 0) ∧ ((g91 1075 0) = 0 → (S 1100032 0) = -1 ∧ sm_FO (g10 44) (g10 45) (g10 1076 0)) ∧ 23 ≤ (g10 1076 0) ∧ 31 ≤ (S 1007 0) ∧ (S 1007 0) ≤ 400 ∧ sm_LN (S 4) 400 (S 1007 0) ∧ (S 1008 0) ≤ (S 1007 0) ∧ ((S 1075 0) = 1 → (g91 1075 0) = 1) ∧ 0 ≤ (S 1092 0) ∧ (S 1092 0) ≤ 24 ∧ ((g91 1075 0) = 0 → (S 1073 0) = 1 → 1 ≤ (S 1092 0) ∧ (S 1092 0) ≤ 24 ∧ 0 ≤ (S 57 ((S 1092 0) - 1)) ∧ (S 57 ((S 1092 0) - 1)) < (S 1046 0) ∧ (S 29 (S 57 ((S 1092 0) - 1))) = (S 53 ((S 1092 0) - 1)) ∧ 0 ≤ (S 53 ((S 1092 0) - 1)) ∧ (S 53 ((S 1092 0) - 1)) < (S 1032 0) ∧ (S 60 ((S 1092 0) - 1)) = sm_dp (S 1100024) (S 1100023 (S 57 ((S 1092 0) - 1))) ∧ sm_TC (S 61) (S 62) (S 27) (S 1100007) (S 1100023) (S 1100024) (40 * ((S 1092 0) - 1)) (S 1100023 (S 57 ((S 1092 0) - 1))) ∧ sm_LK (g10 1100029) (g10 1076 0) (S 54 ((S 1092 0) - 1)) (S 53 ((S 1092 0) - 1)) ∧ sm_VO (g10 44) (g10 1076 0) (S 1007 0) ((S 55 ((S 1092 0) - 1))) ((S 56 ((S 1092 0) - 1))) ∧ sm_FW (g10 44) (g10 1076 0) (S 59 ((S 1092 0) - 1)) ∧ sm_FL (S 53) (S 54) (S 55) (S 56) (S 57) (S 58) (S 59) (S 60) (S 61) (S 62) (S 63) (S 64) (S 27) (S 29) (S 1100007) (S 1100023) (S 1100024) (S 1100025) (S 26) (g10 1100029) (g10 44) (S 1046 0) (S 1032 0) (g10 1076 0) (S 1007 0) (((S 1092 0) - 1)) ∧ (S 58 ((S 1092 0) - 1)) = (S 1100007 (S 57 ((S 1092 0) - 1))) ∧ sm_SK (S 63) (S 64) (g10 44) (S 1100007) (S 1100025) (g10 1076 0) (S 1007 0) (400 * ((S 1092 0) - 1)) ((S 58 ((S 1092 0) - 1))) ((S 1100025 (S 57 ((S 1092 0) - 1))))) ∧ (S 1086 0) ≤ (g91 1086 0) ∧ (g91 1086 0) ≤ (S 1086 0) + 110)))))))))) ∧ (((s59 = (0 : Int)) → (((s61 = (0 : Int)) → ((¬ s59 = 0 → (l8_22 < (S 1115 0) → (0 : Int) = (S 63 ((S 1114 0) + l8_22))) ∧ (¬ l8_22 < (S 1115 0) → (0 : Int) = 0)) ∧ (s59 = 0 → ¬ s61 = 0 → (0 : Int) = 7) ∧ (s59 = 0 → s61 = 0 → (0 : Int) = 0))) ∧ ((¬ (s61 = (0 : Int))) → ((¬ s59 = 0 → (l8_22 < (S 1115 0) → (7 : Int) = (S 63 ((S 1114 0) + l8_22))) ∧ (¬ l8_22 < (S 1115 0) → (7 : Int) = 0)) ∧ (s59 = 0 → ¬ s61 = 0 → (7 : Int) = 7) ∧ (s59 = 0 → s61 = 0 → (7 : Int) = 0))))) ∧ ((¬ (s59 = (0 : Int))) → (l8_22 < (S 1115 0) → 0 ≤ (S 1114 0) + l8_22 ∧ (S 1114 0) + l8_22 < 9600) ∧ (∀ r105 : Int, sv_R r105 → ((l8_22 < (S 1115 0) → r105 = (S 63 ((S 1114 0) + l8_22))) ∧ (¬ l8_22 < (S 1115 0) → r105 = 0)) → ((¬ s59 = 0 → (l8_22 < (S 1115 0) → r105 = (S 63 ((S 1114 0) + l8_22))) ∧ (¬ l8_22 < (S 1115 0) → r105 = 0)) ∧ (s59 = 0 → ¬ s61 = 0 → r105 = 7) ∧ (s59 = 0 → s61 = 0 → r105 = 0))))))) ∧ (((¬ s59 = (0 : Int)) → ((0 : Int) = 0 ∨ (0 : Int) = 1)) ∧ ((¬ (¬ s59 = (0 : Int))) → ((0 ≤ (S 18 (S 45 p1)) ∧ (S 18 (S 45 p1)) ≤ 1) → (((¬ (S 18 (S 45 p1)) = (0 : Int)) → ((0 : Int) = 0 ∨ (0 : Int) = 1)) ∧ ((¬ (¬ (S 18 (S 45 p1)) = (0 : Int))) → (sv_R (S 17 (S 45 p1)) → (((¬ x57 = (S 17 (S 45 p1))) → ((0 : Int) = 0 ∨ (0 : Int) = 1)) ∧ ((¬ (¬ x57 = (S 17 (S 45 p1)))) → ((1 : Int) = 0 ∨ (1 : Int) = 1))))))))))) ∧ (sv_R (S 20 (S 45 p1)) → ((((S 20 (S 45 p1)) ≤ l8_22) → ((0 : Int) = 0 ∨ (0 : Int) = 1)) ∧ ((¬ ((S 20 (S 45 p1)) ≤ l8_22)) → ((1 : Int) = 0 ∨ (1 : Int) = 1))))))))))))))) ∧ ((¬ ((g10 1075 0) = (0 : Int))) → (sm_PL (S 1100020) (S 51) (S 52) (g10 46) (g10 47) (g10 1076 0) (S 1086 0) ∧ sm_FR (S 1100020) (S 52) (S 1100021) (S 1100022) (3000 - (S 1084 0)) (S 1085 0) ∧ sm_PV (S 1100020) (S 48) (S 49) (S 50) (g10 44) (g10 1076 0) (S 1007 0) ∧ sm_AL (S 1100020) (S 48) (S 49) (S 50) (g10 44) (g10 1076 0) (S 1100032 0) ∧ sm_SV (S 1100020) (S 48) (g10 1100029) (S 32) (S 33) (g10 1076 0) (S 1032 0) ∧ 0 ≤ (g10 1076 0) ∧ (g10 1076 0) ≤ 300 ∧ 0 ≤ (S 1084 0) ∧ (S 1084 0) ≤ 3000 ∧ 0 ≤ (S 1086 0) ∧ sm_SC (g10 1100029) (g10 44) (g10 45) (g10 43) (S 21) (g10 1076 0) (S 1032 0) ∧ sm_PO (g10 42) (g10 1076 0) ∧ ((g10 1075 0) = 0 → (S 1100032 0) = -1 ∧ sm_FO (g10 44) (g10 45) (g10 1076 0)) ∧ 23 ≤ (g10 1076 0) ∧ 31 ≤ (S 1007 0) ∧ (S 1007 0) ≤ 400 ∧ sm_LN (S 4) 400 (S 1007 0) ∧ (S 1008 0) ≤ (S 1007 0) ∧ ((S 1075 0) = 1 → (g10 1075 0) = 1) ∧ 0 ≤ (S 1092 0) ∧ (S 1092 0) ≤ 24 ∧ ((g10 1075 0) = 0 → (S 1073 0) = 1 → 1 ≤ (S 1092 0) ∧ (S 1092 0) ≤ 24 ∧ 0 ≤ (S 57 ((S 1092 0) - 1)) ∧ (S 57 ((S 1092 0) - 1)) < (S 1046 0) ∧ (S 29 (S 57 ((S 1092 0) - 1))) = (S 53 ((S 1092 0) - 1)) ∧ 0 ≤ (S 53 ((S 1092 0) - 1)) ∧ (S 53 ((S 1092 0) - 1)) < (S 1032 0) ∧ (S 60 ((S 1092 0) - 1)) = sm_dp (S 1100024) (S 1100023 (S 57 ((S 1092 0) - 1))) ∧ sm_TC (S 61) (S 62) (S 27) (S 1100007) (S 1100023) (S 1100024) (40 * ((S 1092 0) - 1)) (S 1100023 (S 57 ((S 1092 0) - 1))) ∧ sm_LK (g10 1100029) (g10 1076 0) (S 54 ((S 1092 0) - 1)) (S 53 ((S 1092 0) - 1)) ∧ sm_VO (g10 44) (g10 1076 0) (S 1007 0) ((S 55 ((S 1092 0) - 1))) ((S 56 ((S 1092 0) - 1))) ∧ sm_FW (g10 44) (g10 1076 0) (S 59 ((S 1092 0) - 1)) ∧ sm_FL (S 53) (S 54) (S 55) (S 56) (S 57) (S 58) (S 59) (S 60) (S 61) (S 62) (S 63) (S 64) (S 27) (S 29) (S 1100007) (S 1100023) (S 1100024) (S 1100025) (S 26) (g10 1100029) (g10 44) (S 1046 0) (S 1032 0) (g10 1076 0) (S 1007 0) (((S 1092 0) - 1)) ∧ (S 58 ((S 1092 0) - 1)) = (S 1100007 (S 57 ((S 1092 0) - 1))) ∧ sm_SK (S 63) (S 64) (g10 44) (S 1100007) (S 1100025) (g10 1076 0) (S 1007 0) (400 * ((S 1092 0) - 1)) ((S 58 ((S 1092 0) - 1))) ((S 1100025 (S 57 ((S 1092 0) - 1))))) ∧ (S 1086 0) ≤ (S 1086 0) ∧ (S 1086 0) ≤ (S 1086 0) + 110))))))))))) := by
  intro p1
  intro p2
  intro p3
  intro p4
  intro p5
  intro S
  intro h1_
  intro h2_
  intro h3_
  intro h4_
  intro h5_
  intro h6_
  rintro ⟨h7_, ⟨h8_, ⟨h9_, ⟨h10_, ⟨h11_, ⟨h12_, ⟨h13_, ⟨h14_, ⟨h15_, ⟨h16_, ⟨h17_, ⟨h18_, ⟨h19_, ⟨h20_, ⟨h21_, ⟨h22_, ⟨h23_, ⟨h24_, ⟨h25_, ⟨h26_, ⟨h27_, ⟨h28_, ⟨h29_, ⟨h30_, ⟨h31_, ⟨h32_, ⟨h33_, ⟨h34_, ⟨h35_, ⟨h36_, ⟨h37_, ⟨h38_, ⟨h39_, ⟨h40_, ⟨h41_, ⟨h42_, ⟨h43_, ⟨h44_, ⟨h45_, ⟨h46_, ⟨h47_, ⟨h48_, ⟨h49_, ⟨h50_, ⟨h51_, ⟨h52_, ⟨h53_, ⟨h54_, ⟨h55_, ⟨h56_, ⟨h57_, ⟨h58_, ⟨h59_, ⟨h60_, ⟨h61_, ⟨h62_, ⟨h63_, ⟨h64_, ⟨h65_, ⟨h66_, ⟨h67_, ⟨h68_, ⟨h69_, ⟨h70_, ⟨h71_, ⟨h72_, ⟨h73_, ⟨h74_, ⟨h75_, ⟨h76_, ⟨h77_, ⟨h78_, ⟨h79_, ⟨h80_, ⟨h81_, ⟨h82_, ⟨h83_, h84_⟩⟩⟩⟩⟩⟩⟩⟩⟩⟩⟩⟩⟩⟩⟩⟩⟩⟩⟩⟩⟩⟩⟩⟩⟩⟩⟩⟩⟩⟩⟩⟩⟩⟩⟩⟩⟩⟩⟩⟩⟩⟩⟩⟩⟩⟩⟩⟩⟩⟩⟩⟩⟩⟩⟩⟩⟩⟩⟩⟩⟩⟩⟩⟩⟩⟩⟩⟩⟩⟩⟩⟩⟩⟩⟩⟩⟩
  intro h85_
  have h86_ := (h85_ h19_)
  have h87_ := (h86_ h79_)
  have h88_ := (h87_ h80_)
  have h89_ := (h88_ h81_)
  obtain ⟨h90_, h91_⟩ := (h89_ h82_)
  intro h92_
  have h93_ := (h92_ h79_)
  have h94_ := (h93_ h80_)
  have h95_ := (h94_ (la_enter_0 h81_))
  obtain ⟨h96_, ⟨h97_, h98_⟩⟩ := ((sm_VO_e h95_).2.2.2 la_enter_2)
  intro h99_
  have h100_ := (h99_ h68_)
  intro h101_
  have h102_ := (h101_ h69_)
  have h103_ := (h102_ h64_)
  intro h104_
  have h105_ := (h104_ h68_)
  have h106_ := (h105_ h70_)
  refine ⟨(la_enter_5 h15_ h79_ h80_), ?_⟩
  intro h107_
  refine ⟨(la_enter_6 h31_ h82_ h90_), ?_⟩
  refine ⟨⟨h9_, ⟨h10_, ⟨h11_, ⟨h12_, ⟨h13_, ⟨h14_, ⟨h15_, ⟨h16_, ⟨h17_, ⟨h18_, ⟨h19_, ⟨h20_, (la_enter_7 h23_ h31_ h82_ h90_)⟩⟩⟩⟩⟩⟩⟩⟩⟩⟩⟩⟩, ?_⟩
  intro r14
  intro h108_
  intro g10
  rintro ⟨h109_, ⟨h110_, ⟨h111_, ⟨h112_, ⟨h113_, ⟨h114_, ⟨h115_, ⟨h116_, ⟨h117_, ⟨h118_, ⟨h119_, ⟨h120_, ⟨h121_, ⟨h122_, ⟨h123_, ⟨h124_, ⟨h125_, ⟨h126_, ⟨h127_, ⟨h128_, ⟨h129_, ⟨h130_, ⟨h131_, ⟨h132_, h133_⟩⟩⟩⟩⟩⟩⟩⟩⟩⟩⟩⟩⟩⟩⟩⟩⟩⟩⟩⟩⟩⟩⟩⟩
  have h134_ := (h133_ h22_)
  have h135_ := (h134_ la_enter_9)
  rintro ⟨h136_, h137_⟩
  refine ⟨?_, ?_⟩
  · skip
    intro h138_
    obtain ⟨h139_, ⟨h140_, ⟨h141_, ⟨h142_, ⟨h143_, ⟨h144_, h145_⟩⟩⟩⟩⟩⟩ := (h130_ h138_)
    intro h146_
    refine ⟨(la_enter_11 h23_ h115_ h122_ h139_), ?_⟩
    refine ⟨?_, ?_⟩
    · skip
      refine ⟨h109_, ?_⟩
      refine ⟨h10_, ?_⟩
      refine ⟨h111_, ?_⟩
      refine ⟨h112_, ?_⟩
      refine ⟨h113_, ?_⟩
      refine ⟨h114_, ?_⟩
      refine ⟨h115_, ?_⟩
      refine ⟨h16_, ?_⟩
      refine ⟨h17_, ?_⟩
      refine ⟨h18_, ?_⟩
      refine ⟨(sm_SC_li h119_ (la_enter_12 h141_) (la_enter_13 h142_)), ?_⟩
      refine ⟨h120_, ?_⟩
      refine ⟨h138_, ?_⟩
      refine ⟨la_enter_14, ?_⟩
      refine ⟨?_, ?_⟩
      · skip
        obtain ⟨h147_, ⟨h148_, ⟨h149_, ⟨h150_, ⟨h151_, ⟨h152_, ⟨h153_, h154_⟩⟩⟩⟩⟩⟩⟩ := (((h74_ (S 45 p1)) (la_enter_15 h82_)) h90_)
        obtain ⟨h155_, ⟨h156_, ⟨h157_, ⟨h158_, ⟨h159_, h160_⟩⟩⟩⟩⟩ := (((h76_ (S 45 p1)) (la_enter_15 h82_)) h90_)
        have e161_ : S 1100007 (S 1100023 (S 1100033 0)) = S 1100007 (S 1100023 (S 1100033 0 + 1)) := congrArg ((S 1100007)) (la_enter_16 h68_)
        have e162_ : S 1100007 (S 1100034 0) = S 1100007 (S 1100025 (S 1100033 0 + 1)) := congrArg ((S 1100007)) (la_enter_16 h69_)
        have e163_ : sm_dp (S 1100024) (S 1100023 (S 1100033 0)) = sm_dp (S 1100024) (S 1100023 (S 1100033 0 + 1)) := congrArg ((sm_dp (S 1100024))) (la_enter_16 h68_)
        exact h151_
      refine ⟨(sm_SJ_0 la_enter_14), ?_⟩
      refine ⟨la_enter_17, ?_⟩
      exact la_enter_18
    intro l8_22
    intro h164_
    intro g21
    rintro ⟨h165_, ⟨h166_, ⟨h167_, ⟨h168_, ⟨h169_, ⟨h170_, ⟨h171_, ⟨h172_, ⟨h173_, ⟨h174_, ⟨h175_, ⟨h176_, ⟨h177_, ⟨h178_, ⟨h179_, ⟨h180_, ⟨h181_, h182_⟩⟩⟩⟩⟩⟩⟩⟩⟩⟩⟩⟩⟩⟩⟩⟩⟩
    refine ⟨(la_enter_19 h179_), ?_⟩
    refine ⟨(la_enter_20 h31_ h82_ h90_), ?_⟩
    intro h183_
    refine ⟨?_, ?_⟩
    · skip
      intro h184_
      refine ⟨h107_, ?_⟩
      intro h185_
      have h186_ := (h185_ h121_)
      have h187_ := (h186_ h122_)
      have h188_ := (h187_ h82_)
      refine ⟨(la_enter_21 h38_ h61_ h62_ h63_ h78_), ?_⟩
      intro g35
      rintro ⟨h189_, h190_⟩
      refine ⟨(la_enter_22 h33_ h38_ h40_ h51_ h65_ h78_), ?_⟩
      intro g41
      rintro ⟨h191_, h192_⟩
      intro h193_
      have h194_ := (h193_ h27_)
      have h195_ := (h194_ (sm_FL_F h50_ sm_F1_rf sm_F1_rf sm_F1_rf sm_F1_rf (sm_F1_le (sm_F1_ne h192_ (Int.le_refl _)) (Int.le_refl _)) (sm_F1_le (sm_F1_ne h190_ (Int.le_refl _)) (Int.le_refl _)) sm_F1_rf sm_F1_rf sm_F1_rf sm_F1_rf sm_F1_rf sm_F1_rf h124_ (Int.le_refl _) (sm_F1_up (sm_F1_le h126_ (Int.le_refl _)) (la_enter_23 h139_)) (sm_F1_le h125_ (Int.le_refl _)) (sm_FL_dp h50_ h27_)))
      have h196_ := (h195_ (la_enter_24 h51_ h191_))
      have h197_ := (h196_ (la_enter_25 h40_ h42_ h43_ h44_ h61_ h62_ h63_ h65_ h66_ h67_ h189_))
      have h198_ := (h197_ (la_enter_26 h45_ h100_))
      have h199_ := (h198_ (sm_TC_t h46_ (la_enter_16 h68_)))
      have h200_ := (h199_ (sm_SK_q (sm_SK_pop (sm_SK_m h54_ h124_ (Int.le_refl _) (sm_F1_le h125_ (Int.le_refl _))) (la_enter_27 h62_ h189_)) h69_ rfl rfl))
      have h201_ := (h200_ h103_)
      have h202_ := (h201_ h106_)
      have h203_ := (h202_ h189_)
      have h204_ := (h203_ (sm_LK_m h47_ h124_ (sm_F1_up (sm_F1_le h126_ (Int.le_refl _)) (la_enter_23 h139_))))
      have h205_ := (h204_ (sm_VO_m h48_ h124_ (Int.le_refl _) (sm_F1_le h125_ (Int.le_refl _))))
      have h206_ := (h205_ (sm_FW_m h49_ h124_ (sm_F1_le h125_ (Int.le_refl _))))
      refine ⟨(la_enter_28 h31_ h38_ h78_ h82_ h90_), ?_⟩
      intro g48
      rintro ⟨h207_, ⟨h208_, ⟨h209_, ⟨h210_, ⟨h211_, ⟨h212_, ⟨h213_, ⟨h214_, ⟨h215_, ⟨h216_, ⟨h217_, ⟨h218_, ⟨h219_, ⟨h220_, ⟨h221_, ⟨h222_, h223_⟩⟩⟩⟩⟩⟩⟩⟩⟩⟩⟩⟩⟩⟩⟩⟩
      intro h224_
      refine ⟨h165_, ?_⟩
      refine ⟨h166_, ?_⟩
      refine ⟨h167_, ?_⟩
      refine ⟨h168_, ?_⟩
      refine ⟨(sm_SV_set h169_ (sm_SJ_w h180_ h184_) (la_enter_29 h82_ h90_)), ?_⟩
      refine ⟨h114_, ?_⟩
      refine ⟨h115_, ?_⟩
      refine ⟨h172_, ?_⟩
      refine ⟨h173_, ?_⟩
      refine ⟨h174_, ?_⟩
      refine ⟨?_, ?_⟩
      · skip
        obtain ⟨h225_, ⟨h226_, ⟨h227_, ⟨h228_, ⟨h229_, ⟨h230_, ⟨h231_, h232_⟩⟩⟩⟩⟩⟩⟩ := (((h74_ (S 45 p1)) (la_enter_15 h82_)) h90_)
        obtain ⟨h233_, ⟨h234_, ⟨h235_, ⟨h236_, ⟨h237_, h238_⟩⟩⟩⟩⟩ := (((h76_ (S 45 p1)) (la_enter_15 h82_)) h90_)
        have h239_ := (h190_ (S 1092 0 - 1))
        have h240_ := (h192_ (S 1092 0 - 1))
        have h241_ := ((h209_ (S 1092 0 - 1)) la_enter_31)
        have h242_ := (h209_ (S 1092 0))
        have h243_ := (h211_ (S 1092 0))
        have h244_ := ((h213_ (S 1092 0 - 1)) la_enter_31)
        have h245_ := (h213_ (S 1092 0))
        have h246_ := ((h215_ (S 1092 0 - 1)) la_enter_31)
        have h247_ := (h215_ (S 1092 0))
        have h248_ := ((h217_ (S 1092 0 - 1)) la_enter_31)
        have h249_ := (h217_ (S 1092 0))
        have h250_ := (h217_ (g48 1092 0 - 1))
        have h251_ := ((h219_ (S 1092 0 - 1)) la_enter_31)
        have h252_ := (h219_ (S 1092 0))
        have h253_ := (h221_ (S 1092 0))
        have h254_ := ((h223_ (S 1092 0 - 1)) la_enter_31)
        have h255_ := (h223_ (S 1092 0))
        have e256_ : S 1100007 (S 1100023 (S 1100033 0)) = S 1100007 (S 1100023 (S 1100033 0 + 1)) := congrArg ((S 1100007)) (la_enter_16 h68_)
        have e257_ : S 1100007 (S 1100034 0) = S 1100007 (S 1100025 (S 1100033 0 + 1)) := congrArg ((S 1100007)) (la_enter_16 h69_)
        have e258_ : g48 57 (S 1092 0) = g48 57 (g48 1092 0 - 1) := congrArg ((g48 57)) (la_enter_35 h207_)
        have e259_ : sm_dp (S 1100024) (S 1100023 (S 1100033 0)) = sm_dp (S 1100024) (S 1100023 (S 1100033 0 + 1)) := congrArg ((sm_dp (S 1100024))) (la_enter_16 h68_)
        exact (sm_SC_gs h175_ h141_ (sm_LK_q (sm_LK_q (sm_LK_m h91_ h124_ (sm_F1_le h126_ (Int.le_refl _))) (sm_F1_at h128_ p1 h80_) rfl) (if_pos la_enter_30) rfl) (la_enter_13 h142_))
      refine ⟨h120_, ?_⟩
      refine ⟨?_, ?_⟩
      · skip
        intro h260_
        refine ⟨h21_, ?_⟩
        exact h135_
      refine ⟨(la_enter_36 h23_ h122_ h139_), ?_⟩
      refine ⟨h24_, ?_⟩
      refine ⟨h25_, ?_⟩
      refine ⟨h26_, ?_⟩
      refine ⟨h35_, ?_⟩
      refine ⟨(la_enter_37 h7_ h177_), ?_⟩
      refine ⟨(la_enter_38 h38_ h207_), ?_⟩
      refine ⟨(la_enter_39 h78_ h207_), ?_⟩
      refine ⟨?_, ?_⟩
      · skip
        intro h261_
        intro h262_
        refine ⟨(la_enter_40 h38_ h207_), ?_⟩
        refine ⟨(la_enter_39 h78_ h207_), ?_⟩
        refine ⟨?_, ?_⟩
        · skip
          obtain ⟨h263_, ⟨h264_, ⟨h265_, ⟨h266_, ⟨h267_, ⟨h268_, ⟨h269_, h270_⟩⟩⟩⟩⟩⟩⟩ := (((h74_ (S 45 p1)) (la_enter_15 h82_)) h90_)
          obtain ⟨h271_, ⟨h272_, ⟨h273_, ⟨h274_, ⟨h275_, h276_⟩⟩⟩⟩⟩ := (((h76_ (S 45 p1)) (la_enter_15 h82_)) h90_)
          have h277_ := (h190_ (S 1092 0 - 1))
          have h278_ := (h192_ (S 1092 0 - 1))
          have h279_ := ((h209_ (S 1092 0 - 1)) la_enter_31)
          have h280_ := (h209_ (S 1092 0))
          have h281_ := (h211_ (S 1092 0))
          have h282_ := ((h213_ (S 1092 0 - 1)) la_enter_31)
          have h283_ := (h213_ (S 1092 0))
          have h284_ := ((h215_ (S 1092 0 - 1)) la_enter_31)
          have h285_ := (h215_ (S 1092 0))
          have h286_ := ((h217_ (S 1092 0 - 1)) la_enter_31)
          have h287_ := (h217_ (S 1092 0))
          have h288_ := (h217_ (g48 1092 0 - 1))
          have h289_ := ((h219_ (S 1092 0 - 1)) la_enter_31)
          have h290_ := (h219_ (S 1092 0))
          have h291_ := (h221_ (S 1092 0))
          have h292_ := ((h223_ (S 1092 0 - 1)) la_enter_31)
          have h293_ := (h223_ (S 1092 0))
          have e294_ : S 1100007 (S 1100023 (S 1100033 0)) = S 1100007 (S 1100023 (S 1100033 0 + 1)) := congrArg ((S 1100007)) (la_enter_16 h68_)
          have e295_ : S 1100007 (S 1100034 0) = S 1100007 (S 1100025 (S 1100033 0 + 1)) := congrArg ((S 1100007)) (la_enter_16 h69_)
          have e296_ : g48 57 (S 1092 0) = g48 57 (g48 1092 0 - 1) := congrArg ((g48 57)) (la_enter_35 h207_)
          have e297_ : sm_dp (S 1100024) (S 1100023 (S 1100033 0)) = sm_dp (S 1100024) (S 1100023 (S 1100033 0 + 1)) := congrArg ((sm_dp (S 1100024))) (la_enter_16 h68_)
          exact (la_enter_41 h216_ h263_ e296_)
        refine ⟨?_, ?_⟩
        · skip
          obtain ⟨h298_, ⟨h299_, ⟨h300_, ⟨h301_, ⟨h302_, ⟨h303_, ⟨h304_, h305_⟩⟩⟩⟩⟩⟩⟩ := (((h74_ (S 45 p1)) (la_enter_15 h82_)) h90_)
          obtain ⟨h306_, ⟨h307_, ⟨h308_, ⟨h309_, ⟨h310_, h311_⟩⟩⟩⟩⟩ := (((h76_ (S 45 p1)) (la_enter_15 h82_)) h90_)
          have h312_ := (h190_ (S 1092 0 - 1))
          have h313_ := (h192_ (S 1092 0 - 1))
          have h314_ := ((h209_ (S 1092 0 - 1)) la_enter_31)
          have h315_ := (h209_ (S 1092 0))
          have h316_ := (h211_ (S 1092 0))
          have h317_ := ((h213_ (S 1092 0 - 1)) la_enter_31)
          have h318_ := (h213_ (S 1092 0))
          have h319_ := ((h215_ (S 1092 0 - 1)) la_enter_31)
          have h320_ := (h215_ (S 1092 0))
          have h321_ := ((h217_ (S 1092 0 - 1)) la_enter_31)
          have h322_ := (h217_ (S 1092 0))
          have h323_ := (h217_ (g48 1092 0 - 1))
          have h324_ := ((h219_ (S 1092 0 - 1)) la_enter_31)
          have h325_ := (h219_ (S 1092 0))
          have h326_ := (h221_ (S 1092 0))
          have h327_ := ((h223_ (S 1092 0 - 1)) la_enter_31)
          have h328_ := (h223_ (S 1092 0))
          have e329_ : S 1100007 (S 1100023 (S 1100033 0)) = S 1100007 (S 1100023 (S 1100033 0 + 1)) := congrArg ((S 1100007)) (la_enter_16 h68_)
          have e330_ : S 1100007 (S 1100034 0) = S 1100007 (S 1100025 (S 1100033 0 + 1)) := congrArg ((S 1100007)) (la_enter_16 h69_)
          have e331_ : g48 57 (S 1092 0) = g48 57 (g48 1092 0 - 1) := congrArg ((g48 57)) (la_enter_35 h207_)
          have e332_ : sm_dp (S 1100024) (S 1100023 (S 1100033 0)) = sm_dp (S 1100024) (S 1100023 (S 1100033 0 + 1)) := congrArg ((sm_dp (S 1100024))) (la_enter_16 h68_)
          exact (la_enter_42 h216_ h299_ e331_)
        refine ⟨?_, ?_⟩
        · skip
          obtain ⟨h333_, ⟨h334_, ⟨h335_, ⟨h336_, ⟨h337_, ⟨h338_, ⟨h339_, h340_⟩⟩⟩⟩⟩⟩⟩ := (((h74_ (S 45 p1)) (la_enter_15 h82_)) h90_)
          obtain ⟨h341_, ⟨h342_, ⟨h343_, ⟨h344_, ⟨h345_, h346_⟩⟩⟩⟩⟩ := (((h76_ (S 45 p1)) (la_enter_15 h82_)) h90_)
          have h347_ := (h190_ (S 1092 0 - 1))
          have h348_ := (h192_ (S 1092 0 - 1))
          have h349_ := ((h209_ (S 1092 0 - 1)) la_enter_31)
          have h350_ := (h209_ (S 1092 0))
          have h351_ := (h209_ (g48 1092 0 - 1))
          have h352_ := (h211_ (S 1092 0))
          have h353_ := ((h213_ (S 1092 0 - 1)) la_enter_31)
          have h354_ := (h213_ (S 1092 0))
          have h355_ := ((h215_ (S 1092 0 - 1)) la_enter_31)
          have h356_ := (h215_ (S 1092 0))
          have h357_ := ((h217_ (S 1092 0 - 1)) la_enter_31)
          have h358_ := (h217_ (S 1092 0))
          have h359_ := (h217_ (g48 1092 0 - 1))
          have h360_ := ((h219_ (S 1092 0 - 1)) la_enter_31)
          have h361_ := (h219_ (S 1092 0))
          have h362_ := (h221_ (S 1092 0))
          have h363_ := ((h223_ (S 1092 0 - 1)) la_enter_31)
          have h364_ := (h223_ (S 1092 0))
          have e365_ : S 1100007 (S 1100023 (S 1100033 0)) = S 1100007 (S 1100023 (S 1100033 0 + 1)) := congrArg ((S 1100007)) (la_enter_16 h68_)
          have e366_ : S 1100007 (S 1100034 0) = S 1100007 (S 1100025 (S 1100033 0 + 1)) := congrArg ((S 1100007)) (la_enter_16 h69_)
          have e367_ : g48 53 (S 1092 0) = g48 53 (g48 1092 0 - 1) := congrArg ((g48 53)) (la_enter_35 h207_)
          have e368_ : g48 57 (S 1092 0) = g48 57 (g48 1092 0 - 1) := congrArg ((g48 57)) (la_enter_35 h207_)
          have e369_ : sm_dp (S 1100024) (S 1100023 (S 1100033 0)) = sm_dp (S 1100024) (S 1100023 (S 1100033 0 + 1)) := congrArg ((sm_dp (S 1100024))) (la_enter_16 h68_)
          have e370_ : S 1100023 (g48 57 (g48 1092 0 - 1)) = S 1100023 (S 30 (S 45 p1)) := congrArg ((S 1100023)) (la_enter_43 h216_ e368_)
          have e371_ : S 29 (g48 57 (g48 1092 0 - 1)) = S 29 (S 30 (S 45 p1)) := congrArg ((S 29)) (la_enter_43 h216_ e368_)
          have h372_ := (h224_ (la_enter_44 h336_ e370_))
          exact (la_enter_45 h208_ h343_ e367_ e371_)
        refine ⟨?_, ?_⟩
        · skip
          obtain ⟨h373_, ⟨h374_, ⟨h375_, ⟨h376_, ⟨h377_, ⟨h378_, ⟨h379_, h380_⟩⟩⟩⟩⟩⟩⟩ := (((h74_ (S 45 p1)) (la_enter_15 h82_)) h90_)
          obtain ⟨h381_, ⟨h382_, ⟨h383_, ⟨h384_, ⟨h385_, h386_⟩⟩⟩⟩⟩ := (((h76_ (S 45 p1)) (la_enter_15 h82_)) h90_)
          have h387_ := (h190_ (S 1092 0 - 1))
          have h388_ := (h192_ (S 1092 0 - 1))
          have h389_ := ((h209_ (S 1092 0 - 1)) la_enter_31)
          have h390_ := (h209_ (S 1092 0))
          have h391_ := (h209_ (g48 1092 0 - 1))
          have h392_ := (h211_ (S 1092 0))
          have h393_ := ((h213_ (S 1092 0 - 1)) la_enter_31)
          have h394_ := (h213_ (S 1092 0))
          have h395_ := ((h215_ (S 1092 0 - 1)) la_enter_31)
          have h396_ := (h215_ (S 1092 0))
          have h397_ := ((h217_ (S 1092 0 - 1)) la_enter_31)
          have h398_ := (h217_ (S 1092 0))
          have h399_ := (h217_ (g48 1092 0 - 1))
          have h400_ := ((h219_ (S 1092 0 - 1)) la_enter_31)
          have h401_ := (h219_ (S 1092 0))
          have h402_ := (h221_ (S 1092 0))
          have h403_ := ((h223_ (S 1092 0 - 1)) la_enter_31)
          have h404_ := (h223_ (S 1092 0))
          have e405_ : S 1100007 (S 1100023 (S 1100033 0)) = S 1100007 (S 1100023 (S 1100033 0 + 1)) := congrArg ((S 1100007)) (la_enter_16 h68_)
          have e406_ : S 1100007 (S 1100034 0) = S 1100007 (S 1100025 (S 1100033 0 + 1)) := congrArg ((S 1100007)) (la_enter_16 h69_)
          have e407_ : g48 53 (S 1092 0) = g48 53 (g48 1092 0 - 1) := congrArg ((g48 53)) (la_enter_35 h207_)
          have e408_ : g48 57 (S 1092 0) = g48 57 (g48 1092 0 - 1) := congrArg ((g48 57)) (la_enter_35 h207_)
          have e409_ : sm_dp (S 1100024) (S 1100023 (S 1100033 0)) = sm_dp (S 1100024) (S 1100023 (S 1100033 0 + 1)) := congrArg ((sm_dp (S 1100024))) (la_enter_16 h68_)
          exact (la_enter_46 h82_ h208_ e407_)
        refine ⟨?_, ?_⟩
        · skip
          obtain ⟨h410_, ⟨h411_, ⟨h412_, ⟨h413_, ⟨h414_, ⟨h415_, ⟨h416_, h417_⟩⟩⟩⟩⟩⟩⟩ := (((h74_ (S 45 p1)) (la_enter_15 h82_)) h90_)
          obtain ⟨h418_, ⟨h419_, ⟨h420_, ⟨h421_, ⟨h422_, h423_⟩⟩⟩⟩⟩ := (((h76_ (S 45 p1)) (la_enter_15 h82_)) h90_)
          have h424_ := (h190_ (S 1092 0 - 1))
          have h425_ := (h192_ (S 1092 0 - 1))
          have h426_ := ((h209_ (S 1092 0 - 1)) la_enter_31)
          have h427_ := (h209_ (S 1092 0))
          have h428_ := (h209_ (g48 1092 0 - 1))
          have h429_ := (h211_ (S 1092 0))
          have h430_ := ((h213_ (S 1092 0 - 1)) la_enter_31)
          have h431_ := (h213_ (S 1092 0))
          have h432_ := ((h215_ (S 1092 0 - 1)) la_enter_31)
          have h433_ := (h215_ (S 1092 0))
          have h434_ := ((h217_ (S 1092 0 - 1)) la_enter_31)
          have h435_ := (h217_ (S 1092 0))
          have h436_ := (h217_ (g48 1092 0 - 1))
          have h437_ := ((h219_ (S 1092 0 - 1)) la_enter_31)
          have h438_ := (h219_ (S 1092 0))
          have h439_ := (h221_ (S 1092 0))
          have h440_ := ((h223_ (S 1092 0 - 1)) la_enter_31)
          have h441_ := (h223_ (S 1092 0))
          have e442_ : S 1100007 (S 1100023 (S 1100033 0)) = S 1100007 (S 1100023 (S 1100033 0 + 1)) := congrArg ((S 1100007)) (la_enter_16 h68_)
          have e443_ : S 1100007 (S 1100034 0) = S 1100007 (S 1100025 (S 1100033 0 + 1)) := congrArg ((S 1100007)) (la_enter_16 h69_)
          have e444_ : g48 53 (S 1092 0) = g48 53 (g48 1092 0 - 1) := congrArg ((g48 53)) (la_enter_35 h207_)
          have e445_ : g48 57 (S 1092 0) = g48 57 (g48 1092 0 - 1) := congrArg ((g48 57)) (la_enter_35 h207_)
          have e446_ : sm_dp (S 1100024) (S 1100023 (S 1100033 0)) = sm_dp (S 1100024) (S 1100023 (S 1100033 0 + 1)) := congrArg ((sm_dp (S 1100024))) (la_enter_16 h68_)
          exact (la_enter_47 h90_ h208_ e444_)
        refine ⟨?_, ?_⟩
        · skip
          obtain ⟨h447_, ⟨h448_, ⟨h449_, ⟨h450_, ⟨h451_, ⟨h452_, ⟨h453_, h454_⟩⟩⟩⟩⟩⟩⟩ := (((h74_ (S 45 p1)) (la_enter_15 h82_)) h90_)
          obtain ⟨h455_, ⟨h456_, ⟨h457_, ⟨h458_, ⟨h459_, h460_⟩⟩⟩⟩⟩ := (((h76_ (S 45 p1)) (la_enter_15 h82_)) h90_)
          have h461_ := (h190_ (S 1092 0 - 1))
          have h462_ := (h192_ (S 1092 0 - 1))
          have h463_ := ((h209_ (S 1092 0 - 1)) la_enter_31)
          have h464_ := (h209_ (S 1092 0))
          have h465_ := (h211_ (S 1092 0))
          have h466_ := ((h213_ (S 1092 0 - 1)) la_enter_31)
          have h467_ := (h213_ (S 1092 0))
          have h468_ := ((h215_ (S 1092 0 - 1)) la_enter_31)
          have h469_ := (h215_ (S 1092 0))
          have h470_ := ((h217_ (S 1092 0 - 1)) la_enter_31)
          have h471_ := (h217_ (S 1092 0))
          have h472_ := (h217_ (g48 1092 0 - 1))
          have h473_ := ((h219_ (S 1092 0 - 1)) la_enter_31)
          have h474_ := (h219_ (S 1092 0))
          have h475_ := (h221_ (S 1092 0))
          have h476_ := ((h223_ (S 1092 0 - 1)) la_enter_31)
          have h477_ := (h223_ (S 1092 0))
          have h478_ := (h223_ (g48 1092 0 - 1))
          have e479_ : S 1100007 (S 1100023 (S 1100033 0)) = S 1100007 (S 1100023 (S 1100033 0 + 1)) := congrArg ((S 1100007)) (la_enter_16 h68_)
          have e480_ : S 1100007 (S 1100034 0) = S 1100007 (S 1100025 (S 1100033 0 + 1)) := congrArg ((S 1100007)) (la_enter_16 h69_)
          have e481_ : g48 57 (S 1092 0) = g48 57 (g48 1092 0 - 1) := congrArg ((g48 57)) (la_enter_35 h207_)
          have e482_ : g48 60 (S 1092 0) = g48 60 (g48 1092 0 - 1) := congrArg ((g48 60)) (la_enter_35 h207_)
          have e483_ : sm_dp (S 1100024) (S 1100023 (S 1100033 0)) = sm_dp (S 1100024) (S 1100023 (S 1100033 0 + 1)) := congrArg ((sm_dp (S 1100024))) (la_enter_16 h68_)
          have e484_ : S 1100023 (g48 57 (g48 1092 0 - 1)) = S 1100023 (S 30 (S 45 p1)) := congrArg ((S 1100023)) (la_enter_43 h216_ e481_)
          have h485_ := (h224_ (la_enter_44 h450_ e484_))
          exact (la_enter_48 h222_ e482_ h485_)
        refine ⟨?_, ?_⟩
        · skip
          obtain ⟨h486_, ⟨h487_, ⟨h488_, ⟨h489_, ⟨h490_, ⟨h491_, ⟨h492_, h493_⟩⟩⟩⟩⟩⟩⟩ := (((h74_ (S 45 p1)) (la_enter_15 h82_)) h90_)
          obtain ⟨h494_, ⟨h495_, ⟨h496_, ⟨h497_, ⟨h498_, h499_⟩⟩⟩⟩⟩ := (((h76_ (S 45 p1)) (la_enter_15 h82_)) h90_)
          have h500_ := (h190_ (S 1092 0 - 1))
          have h501_ := (h192_ (S 1092 0 - 1))
          have h502_ := ((h209_ (S 1092 0 - 1)) la_enter_31)
          have h503_ := (h209_ (S 1092 0))
          have h504_ := (h211_ (S 1092 0))
          have h505_ := ((h213_ (S 1092 0 - 1)) la_enter_31)
          have h506_ := (h213_ (S 1092 0))
          have h507_ := ((h215_ (S 1092 0 - 1)) la_enter_31)
          have h508_ := (h215_ (S 1092 0))
          have h509_ := ((h217_ (S 1092 0 - 1)) la_enter_31)
          have h510_ := (h217_ (S 1092 0))
          have h511_ := (h217_ (g48 1092 0 - 1))
          have h512_ := ((h219_ (S 1092 0 - 1)) la_enter_31)
          have h513_ := (h219_ (S 1092 0))
          have h514_ := (h221_ (S 1092 0))
          have h515_ := ((h223_ (S 1092 0 - 1)) la_enter_31)
          have h516_ := (h223_ (S 1092 0))
          have e517_ : S 1100007 (S 1100023 (S 1100033 0)) = S 1100007 (S 1100023 (S 1100033 0 + 1)) := congrArg ((S 1100007)) (la_enter_16 h68_)
          have e518_ : S 1100007 (S 1100034 0) = S 1100007 (S 1100025 (S 1100033 0 + 1)) := congrArg ((S 1100007)) (la_enter_16 h69_)
          have e519_ : g48 57 (S 1092 0) = g48 57 (g48 1092 0 - 1) := congrArg ((g48 57)) (la_enter_35 h207_)
          have e520_ : sm_dp (S 1100024) (S 1100023 (S 1100033 0)) = sm_dp (S 1100024) (S 1100023 (S 1100033 0 + 1)) := congrArg ((sm_dp (S 1100024))) (la_enter_16 h68_)
          have e521_ : S 1100023 (g48 57 (g48 1092 0 - 1)) = S 1100023 (S 30 (S 45 p1)) := congrArg ((S 1100023)) (la_enter_43 h216_ e519_)
          have h522_ := (h224_ (la_enter_44 h489_ e521_))
          exact (sm_TC_0 (la_enter_44 h489_ e521_))
        refine ⟨?_, ?_⟩
        · skip
          obtain ⟨h523_, ⟨h524_, ⟨h525_, ⟨h526_, ⟨h527_, ⟨h528_, ⟨h529_, h530_⟩⟩⟩⟩⟩⟩⟩ := (((h74_ (S 45 p1)) (la_enter_15 h82_)) h90_)
          obtain ⟨h531_, ⟨h532_, ⟨h533_, ⟨h534_, ⟨h535_, h536_⟩⟩⟩⟩⟩ := (((h76_ (S 45 p1)) (la_enter_15 h82_)) h90_)
          have h537_ := (h190_ (S 1092 0 - 1))
          have h538_ := (h192_ (S 1092 0 - 1))
          have h539_ := ((h209_ (S 1092 0 - 1)) la_enter_31)
          have h540_ := (h209_ (S 1092 0))
          have h541_ := (h209_ (g48 1092 0 - 1))
          have h542_ := (h211_ (S 1092 0))
          have h543_ := (h211_ (g48 1092 0 - 1))
          have h544_ := ((h213_ (S 1092 0 - 1)) la_enter_31)
          have h545_ := (h213_ (S 1092 0))
          have h546_ := ((h215_ (S 1092 0 - 1)) la_enter_31)
          have h547_ := (h215_ (S 1092 0))
          have h548_ := ((h217_ (S 1092 0 - 1)) la_enter_31)
          have h549_ := (h217_ (S 1092 0))
          have h550_ := (h217_ (g48 1092 0 - 1))
          have h551_ := ((h219_ (S 1092 0 - 1)) la_enter_31)
          have h552_ := (h219_ (S 1092 0))
          have h553_ := (h221_ (S 1092 0))
          have h554_ := ((h223_ (S 1092 0 - 1)) la_enter_31)
          have h555_ := (h223_ (S 1092 0))
          have e556_ : S 1100007 (S 1100023 (S 1100033 0)) = S 1100007 (S 1100023 (S 1100033 0 + 1)) := congrArg ((S 1100007)) (la_enter_16 h68_)
          have e557_ : S 1100007 (S 1100034 0) = S 1100007 (S 1100025 (S 1100033 0 + 1)) := congrArg ((S 1100007)) (la_enter_16 h69_)
          have e558_ : g48 53 (S 1092 0) = g48 53 (g48 1092 0 - 1) := congrArg ((g48 53)) (la_enter_35 h207_)
          have e559_ : g48 54 (S 1092 0) = g48 54 (g48 1092 0 - 1) := congrArg ((g48 54)) (la_enter_35 h207_)
          have e560_ : g48 57 (S 1092 0) = g48 57 (g48 1092 0 - 1) := congrArg ((g48 57)) (la_enter_35 h207_)
          have e561_ : sm_dp (S 1100024) (S 1100023 (S 1100033 0)) = sm_dp (S 1100024) (S 1100023 (S 1100033 0 + 1)) := congrArg ((sm_dp (S 1100024))) (la_enter_16 h68_)
          exact (sm_LK_q h188_ (la_enter_43 h210_ e559_) (la_enter_43 h208_ e558_))
        refine ⟨?_, ?_⟩
        · skip
          obtain ⟨h562_, ⟨h563_, ⟨h564_, ⟨h565_, ⟨h566_, ⟨h567_, ⟨h568_, h569_⟩⟩⟩⟩⟩⟩⟩ := (((h74_ (S 45 p1)) (la_enter_15 h82_)) h90_)
          obtain ⟨h570_, ⟨h571_, ⟨h572_, ⟨h573_, ⟨h574_, h575_⟩⟩⟩⟩⟩ := (((h76_ (S 45 p1)) (la_enter_15 h82_)) h90_)
          have h576_ := (h190_ (S 1092 0 - 1))
          have h577_ := (h192_ (S 1092 0 - 1))
          have h578_ := ((h209_ (S 1092 0 - 1)) la_enter_31)
          have h579_ := (h209_ (S 1092 0))
          have h580_ := (h211_ (S 1092 0))
          have h581_ := ((h213_ (S 1092 0 - 1)) la_enter_31)
          have h582_ := (h213_ (S 1092 0))
          have h583_ := (h213_ (g48 1092 0 - 1))
          have h584_ := ((h215_ (S 1092 0 - 1)) la_enter_31)
          have h585_ := (h215_ (S 1092 0))
          have h586_ := (h215_ (g48 1092 0 - 1))
          have h587_ := ((h217_ (S 1092 0 - 1)) la_enter_31)
          have h588_ := (h217_ (S 1092 0))
          have h589_ := (h217_ (g48 1092 0 - 1))
          have h590_ := ((h219_ (S 1092 0 - 1)) la_enter_31)
          have h591_ := (h219_ (S 1092 0))
          have h592_ := (h221_ (S 1092 0))
          have h593_ := ((h223_ (S 1092 0 - 1)) la_enter_31)
          have h594_ := (h223_ (S 1092 0))
          have e595_ : S 1100007 (S 1100023 (S 1100033 0)) = S 1100007 (S 1100023 (S 1100033 0 + 1)) := congrArg ((S 1100007)) (la_enter_16 h68_)
          have e596_ : S 1100007 (S 1100034 0) = S 1100007 (S 1100025 (S 1100033 0 + 1)) := congrArg ((S 1100007)) (la_enter_16 h69_)
          have e597_ : g48 55 (S 1092 0) = g48 55 (g48 1092 0 - 1) := congrArg ((g48 55)) (la_enter_35 h207_)
          have e598_ : g48 56 (S 1092 0) = g48 56 (g48 1092 0 - 1) := congrArg ((g48 56)) (la_enter_35 h207_)
          have e599_ : g48 57 (S 1092 0) = g48 57 (g48 1092 0 - 1) := congrArg ((g48 57)) (la_enter_35 h207_)
          have e600_ : sm_dp (S 1100024) (S 1100023 (S 1100033 0)) = sm_dp (S 1100024) (S 1100023 (S 1100033 0 + 1)) := congrArg ((sm_dp (S 1100024))) (la_enter_16 h68_)
          exact (sm_VO_eq (sm_VO_m h83_ h124_ (Int.le_refl _) (sm_F1_le h125_ (Int.le_refl _))) (la_enter_43 h212_ e597_) (la_enter_43 h214_ e598_))
        refine ⟨?_, ?_⟩
        · skip
          obtain ⟨h601_, ⟨h602_, ⟨h603_, ⟨h604_, ⟨h605_, ⟨h606_, ⟨h607_, h608_⟩⟩⟩⟩⟩⟩⟩ := (((h74_ (S 45 p1)) (la_enter_15 h82_)) h90_)
          obtain ⟨h609_, ⟨h610_, ⟨h611_, ⟨h612_, ⟨h613_, h614_⟩⟩⟩⟩⟩ := (((h76_ (S 45 p1)) (la_enter_15 h82_)) h90_)
          have h615_ := (h190_ (S 1092 0 - 1))
          have h616_ := (h192_ (S 1092 0 - 1))
          have h617_ := ((h209_ (S 1092 0 - 1)) la_enter_31)
          have h618_ := (h209_ (S 1092 0))
          have h619_ := (h211_ (S 1092 0))
          have h620_ := ((h213_ (S 1092 0 - 1)) la_enter_31)
          have h621_ := (h213_ (S 1092 0))
          have h622_ := ((h215_ (S 1092 0 - 1)) la_enter_31)
          have h623_ := (h215_ (S 1092 0))
          have h624_ := ((h217_ (S 1092 0 - 1)) la_enter_31)
          have h625_ := (h217_ (S 1092 0))
          have h626_ := (h217_ (g48 1092 0 - 1))
          have h627_ := ((h219_ (S 1092 0 - 1)) la_enter_31)
          have h628_ := (h219_ (S 1092 0))
          have h629_ := (h221_ (S 1092 0))
          have h630_ := (h221_ (g48 1092 0 - 1))
          have h631_ := ((h223_ (S 1092 0 - 1)) la_enter_31)
          have h632_ := (h223_ (S 1092 0))
          have e633_ : S 1100007 (S 1100023 (S 1100033 0)) = S 1100007 (S 1100023 (S 1100033 0 + 1)) := congrArg ((S 1100007)) (la_enter_16 h68_)
          have e634_ : S 1100007 (S 1100034 0) = S 1100007 (S 1100025 (S 1100033 0 + 1)) := congrArg ((S 1100007)) (la_enter_16 h69_)
          have e635_ : g48 57 (S 1092 0) = g48 57 (g48 1092 0 - 1) := congrArg ((g48 57)) (la_enter_35 h207_)
          have e636_ : g48 59 (S 1092 0) = g48 59 (g48 1092 0 - 1) := congrArg ((g48 59)) (la_enter_35 h207_)
          have e637_ : sm_dp (S 1100024) (S 1100023 (S 1100033 0)) = sm_dp (S 1100024) (S 1100023 (S 1100033 0 + 1)) := congrArg ((sm_dp (S 1100024))) (la_enter_16 h68_)
          exact (sm_FW_q (sm_FW_m h84_ h124_ (sm_F1_le h125_ (Int.le_refl _))) (la_enter_43 h220_ e636_))
        refine ⟨(sm_FL_F (sm_FL_w h206_ (la_enter_49 h207_)) (sm_F1_le (sm_F1_ne h209_ (Int.le_refl _)) (la_enter_49 h207_)) (sm_F1_le (sm_F1_ne h211_ (Int.le_refl _)) (la_enter_49 h207_)) (sm_F1_le (sm_F1_ne h213_ (Int.le_refl _)) (la_enter_49 h207_)) (sm_F1_le (sm_F1_ne h215_ (Int.le_refl _)) (la_enter_49 h207_)) (sm_F1_le (sm_F1_ne h217_ (Int.le_refl _)) (la_enter_49 h207_)) (sm_F1_le (sm_F1_ne h219_ (Int.le_refl _)) (la_enter_49 h207_)) (sm_F1_le (sm_F1_ne h221_ (Int.le_refl _)) (la_enter_49 h207_)) (sm_F1_le (sm_F1_ne h223_ (Int.le_refl _)) (la_enter_49 h207_)) sm_F1_rf sm_F1_rf sm_F1_rf sm_F1_rf (Int.le_refl _) (Int.le_refl _) sm_F1_rf sm_F1_rf (sm_FL_dp (sm_FL_w h206_ (la_enter_49 h207_)) h27_)), ?_⟩
        refine ⟨?_, ?_⟩
        · skip
          obtain ⟨h638_, ⟨h639_, ⟨h640_, ⟨h641_, ⟨h642_, ⟨h643_, ⟨h644_, h645_⟩⟩⟩⟩⟩⟩⟩ := (((h74_ (S 45 p1)) (la_enter_15 h82_)) h90_)
          obtain ⟨h646_, ⟨h647_, ⟨h648_, ⟨h649_, ⟨h650_, h651_⟩⟩⟩⟩⟩ := (((h76_ (S 45 p1)) (la_enter_15 h82_)) h90_)
          have h652_ := (h190_ (S 1092 0 - 1))
          have h653_ := (h192_ (S 1092 0 - 1))
          have h654_ := ((h209_ (S 1092 0 - 1)) la_enter_31)
          have h655_ := (h209_ (S 1092 0))
          have h656_ := (h211_ (S 1092 0))
          have h657_ := ((h213_ (S 1092 0 - 1)) la_enter_31)
          have h658_ := (h213_ (S 1092 0))
          have h659_ := ((h215_ (S 1092 0 - 1)) la_enter_31)
          have h660_ := (h215_ (S 1092 0))
          have h661_ := ((h217_ (S 1092 0 - 1)) la_enter_31)
          have h662_ := (h217_ (S 1092 0))
          have h663_ := (h217_ (g48 1092 0 - 1))
          have h664_ := ((h219_ (S 1092 0 - 1)) la_enter_31)
          have h665_ := (h219_ (S 1092 0))
          have h666_ := (h219_ (g48 1092 0 - 1))
          have h667_ := (h221_ (S 1092 0))
          have h668_ := ((h223_ (S 1092 0 - 1)) la_enter_31)
          have h669_ := (h223_ (S 1092 0))
          have e670_ : S 1100007 (S 1100023 (S 1100033 0)) = S 1100007 (S 1100023 (S 1100033 0 + 1)) := congrArg ((S 1100007)) (la_enter_16 h68_)
          have e671_ : S 1100007 (S 1100034 0) = S 1100007 (S 1100025 (S 1100033 0 + 1)) := congrArg ((S 1100007)) (la_enter_16 h69_)
          have e672_ : g48 57 (S 1092 0) = g48 57 (g48 1092 0 - 1) := congrArg ((g48 57)) (la_enter_35 h207_)
          have e673_ : g48 58 (S 1092 0) = g48 58 (g48 1092 0 - 1) := congrArg ((g48 58)) (la_enter_35 h207_)
          have e674_ : sm_dp (S 1100024) (S 1100023 (S 1100033 0)) = sm_dp (S 1100024) (S 1100023 (S 1100033 0 + 1)) := congrArg ((sm_dp (S 1100024))) (la_enter_16 h68_)
          have e675_ : S 1100007 (g48 57 (g48 1092 0 - 1)) = S 1100007 (S 30 (S 45 p1)) := congrArg ((S 1100007)) (la_enter_43 h216_ e672_)
          have e676_ : S 1100023 (g48 57 (g48 1092 0 - 1)) = S 1100023 (S 30 (S 45 p1)) := congrArg ((S 1100023)) (la_enter_43 h216_ e672_)
          have h677_ := (h224_ (la_enter_44 h641_ e676_))
          exact (la_enter_50 h218_ h640_ e673_ e675_)
        obtain ⟨h678_, ⟨h679_, ⟨h680_, ⟨h681_, ⟨h682_, ⟨h683_, ⟨h684_, h685_⟩⟩⟩⟩⟩⟩⟩ := (((h74_ (S 45 p1)) (la_enter_15 h82_)) h90_)
        obtain ⟨h686_, ⟨h687_, ⟨h688_, ⟨h689_, ⟨h690_, h691_⟩⟩⟩⟩⟩ := (((h76_ (S 45 p1)) (la_enter_15 h82_)) h90_)
        have h692_ := (h190_ (S 1092 0 - 1))
        have h693_ := (h192_ (S 1092 0 - 1))
        have h694_ := ((h209_ (S 1092 0 - 1)) la_enter_31)
        have h695_ := (h209_ (S 1092 0))
        have h696_ := (h211_ (S 1092 0))
        have h697_ := ((h213_ (S 1092 0 - 1)) la_enter_31)
        have h698_ := (h213_ (S 1092 0))
        have h699_ := ((h215_ (S 1092 0 - 1)) la_enter_31)
        have h700_ := (h215_ (S 1092 0))
        have h701_ := ((h217_ (S 1092 0 - 1)) la_enter_31)
        have h702_ := (h217_ (S 1092 0))
        have h703_ := (h217_ (g48 1092 0 - 1))
        have h704_ := ((h219_ (S 1092 0 - 1)) la_enter_31)
        have h705_ := (h219_ (S 1092 0))
        have h706_ := (h219_ (g48 1092 0 - 1))
        have h707_ := (h221_ (S 1092 0))
        have h708_ := ((h223_ (S 1092 0 - 1)) la_enter_31)
        have h709_ := (h223_ (S 1092 0))
        have e710_ : S 1100007 (S 1100023 (S 1100033 0)) = S 1100007 (S 1100023 (S 1100033 0 + 1)) := congrArg ((S 1100007)) (la_enter_16 h68_)
        have e711_ : S 1100007 (S 1100034 0) = S 1100007 (S 1100025 (S 1100033 0 + 1)) := congrArg ((S 1100007)) (la_enter_16 h69_)
        have e712_ : g48 57 (S 1092 0) = g48 57 (g48 1092 0 - 1) := congrArg ((g48 57)) (la_enter_35 h207_)
        have e713_ : g48 58 (S 1092 0) = g48 58 (g48 1092 0 - 1) := congrArg ((g48 58)) (la_enter_35 h207_)
        have e714_ : sm_dp (S 1100024) (S 1100023 (S 1100033 0)) = sm_dp (S 1100024) (S 1100023 (S 1100033 0 + 1)) := congrArg ((sm_dp (S 1100024))) (la_enter_16 h68_)
        exact (sm_SK_0 (la_enter_51 h218_ e713_))
      refine ⟨h181_, ?_⟩
      obtain ⟨h715_, ⟨h716_, ⟨h717_, ⟨h718_, ⟨h719_, ⟨h720_, ⟨h721_, h722_⟩⟩⟩⟩⟩⟩⟩ := (((h74_ (S 45 p1)) (la_enter_15 h82_)) h90_)
      obtain ⟨h723_, ⟨h724_, ⟨h725_, ⟨h726_, ⟨h727_, h728_⟩⟩⟩⟩⟩ := (((h76_ (S 45 p1)) (la_enter_15 h82_)) h90_)
      have h729_ := (h190_ (S 1092 0 - 1))
      have h730_ := (h192_ (S 1092 0 - 1))
      have h731_ := ((h209_ (S 1092 0 - 1)) la_enter_31)
      have h732_ := (h209_ (S 1092 0))
      have h733_ := (h211_ (S 1092 0))
      have h734_ := ((h213_ (S 1092 0 - 1)) la_enter_31)
      have h735_ := (h213_ (S 1092 0))
      have h736_ := ((h215_ (S 1092 0 - 1)) la_enter_31)
      have h737_ := (h215_ (S 1092 0))
      have h738_ := ((h217_ (S 1092 0 - 1)) la_enter_31)
      have h739_ := (h217_ (S 1092 0))
      have h740_ := (h217_ (g48 1092 0 - 1))
      have h741_ := ((h219_ (S 1092 0 - 1)) la_enter_31)
      have h742_ := (h219_ (S 1092 0))
      have h743_ := (h221_ (S 1092 0))
      have h744_ := ((h223_ (S 1092 0 - 1)) la_enter_31)
      have h745_ := (h223_ (S 1092 0))
      have e746_ : S 1100007 (S 1100023 (S 1100033 0)) = S 1100007 (S 1100023 (S 1100033 0 + 1)) := congrArg ((S 1100007)) (la_enter_16 h68_)
      have e747_ : S 1100007 (S 1100034 0) = S 1100007 (S 1100025 (S 1100033 0 + 1)) := congrArg ((S 1100007)) (la_enter_16 h69_)
      have e748_ : g48 57 (S 1092 0) = g48 57 (g48 1092 0 - 1) := congrArg ((g48 57)) (la_enter_35 h207_)
      have e749_ : sm_dp (S 1100024) (S 1100023 (S 1100033 0)) = sm_dp (S 1100024) (S 1100023 (S 1100033 0 + 1)) := congrArg ((sm_dp (S 1100024))) (la_enter_16 h68_)
      exact (la_enter_52 h179_ h182_ h720_)
    intro h750_
    intro h751_
    have h752_ := (h751_ h75_)
    have h753_ := (h752_ h82_)
    have h754_ := (h753_ h90_)
    have h755_ := (h754_ h178_)
    obtain ⟨h756_, h757_⟩ := (h755_ (la_enter_53 h750_))
    refine ⟨?_, ?_⟩
    · skip
      refine ⟨(la_enter_54 h82_ h178_), ?_⟩
      obtain ⟨h758_, ⟨h759_, ⟨h760_, ⟨h761_, ⟨h762_, ⟨h763_, ⟨h764_, h765_⟩⟩⟩⟩⟩⟩⟩ := (((h74_ (S 45 p1)) (la_enter_15 h82_)) h90_)
      obtain ⟨h766_, ⟨h767_, ⟨h768_, ⟨h769_, ⟨h770_, h771_⟩⟩⟩⟩⟩ := (((h76_ (S 45 p1)) (la_enter_15 h82_)) h90_)
      have e772_ : S 1100007 (S 1100023 (S 1100033 0)) = S 1100007 (S 1100023 (S 1100033 0 + 1)) := congrArg ((S 1100007)) (la_enter_16 h68_)
      have e773_ : S 1100007 (S 1100034 0) = S 1100007 (S 1100025 (S 1100033 0 + 1)) := congrArg ((S 1100007)) (la_enter_16 h69_)
      have e774_ : sm_dp (S 1100024) (S 1100023 (S 1100033 0)) = sm_dp (S 1100024) (S 1100023 (S 1100033 0 + 1)) := congrArg ((sm_dp (S 1100024))) (la_enter_16 h68_)
      exact (la_enter_55 h31_ h90_ h750_ h763_)
    intro h775_
    intro x57
    intro h776_
    refine ⟨?_, ?_⟩
    · skip
      intro s59
      intro h777_
      intro h778_
      refine ⟨?_, ?_⟩
      · skip
        intro s61
        intro h779_
        intro h780_
        refine ⟨?_, ?_⟩
        · skip
          intro s63
          intro h781_
          rintro ⟨h782_, ⟨h783_, h784_⟩⟩
          refine ⟨?_, ?_⟩
          · skip
            intro h785_
            have h786_ := (h778_.resolve_right (la_enter_8 h785_))
            have h787_ := (h783_ h785_)
            have h788_ := (h784_ h785_)
            refine ⟨?_, ?_⟩
            · skip
              intro h789_
              have h790_ := (h780_.resolve_right (la_enter_8 h789_))
              have h791_ := (h788_ h789_)
              refine ⟨?_, ?_⟩
              · skip
                refine ⟨h165_, ?_⟩
                refine ⟨h166_, ?_⟩
                refine ⟨h167_, ?_⟩
                refine ⟨h168_, ?_⟩
                refine ⟨h169_, ?_⟩
                refine ⟨h114_, ?_⟩
                refine ⟨h115_, ?_⟩
                refine ⟨h172_, ?_⟩
                refine ⟨h173_, ?_⟩
                refine ⟨h174_, ?_⟩
                refine ⟨h121_, ?_⟩
                refine ⟨h122_, ?_⟩
                refine ⟨(la_enter_57 h756_ h776_), ?_⟩
                refine ⟨(la_enter_58 h35_ h757_ h776_), ?_⟩
                refine ⟨(sm_VO_i (la_enter_59 h791_) (la_enter_60 h791_) (la_enter_61 h24_) (la_enter_62 h23_ h124_ h791_)), ?_⟩
                refine ⟨(la_enter_63 h141_ h791_), ?_⟩
                obtain ⟨h792_, ⟨h793_, ⟨h794_, ⟨h795_, ⟨h796_, ⟨h797_, ⟨h798_, h799_⟩⟩⟩⟩⟩⟩⟩ := (((h74_ (S 45 p1)) (la_enter_15 h82_)) h90_)
                obtain ⟨h800_, ⟨h801_, ⟨h802_, ⟨h803_, ⟨h804_, h805_⟩⟩⟩⟩⟩ := (((h76_ (S 45 p1)) (la_enter_15 h82_)) h90_)
                have e806_ : S 1100007 (S 1100023 (S 1100033 0)) = S 1100007 (S 1100023 (S 1100033 0 + 1)) := congrArg ((S 1100007)) (la_enter_16 h68_)
                have e807_ : S 1100007 (S 1100034 0) = S 1100007 (S 1100025 (S 1100033 0 + 1)) := congrArg ((S 1100007)) (la_enter_16 h69_)
                have e808_ : sm_dp (S 1100024) (S 1100023 (S 1100033 0)) = sm_dp (S 1100024) (S 1100023 (S 1100033 0 + 1)) := congrArg ((sm_dp (S 1100024))) (la_enter_16 h68_)
                exact (la_enter_64 h77_ h182_ h750_ h797_)
              intro g66
              rintro ⟨h809_, ⟨h810_, ⟨h811_, ⟨h812_, ⟨h813_, ⟨h814_, ⟨h815_, ⟨h816_, ⟨h817_, ⟨h818_, ⟨h819_, ⟨h820_, ⟨h821_, ⟨h822_, h823_⟩⟩⟩⟩⟩⟩⟩⟩⟩⟩⟩⟩⟩⟩
              rintro ⟨h824_, h825_⟩
              refine ⟨?_, ?_⟩
              · skip
                intro h826_
                have h827_ := (h821_ h826_)
                refine ⟨(la_enter_65 h178_ h183_ h750_), ?_⟩
                refine ⟨⟨h809_, ⟨h810_, ⟨h811_, ⟨h812_, ⟨h813_, ⟨h114_, ⟨h115_, ⟨h816_, ⟨h817_, ⟨h818_, ⟨h175_, ⟨h120_, ⟨h826_, ⟨(la_enter_66 h178_), ⟨(la_enter_67 h750_), ⟨(sm_SJ_s h180_ h121_ h819_ (sm_HN_q h827_ h776_) la_enter_68), (la_enter_69 h181_ h182_ h822_ h823_)⟩⟩⟩⟩⟩⟩⟩⟩⟩⟩⟩⟩⟩⟩⟩⟩, ?_⟩
                exact la_enter_70
              intro h828_
              refine ⟨h809_, ?_⟩
              refine ⟨h810_, ?_⟩
              refine ⟨h811_, ?_⟩
              refine ⟨h812_, ?_⟩
              refine ⟨h813_, ?_⟩
              refine ⟨h114_, ?_⟩
              refine ⟨h115_, ?_⟩
              refine ⟨h816_, ?_⟩
              refine ⟨h817_, ?_⟩
              refine ⟨h818_, ?_⟩
              refine ⟨h175_, ?_⟩
              refine ⟨h120_, ?_⟩
              refine ⟨?_, ?_⟩
              · skip
                intro h829_
                refine ⟨h21_, ?_⟩
                exact h135_
              refine ⟨(la_enter_36 h23_ h122_ h139_), ?_⟩
              refine ⟨h24_, ?_⟩
              refine ⟨h25_, ?_⟩
              refine ⟨h26_, ?_⟩
              refine ⟨h35_, ?_⟩
              refine ⟨(la_enter_72 h7_), ?_⟩
              refine ⟨(la_enter_15 h38_), ?_⟩
              refine ⟨h39_, ?_⟩
              refine ⟨?_, ?_⟩
              · skip
                intro h830_
                intro h831_
                refine ⟨h38_, ?_⟩
                refine ⟨h39_, ?_⟩
                refine ⟨(la_enter_73 h40_ h51_), ?_⟩
                refine ⟨(la_enter_74 h51_ h65_), ?_⟩
                refine ⟨?_, ?_⟩
                · skip
                  obtain ⟨h832_, ⟨h833_, ⟨h834_, ⟨h835_, ⟨h836_, ⟨h837_, ⟨h838_, h839_⟩⟩⟩⟩⟩⟩⟩ := (((h74_ (S 45 p1)) (la_enter_15 h82_)) h90_)
                  obtain ⟨h840_, ⟨h841_, ⟨h842_, ⟨h843_, ⟨h844_, h845_⟩⟩⟩⟩⟩ := (((h76_ (S 45 p1)) (la_enter_15 h82_)) h90_)
                  have e846_ : S 1100007 (S 1100023 (S 1100033 0)) = S 1100007 (S 1100023 (S 1100033 0 + 1)) := congrArg ((S 1100007)) (la_enter_16 h68_)
                  have e847_ : S 1100007 (S 1100034 0) = S 1100007 (S 1100025 (S 1100033 0 + 1)) := congrArg ((S 1100007)) (la_enter_16 h69_)
                  have e848_ : S 29 (S 57 (S 1092 0 - 1)) = S 29 (S 1100033 0) := congrArg ((S 29)) h51_
                  have e849_ : sm_dp (S 1100024) (S 1100023 (S 1100033 0)) = sm_dp (S 1100024) (S 1100023 (S 1100033 0 + 1)) := congrArg ((sm_dp (S 1100024))) (la_enter_16 h68_)
                  exact (la_enter_75 h42_ e848_)
                refine ⟨h43_, ?_⟩
                refine ⟨h44_, ?_⟩
                refine ⟨?_, ?_⟩
                · skip
                  obtain ⟨h850_, ⟨h851_, ⟨h852_, ⟨h853_, ⟨h854_, ⟨h855_, ⟨h856_, h857_⟩⟩⟩⟩⟩⟩⟩ := (((h74_ (S 45 p1)) (la_enter_15 h82_)) h90_)
                  obtain ⟨h858_, ⟨h859_, ⟨h860_, ⟨h861_, ⟨h862_, h863_⟩⟩⟩⟩⟩ := (((h76_ (S 45 p1)) (la_enter_15 h82_)) h90_)
                  have e864_ : S 1100007 (S 1100023 (S 1100033 0)) = S 1100007 (S 1100023 (S 1100033 0 + 1)) := congrArg ((S 1100007)) (la_enter_16 h68_)
                  have e865_ : S 1100007 (S 1100034 0) = S 1100007 (S 1100025 (S 1100033 0 + 1)) := congrArg ((S 1100007)) (la_enter_16 h69_)
                  have e866_ : S 1100023 (S 57 (S 1092 0 - 1)) = S 1100023 (S 1100033 0) := congrArg ((S 1100023)) h51_
                  have e867_ : sm_dp (S 1100024) (S 1100023 (S 1100033 0)) = sm_dp (S 1100024) (S 1100023 (S 1100033 0 + 1)) := congrArg ((sm_dp (S 1100024))) (la_enter_16 h68_)
                  have e868_ : sm_dp (S 1100024) (S 1100023 (S 57 (S 1092 0 - 1))) = sm_dp (S 1100024) (S 1100023 (S 1100033 0 + 1)) := congrArg ((sm_dp (S 1100024))) (la_enter_76 h68_ e866_)
                  have e869_ : sm_dp (S 1100024) (S 1100023 (S 57 (S 1092 0 - 1))) = sm_dp (S 1100024) (S 1100023 (S 1100033 0)) := congrArg ((sm_dp (S 1100024))) e866_
                  exact (la_enter_26 h45_ e869_)
                refine ⟨?_, ?_⟩
                · skip
                  obtain ⟨h870_, ⟨h871_, ⟨h872_, ⟨h873_, ⟨h874_, ⟨h875_, ⟨h876_, h877_⟩⟩⟩⟩⟩⟩⟩ := (((h74_ (S 45 p1)) (la_enter_15 h82_)) h90_)
                  obtain ⟨h878_, ⟨h879_, ⟨h880_, ⟨h881_, ⟨h882_, h883_⟩⟩⟩⟩⟩ := (((h76_ (S 45 p1)) (la_enter_15 h82_)) h90_)
                  have e884_ : S 1100007 (S 1100023 (S 1100033 0)) = S 1100007 (S 1100023 (S 1100033 0 + 1)) := congrArg ((S 1100007)) (la_enter_16 h68_)
                  have e885_ : S 1100007 (S 1100034 0) = S 1100007 (S 1100025 (S 1100033 0 + 1)) := congrArg ((S 1100007)) (la_enter_16 h69_)
                  have e886_ : S 1100023 (S 57 (S 1092 0 - 1)) = S 1100023 (S 1100033 0) := congrArg ((S 1100023)) h51_
                  have e887_ : sm_dp (S 1100024) (S 1100023 (S 1100033 0)) = sm_dp (S 1100024) (S 1100023 (S 1100033 0 + 1)) := congrArg ((sm_dp (S 1100024))) (la_enter_16 h68_)
                  exact (sm_TC_t h46_ (la_enter_16 e886_))
                refine ⟨(sm_LK_m h47_ h124_ (sm_F1_le h126_ (Int.le_refl _))), ?_⟩
                refine ⟨(sm_VO_m h48_ h124_ (Int.le_refl _) (sm_F1_le h125_ (Int.le_refl _))), ?_⟩
                refine ⟨(sm_FW_m h49_ h124_ (sm_F1_le h125_ (Int.le_refl _))), ?_⟩
                refine ⟨(sm_FL_F h50_ sm_F1_rf sm_F1_rf sm_F1_rf sm_F1_rf sm_F1_rf sm_F1_rf sm_F1_rf sm_F1_rf sm_F1_rf sm_F1_rf sm_F1_rf sm_F1_rf h124_ (Int.le_refl _) (sm_F1_le h126_ (Int.le_refl _)) (sm_F1_le h125_ (Int.le_refl _)) (sm_FL_dp h50_ h27_)), ?_⟩
                refine ⟨?_, ?_⟩
                · skip
                  obtain ⟨h888_, ⟨h889_, ⟨h890_, ⟨h891_, ⟨h892_, ⟨h893_, ⟨h894_, h895_⟩⟩⟩⟩⟩⟩⟩ := (((h74_ (S 45 p1)) (la_enter_15 h82_)) h90_)
                  obtain ⟨h896_, ⟨h897_, ⟨h898_, ⟨h899_, ⟨h900_, h901_⟩⟩⟩⟩⟩ := (((h76_ (S 45 p1)) (la_enter_15 h82_)) h90_)
                  have e902_ : S 1100007 (S 1100023 (S 1100033 0)) = S 1100007 (S 1100023 (S 1100033 0 + 1)) := congrArg ((S 1100007)) (la_enter_16 h68_)
                  have e903_ : S 1100007 (S 1100034 0) = S 1100007 (S 1100025 (S 1100033 0 + 1)) := congrArg ((S 1100007)) (la_enter_16 h69_)
                  have e904_ : S 1100007 (S 57 (S 1092 0 - 1)) = S 1100007 (S 1100033 0) := congrArg ((S 1100007)) h51_
                  have e905_ : sm_dp (S 1100024) (S 1100023 (S 1100033 0)) = sm_dp (S 1100024) (S 1100023 (S 1100033 0 + 1)) := congrArg ((sm_dp (S 1100024))) (la_enter_16 h68_)
                  exact (la_enter_26 h58_ e904_)
                obtain ⟨h906_, ⟨h907_, ⟨h908_, ⟨h909_, ⟨h910_, ⟨h911_, ⟨h912_, h913_⟩⟩⟩⟩⟩⟩⟩ := (((h74_ (S 45 p1)) (la_enter_15 h82_)) h90_)
                obtain ⟨h914_, ⟨h915_, ⟨h916_, ⟨h917_, ⟨h918_, h919_⟩⟩⟩⟩⟩ := (((h76_ (S 45 p1)) (la_enter_15 h82_)) h90_)
                have e920_ : S 1100007 (S 1100023 (S 1100033 0)) = S 1100007 (S 1100023 (S 1100033 0 + 1)) := congrArg ((S 1100007)) (la_enter_16 h68_)
                have e921_ : S 1100007 (S 1100034 0) = S 1100007 (S 1100025 (S 1100033 0 + 1)) := congrArg ((S 1100007)) (la_enter_16 h69_)
                have e922_ : S 1100025 (S 57 (S 1092 0 - 1)) = S 1100025 (S 1100033 0) := congrArg ((S 1100025)) h51_
                have e923_ : sm_dp (S 1100024) (S 1100023 (S 1100033 0)) = sm_dp (S 1100024) (S 1100023 (S 1100033 0 + 1)) := congrArg ((sm_dp (S 1100024))) (la_enter_16 h68_)
                exact (sm_SK_q (sm_SK_m h54_ h124_ (Int.le_refl _) (sm_F1_le h125_ (Int.le_refl _))) (la_enter_76 h59_ e922_) rfl rfl)
              refine ⟨(la_enter_78 h181_ h822_), ?_⟩
              obtain ⟨h924_, ⟨h925_, ⟨h926_, ⟨h927_, ⟨h928_, ⟨h929_, ⟨h930_, h931_⟩⟩⟩⟩⟩⟩⟩ := (((h74_ (S 45 p1)) (la_enter_15 h82_)) h90_)
              obtain ⟨h932_, ⟨h933_, ⟨h934_, ⟨h935_, ⟨h936_, h937_⟩⟩⟩⟩⟩ := (((h76_ (S 45 p1)) (la_enter_15 h82_)) h90_)
              have e938_ : S 1100007 (S 1100023 (S 1100033 0)) = S 1100007 (S 1100023 (S 1100033 0 + 1)) := congrArg ((S 1100007)) (la_enter_16 h68_)
              have e939_ : S 1100007 (S 1100034 0) = S 1100007 (S 1100025 (S 1100033 0 + 1)) := congrArg ((S 1100007)) (la_enter_16 h69_)
              have e940_ : sm_dp (S 1100024) (S 1100023 (S 1100033 0)) = sm_dp (S 1100024) (S 1100023 (S 1100033 0 + 1)) := congrArg ((sm_dp (S 1100024))) (la_enter_16 h68_)
              exact (la_enter_79 h182_ h750_ h823_ h929_)
            intro h941_
            have h942_ := (h780_.resolve_left h941_)
            have h943_ := (h787_ h941_)
            refine ⟨?_, ?_⟩
            · skip
              refine ⟨h165_, ?_⟩
              refine ⟨h166_, ?_⟩
              refine ⟨h167_, ?_⟩
              refine ⟨h168_, ?_⟩
              refine ⟨h169_, ?_⟩
              refine ⟨h114_, ?_⟩
              refine ⟨h115_, ?_⟩
              refine ⟨h172_, ?_⟩
              refine ⟨h173_, ?_⟩
              refine ⟨h174_, ?_⟩
              refine ⟨h121_, ?_⟩
              refine ⟨h122_, ?_⟩
              refine ⟨(la_enter_57 h756_ h776_), ?_⟩
              refine ⟨(la_enter_58 h35_ h757_ h776_), ?_⟩
              refine ⟨(sm_VO_eq (sm_VO_m h95_ h124_ (Int.le_refl _) (sm_F1_le h125_ (Int.le_refl _))) h943_ rfl), ?_⟩
              refine ⟨(la_enter_81 h141_ h943_), ?_⟩
              obtain ⟨h944_, ⟨h945_, ⟨h946_, ⟨h947_, ⟨h948_, ⟨h949_, ⟨h950_, h951_⟩⟩⟩⟩⟩⟩⟩ := (((h74_ (S 45 p1)) (la_enter_15 h82_)) h90_)
              obtain ⟨h952_, ⟨h953_, ⟨h954_, ⟨h955_, ⟨h956_, h957_⟩⟩⟩⟩⟩ := (((h76_ (S 45 p1)) (la_enter_15 h82_)) h90_)
              have e958_ : S 1100007 (S 1100023 (S 1100033 0)) = S 1100007 (S 1100023 (S 1100033 0 + 1)) := congrArg ((S 1100007)) (la_enter_16 h68_)
              have e959_ : S 1100007 (S 1100034 0) = S 1100007 (S 1100025 (S 1100033 0 + 1)) := congrArg ((S 1100007)) (la_enter_16 h69_)
              have e960_ : sm_dp (S 1100024) (S 1100023 (S 1100033 0)) = sm_dp (S 1100024) (S 1100023 (S 1100033 0 + 1)) := congrArg ((sm_dp (S 1100024))) (la_enter_16 h68_)
              exact (la_enter_64 h77_ h182_ h750_ h949_)
            intro g75
            rintro ⟨h961_, ⟨h962_, ⟨h963_, ⟨h964_, ⟨h965_, ⟨h966_, ⟨h967_, ⟨h968_, ⟨h969_, ⟨h970_, ⟨h971_, ⟨h972_, ⟨h973_, ⟨h974_, h975_⟩⟩⟩⟩⟩⟩⟩⟩⟩⟩⟩⟩⟩⟩
            rintro ⟨h976_, h977_⟩
            refine ⟨?_, ?_⟩
            · skip
              intro h978_
              have h979_ := (h973_ h978_)
              refine ⟨(la_enter_65 h178_ h183_ h750_), ?_⟩
              refine ⟨⟨h961_, ⟨h962_, ⟨h963_, ⟨h964_, ⟨h965_, ⟨h114_, ⟨h115_, ⟨h968_, ⟨h969_, ⟨h970_, ⟨h175_, ⟨h120_, ⟨h978_, ⟨(la_enter_66 h178_), ⟨(la_enter_67 h750_), ⟨(sm_SJ_s h180_ h121_ h971_ (sm_HN_q h979_ h776_) la_enter_68), (la_enter_69 h181_ h182_ h974_ h975_)⟩⟩⟩⟩⟩⟩⟩⟩⟩⟩⟩⟩⟩⟩⟩⟩, ?_⟩
              exact la_enter_70
            intro h980_
            refine ⟨h961_, ?_⟩
            refine ⟨h962_, ?_⟩
            refine ⟨h963_, ?_⟩
            refine ⟨h964_, ?_⟩
            refine ⟨h965_, ?_⟩
            refine ⟨h114_, ?_⟩
            refine ⟨h115_, ?_⟩
            refine ⟨h968_, ?_⟩
            refine ⟨h969_, ?_⟩
            refine ⟨h970_, ?_⟩
            refine ⟨h175_, ?_⟩
            refine ⟨h120_, ?_⟩
            refine ⟨?_, ?_⟩
            · skip
              intro h981_
              refine ⟨h21_, ?_⟩
              exact h135_
            refine ⟨(la_enter_36 h23_ h122_ h139_), ?_⟩
            refine ⟨h24_, ?_⟩
            refine ⟨h25_, ?_⟩
            refine ⟨h26_, ?_⟩
            refine ⟨h35_, ?_⟩
            refine ⟨(la_enter_72 h7_), ?_⟩
            refine ⟨(la_enter_15 h38_), ?_⟩
            refine ⟨h39_, ?_⟩
            refine ⟨?_, ?_⟩
            · skip
              intro h982_
              intro h983_
              refine ⟨h38_, ?_⟩
              refine ⟨h39_, ?_⟩
              refine ⟨(la_enter_73 h40_ h51_), ?_⟩
              refine ⟨(la_enter_74 h51_ h65_), ?_⟩
              refine ⟨?_, ?_⟩
              · skip
                obtain ⟨h984_, ⟨h985_, ⟨h986_, ⟨h987_, ⟨h988_, ⟨h989_, ⟨h990_, h991_⟩⟩⟩⟩⟩⟩⟩ := (((h74_ (S 45 p1)) (la_enter_15 h82_)) h90_)
                obtain ⟨h992_, ⟨h993_, ⟨h994_, ⟨h995_, ⟨h996_, h997_⟩⟩⟩⟩⟩ := (((h76_ (S 45 p1)) (la_enter_15 h82_)) h90_)
                have e998_ : S 1100007 (S 1100023 (S 1100033 0)) = S 1100007 (S 1100023 (S 1100033 0 + 1)) := congrArg ((S 1100007)) (la_enter_16 h68_)
                have e999_ : S 1100007 (S 1100034 0) = S 1100007 (S 1100025 (S 1100033 0 + 1)) := congrArg ((S 1100007)) (la_enter_16 h69_)
                have e1000_ : S 29 (S 57 (S 1092 0 - 1)) = S 29 (S 1100033 0) := congrArg ((S 29)) h51_
                have e1001_ : sm_dp (S 1100024) (S 1100023 (S 1100033 0)) = sm_dp (S 1100024) (S 1100023 (S 1100033 0 + 1)) := congrArg ((sm_dp (S 1100024))) (la_enter_16 h68_)
                exact (la_enter_75 h42_ e1000_)
              refine ⟨h43_, ?_⟩
              refine ⟨h44_, ?_⟩
              refine ⟨?_, ?_⟩
              · skip
                obtain ⟨h1002_, ⟨h1003_, ⟨h1004_, ⟨h1005_, ⟨h1006_, ⟨h1007_, ⟨h1008_, h1009_⟩⟩⟩⟩⟩⟩⟩ := (((h74_ (S 45 p1)) (la_enter_15 h82_)) h90_)
                obtain ⟨h1010_, ⟨h1011_, ⟨h1012_, ⟨h1013_, ⟨h1014_, h1015_⟩⟩⟩⟩⟩ := (((h76_ (S 45 p1)) (la_enter_15 h82_)) h90_)
                have e1016_ : S 1100007 (S 1100023 (S 1100033 0)) = S 1100007 (S 1100023 (S 1100033 0 + 1)) := congrArg ((S 1100007)) (la_enter_16 h68_)
                have e1017_ : S 1100007 (S 1100034 0) = S 1100007 (S 1100025 (S 1100033 0 + 1)) := congrArg ((S 1100007)) (la_enter_16 h69_)
                have e1018_ : S 1100023 (S 57 (S 1092 0 - 1)) = S 1100023 (S 1100033 0) := congrArg ((S 1100023)) h51_
                have e1019_ : sm_dp (S 1100024) (S 1100023 (S 1100033 0)) = sm_dp (S 1100024) (S 1100023 (S 1100033 0 + 1)) := congrArg ((sm_dp (S 1100024))) (la_enter_16 h68_)
                have e1020_ : sm_dp (S 1100024) (S 1100023 (S 57 (S 1092 0 - 1))) = sm_dp (S 1100024) (S 1100023 (S 1100033 0 + 1)) := congrArg ((sm_dp (S 1100024))) (la_enter_76 h68_ e1018_)
                have e1021_ : sm_dp (S 1100024) (S 1100023 (S 57 (S 1092 0 - 1))) = sm_dp (S 1100024) (S 1100023 (S 1100033 0)) := congrArg ((sm_dp (S 1100024))) e1018_
                exact (la_enter_26 h45_ e1021_)
              refine ⟨?_, ?_⟩
              · skip
                obtain ⟨h1022_, ⟨h1023_, ⟨h1024_, ⟨h1025_, ⟨h1026_, ⟨h1027_, ⟨h1028_, h1029_⟩⟩⟩⟩⟩⟩⟩ := (((h74_ (S 45 p1)) (la_enter_15 h82_)) h90_)
                obtain ⟨h1030_, ⟨h1031_, ⟨h1032_, ⟨h1033_, ⟨h1034_, h1035_⟩⟩⟩⟩⟩ := (((h76_ (S 45 p1)) (la_enter_15 h82_)) h90_)
                have e1036_ : S 1100007 (S 1100023 (S 1100033 0)) = S 1100007 (S 1100023 (S 1100033 0 + 1)) := congrArg ((S 1100007)) (la_enter_16 h68_)
                have e1037_ : S 1100007 (S 1100034 0) = S 1100007 (S 1100025 (S 1100033 0 + 1)) := congrArg ((S 1100007)) (la_enter_16 h69_)
                have e1038_ : S 1100023 (S 57 (S 1092 0 - 1)) = S 1100023 (S 1100033 0) := congrArg ((S 1100023)) h51_
                have e1039_ : sm_dp (S 1100024) (S 1100023 (S 1100033 0)) = sm_dp (S 1100024) (S 1100023 (S 1100033 0 + 1)) := congrArg ((sm_dp (S 1100024))) (la_enter_16 h68_)
                exact (sm_TC_t h46_ (la_enter_16 e1038_))
              refine ⟨(sm_LK_m h47_ h124_ (sm_F1_le h126_ (Int.le_refl _))), ?_⟩
              refine ⟨(sm_VO_m h48_ h124_ (Int.le_refl _) (sm_F1_le h125_ (Int.le_refl _))), ?_⟩
              refine ⟨(sm_FW_m h49_ h124_ (sm_F1_le h125_ (Int.le_refl _))), ?_⟩
              refine ⟨(sm_FL_F h50_ sm_F1_rf sm_F1_rf sm_F1_rf sm_F1_rf sm_F1_rf sm_F1_rf sm_F1_rf sm_F1_rf sm_F1_rf sm_F1_rf sm_F1_rf sm_F1_rf h124_ (Int.le_refl _) (sm_F1_le h126_ (Int.le_refl _)) (sm_F1_le h125_ (Int.le_refl _)) (sm_FL_dp h50_ h27_)), ?_⟩
              refine ⟨?_, ?_⟩
              · skip
                obtain ⟨h1040_, ⟨h1041_, ⟨h1042_, ⟨h1043_, ⟨h1044_, ⟨h1045_, ⟨h1046_, h1047_⟩⟩⟩⟩⟩⟩⟩ := (((h74_ (S 45 p1)) (la_enter_15 h82_)) h90_)
                obtain ⟨h1048_, ⟨h1049_, ⟨h1050_, ⟨h1051_, ⟨h1052_, h1053_⟩⟩⟩⟩⟩ := (((h76_ (S 45 p1)) (la_enter_15 h82_)) h90_)
                have e1054_ : S 1100007 (S 1100023 (S 1100033 0)) = S 1100007 (S 1100023 (S 1100033 0 + 1)) := congrArg ((S 1100007)) (la_enter_16 h68_)
                have e1055_ : S 1100007 (S 1100034 0) = S 1100007 (S 1100025 (S 1100033 0 + 1)) := congrArg ((S 1100007)) (la_enter_16 h69_)
                have e1056_ : S 1100007 (S 57 (S 1092 0 - 1)) = S 1100007 (S 1100033 0) := congrArg ((S 1100007)) h51_
                have e1057_ : sm_dp (S 1100024) (S 1100023 (S 1100033 0)) = sm_dp (S 1100024) (S 1100023 (S 1100033 0 + 1)) := congrArg ((sm_dp (S 1100024))) (la_enter_16 h68_)
                exact (la_enter_26 h58_ e1056_)
              obtain ⟨h1058_, ⟨h1059_, ⟨h1060_, ⟨h1061_, ⟨h1062_, ⟨h1063_, ⟨h1064_, h1065_⟩⟩⟩⟩⟩⟩⟩ := (((h74_ (S 45 p1)) (la_enter_15 h82_)) h90_)
              obtain ⟨h1066_, ⟨h1067_, ⟨h1068_, ⟨h1069_, ⟨h1070_, h1071_⟩⟩⟩⟩⟩ := (((h76_ (S 45 p1)) (la_enter_15 h82_)) h90_)
              have e1072_ : S 1100007 (S 1100023 (S 1100033 0)) = S 1100007 (S 1100023 (S 1100033 0 + 1)) := congrArg ((S 1100007)) (la_enter_16 h68_)
              have e1073_ : S 1100007 (S 1100034 0) = S 1100007 (S 1100025 (S 1100033 0 + 1)) := congrArg ((S 1100007)) (la_enter_16 h69_)
              have e1074_ : S 1100025 (S 57 (S 1092 0 - 1)) = S 1100025 (S 1100033 0) := congrArg ((S 1100025)) h51_
              have e1075_ : sm_dp (S 1100024) (S 1100023 (S 1100033 0)) = sm_dp (S 1100024) (S 1100023 (S 1100033 0 + 1)) := congrArg ((sm_dp (S 1100024))) (la_enter_16 h68_)
              exact (sm_SK_q (sm_SK_m h54_ h124_ (Int.le_refl _) (sm_F1_le h125_ (Int.le_refl _))) (la_enter_76 h59_ e1074_) rfl rfl)
            refine ⟨(la_enter_78 h181_ h974_), ?_⟩
            obtain ⟨h1076_, ⟨h1077_, ⟨h1078_, ⟨h1079_, ⟨h1080_, ⟨h1081_, ⟨h1082_, h1083_⟩⟩⟩⟩⟩⟩⟩ := (((h74_ (S 45 p1)) (la_enter_15 h82_)) h90_)
            obtain ⟨h1084_, ⟨h1085_, ⟨h1086_, ⟨h1087_, ⟨h1088_, h1089_⟩⟩⟩⟩⟩ := (((h76_ (S 45 p1)) (la_enter_15 h82_)) h90_)
            have e1090_ : S 1100007 (S 1100023 (S 1100033 0)) = S 1100007 (S 1100023 (S 1100033 0 + 1)) := congrArg ((S 1100007)) (la_enter_16 h68_)
            have e1091_ : S 1100007 (S 1100034 0) = S 1100007 (S 1100025 (S 1100033 0 + 1)) := congrArg ((S 1100007)) (la_enter_16 h69_)
            have e1092_ : sm_dp (S 1100024) (S 1100023 (S 1100033 0)) = sm_dp (S 1100024) (S 1100023 (S 1100033 0 + 1)) := congrArg ((sm_dp (S 1100024))) (la_enter_16 h68_)
            exact (la_enter_79 h182_ h750_ h975_ h1081_)
          intro h1093_
          have h1094_ := (h778_.resolve_left h1093_)
          obtain ⟨h1095_, h1096_⟩ := (h782_ h1093_)
          refine ⟨(la_enter_82 h38_ h61_ h63_ h72_ h73_ h78_ h178_), ?_⟩
          intro r88
          intro h1097_
          rintro ⟨h1098_, h1099_⟩
          intro h1100_
          have h1101_ := (h1100_ (sm_SK_m h54_ h124_ (Int.le_refl _) (sm_F1_le h125_ (Int.le_refl _))))
          have h1102_ := (h1101_ h28_)
          have h1103_ := (h1102_ h73_)
          have h1104_ := (h1103_ h178_)
          have h1105_ := (h1104_ h72_)
          have h1106_ := (h1105_ h63_)
          have h1107_ := (h1106_ h56_)
          have h1108_ := (h1107_ h57_)
          have h1109_ := (h1108_ h64_)
          have h1110_ := (h1109_ h1095_)
          have h1111_ := (h1110_ h1096_)
          have h1112_ := (h1111_ h1098_)
          have h1113_ := (h1112_ h1099_)
          refine ⟨?_, ?_⟩
          · skip
            refine ⟨h165_, ?_⟩
            refine ⟨h166_, ?_⟩
            refine ⟨h167_, ?_⟩
            refine ⟨h168_, ?_⟩
            refine ⟨h169_, ?_⟩
            refine ⟨h114_, ?_⟩
            refine ⟨h115_, ?_⟩
            refine ⟨h172_, ?_⟩
            refine ⟨h173_, ?_⟩
            refine ⟨h174_, ?_⟩
            refine ⟨h121_, ?_⟩
            refine ⟨h122_, ?_⟩
            refine ⟨(la_enter_57 h756_ h776_), ?_⟩
            refine ⟨(la_enter_58 h35_ h757_ h776_), ?_⟩
            refine ⟨h1113_, ?_⟩
            refine ⟨(la_enter_83 h141_), ?_⟩
            obtain ⟨h1114_, ⟨h1115_, ⟨h1116_, ⟨h1117_, ⟨h1118_, ⟨h1119_, ⟨h1120_, h1121_⟩⟩⟩⟩⟩⟩⟩ := (((h74_ (S 45 p1)) (la_enter_15 h82_)) h90_)
            obtain ⟨h1122_, ⟨h1123_, ⟨h1124_, ⟨h1125_, ⟨h1126_, h1127_⟩⟩⟩⟩⟩ := (((h76_ (S 45 p1)) (la_enter_15 h82_)) h90_)
            have e1128_ : S 1100007 (S 1100023 (S 1100033 0)) = S 1100007 (S 1100023 (S 1100033 0 + 1)) := congrArg ((S 1100007)) (la_enter_16 h68_)
            have e1129_ : S 1100007 (S 1100034 0) = S 1100007 (S 1100025 (S 1100033 0 + 1)) := congrArg ((S 1100007)) (la_enter_16 h69_)
            have e1130_ : sm_dp (S 1100024) (S 1100023 (S 1100033 0)) = sm_dp (S 1100024) (S 1100023 (S 1100033 0 + 1)) := congrArg ((sm_dp (S 1100024))) (la_enter_16 h68_)
            exact (la_enter_64 h77_ h182_ h750_ h1119_)
          intro g91
          rintro ⟨h1131_, ⟨h1132_, ⟨h1133_, ⟨h1134_, ⟨h1135_, ⟨h1136_, ⟨h1137_, ⟨h1138_, ⟨h1139_, ⟨h1140_, ⟨h1141_, ⟨h1142_, ⟨h1143_, ⟨h1144_, h1145_⟩⟩⟩⟩⟩⟩⟩⟩⟩⟩⟩⟩⟩⟩
          rintro ⟨h1146_, h1147_⟩
          refine ⟨?_, ?_⟩
          · skip
            intro h1148_
            have h1149_ := (h1143_ h1148_)
            refine ⟨(la_enter_65 h178_ h183_ h750_), ?_⟩
            refine ⟨⟨h1131_, ⟨h1132_, ⟨h1133_, ⟨h1134_, ⟨h1135_, ⟨h114_, ⟨h115_, ⟨h1138_, ⟨h1139_, ⟨h1140_, ⟨h175_, ⟨h120_, ⟨h1148_, ⟨(la_enter_66 h178_), ⟨(la_enter_67 h750_), ⟨(sm_SJ_s h180_ h121_ h1141_ (sm_HN_q h1149_ h776_) la_enter_68), (la_enter_69 h181_ h182_ h1144_ h1145_)⟩⟩⟩⟩⟩⟩⟩⟩⟩⟩⟩⟩⟩⟩⟩⟩, ?_⟩
            exact la_enter_70
          intro h1150_
          refine ⟨h1131_, ?_⟩
          refine ⟨h1132_, ?_⟩
          refine ⟨h1133_, ?_⟩
          refine ⟨h1134_, ?_⟩
          refine ⟨h1135_, ?_⟩
          refine ⟨h114_, ?_⟩
          refine ⟨h115_, ?_⟩
          refine ⟨h1138_, ?_⟩
          refine ⟨h1139_, ?_⟩
          refine ⟨h1140_, ?_⟩
          refine ⟨h175_, ?_⟩
          refine ⟨h120_, ?_⟩
          refine ⟨?_, ?_⟩
          · skip
            intro h1151_
            refine ⟨h21_, ?_⟩
            exact h135_
          refine ⟨(la_enter_36 h23_ h122_ h139_), ?_⟩
          refine ⟨h24_, ?_⟩
          refine ⟨h25_, ?_⟩
          refine ⟨h26_, ?_⟩
          refine ⟨h35_, ?_⟩
          refine ⟨(la_enter_72 h7_), ?_⟩
          refine ⟨(la_enter_15 h38_), ?_⟩
          refine ⟨h39_, ?_⟩
          refine ⟨?_, ?_⟩
          · skip
            intro h1152_
            intro h1153_
            refine ⟨h38_, ?_⟩
            refine ⟨h39_, ?_⟩
            refine ⟨(la_enter_73 h40_ h51_), ?_⟩
            refine ⟨(la_enter_74 h51_ h65_), ?_⟩
            refine ⟨?_, ?_⟩
            · skip
              obtain ⟨h1154_, ⟨h1155_, ⟨h1156_, ⟨h1157_, ⟨h1158_, ⟨h1159_, ⟨h1160_, h1161_⟩⟩⟩⟩⟩⟩⟩ := (((h74_ (S 45 p1)) (la_enter_15 h82_)) h90_)
              obtain ⟨h1162_, ⟨h1163_, ⟨h1164_, ⟨h1165_, ⟨h1166_, h1167_⟩⟩⟩⟩⟩ := (((h76_ (S 45 p1)) (la_enter_15 h82_)) h90_)
              have e1168_ : S 1100007 (S 1100023 (S 1100033 0)) = S 1100007 (S 1100023 (S 1100033 0 + 1)) := congrArg ((S 1100007)) (la_enter_16 h68_)
              have e1169_ : S 1100007 (S 1100034 0) = S 1100007 (S 1100025 (S 1100033 0 + 1)) := congrArg ((S 1100007)) (la_enter_16 h69_)
              have e1170_ : S 29 (S 57 (S 1092 0 - 1)) = S 29 (S 1100033 0) := congrArg ((S 29)) h51_
              have e1171_ : sm_dp (S 1100024) (S 1100023 (S 1100033 0)) = sm_dp (S 1100024) (S 1100023 (S 1100033 0 + 1)) := congrArg ((sm_dp (S 1100024))) (la_enter_16 h68_)
              exact (la_enter_75 h42_ e1170_)
            refine ⟨h43_, ?_⟩
            refine ⟨h44_, ?_⟩
            refine ⟨?_, ?_⟩
            · skip
              obtain ⟨h1172_, ⟨h1173_, ⟨h1174_, ⟨h1175_, ⟨h1176_, ⟨h1177_, ⟨h1178_, h1179_⟩⟩⟩⟩⟩⟩⟩ := (((h74_ (S 45 p1)) (la_enter_15 h82_)) h90_)
              obtain ⟨h1180_, ⟨h1181_, ⟨h1182_, ⟨h1183_, ⟨h1184_, h1185_⟩⟩⟩⟩⟩ := (((h76_ (S 45 p1)) (la_enter_15 h82_)) h90_)
              have e1186_ : S 1100007 (S 1100023 (S 1100033 0)) = S 1100007 (S 1100023 (S 1100033 0 + 1)) := congrArg ((S 1100007)) (la_enter_16 h68_)
              have e1187_ : S 1100007 (S 1100034 0) = S 1100007 (S 1100025 (S 1100033 0 + 1)) := congrArg ((S 1100007)) (la_enter_16 h69_)
              have e1188_ : S 1100023 (S 57 (S 1092 0 - 1)) = S 1100023 (S 1100033 0) := congrArg ((S 1100023)) h51_
              have e1189_ : sm_dp (S 1100024) (S 1100023 (S 1100033 0)) = sm_dp (S 1100024) (S 1100023 (S 1100033 0 + 1)) := congrArg ((sm_dp (S 1100024))) (la_enter_16 h68_)
              have e1190_ : sm_dp (S 1100024) (S 1100023 (S 57 (S 1092 0 - 1))) = sm_dp (S 1100024) (S 1100023 (S 1100033 0 + 1)) := congrArg ((sm_dp (S 1100024))) (la_enter_76 h68_ e1188_)
              have e1191_ : sm_dp (S 1100024) (S 1100023 (S 57 (S 1092 0 - 1))) = sm_dp (S 1100024) (S 1100023 (S 1100033 0)) := congrArg ((sm_dp (S 1100024))) e1188_
              exact (la_enter_26 h45_ e1191_)
            refine ⟨?_, ?_⟩
            · skip
              obtain ⟨h1192_, ⟨h1193_, ⟨h1194_, ⟨h1195_, ⟨h1196_, ⟨h1197_, ⟨h1198_, h1199_⟩⟩⟩⟩⟩⟩⟩ := (((h74_ (S 45 p1)) (la_enter_15 h82_)) h90_)
              obtain ⟨h1200_, ⟨h1201_, ⟨h1202_, ⟨h1203_, ⟨h1204_, h1205_⟩⟩⟩⟩⟩ := (((h76_ (S 45 p1)) (la_enter_15 h82_)) h90_)
              have e1206_ : S 1100007 (S 1100023 (S 1100033 0)) = S 1100007 (S 1100023 (S 1100033 0 + 1)) := congrArg ((S 1100007)) (la_enter_16 h68_)
              have e1207_ : S 1100007 (S 1100034 0) = S 1100007 (S 1100025 (S 1100033 0 + 1)) := congrArg ((S 1100007)) (la_enter_16 h69_)
              have e1208_ : S 1100023 (S 57 (S 1092 0 - 1)) = S 1100023 (S 1100033 0) := congrArg ((S 1100023)) h51_
              have e1209_ : sm_dp (S 1100024) (S 1100023 (S 1100033 0)) = sm_dp (S 1100024) (S 1100023 (S 1100033 0 + 1)) := congrArg ((sm_dp (S 1100024))) (la_enter_16 h68_)
              exact (sm_TC_t h46_ (la_enter_16 e1208_))
            refine ⟨(sm_LK_m h47_ h124_ (sm_F1_le h126_ (Int.le_refl _))), ?_⟩
            refine ⟨(sm_VO_m h48_ h124_ (Int.le_refl _) (sm_F1_le h125_ (Int.le_refl _))), ?_⟩
            refine ⟨(sm_FW_m h49_ h124_ (sm_F1_le h125_ (Int.le_refl _))), ?_⟩
            refine ⟨(sm_FL_F h50_ sm_F1_rf sm_F1_rf sm_F1_rf sm_F1_rf sm_F1_rf sm_F1_rf sm_F1_rf sm_F1_rf sm_F1_rf sm_F1_rf sm_F1_rf sm_F1_rf h124_ (Int.le_refl _) (sm_F1_le h126_ (Int.le_refl _)) (sm_F1_le h125_ (Int.le_refl _)) (sm_FL_dp h50_ h27_)), ?_⟩
            refine ⟨?_, ?_⟩
            · skip
              obtain ⟨h1210_, ⟨h1211_, ⟨h1212_, ⟨h1213_, ⟨h1214_, ⟨h1215_, ⟨h1216_, h1217_⟩⟩⟩⟩⟩⟩⟩ := (((h74_ (S 45 p1)) (la_enter_15 h82_)) h90_)
              obtain ⟨h1218_, ⟨h1219_, ⟨h1220_, ⟨h1221_, ⟨h1222_, h1223_⟩⟩⟩⟩⟩ := (((h76_ (S 45 p1)) (la_enter_15 h82_)) h90_)
              have e1224_ : S 1100007 (S 1100023 (S 1100033 0)) = S 1100007 (S 1100023 (S 1100033 0 + 1)) := congrArg ((S 1100007)) (la_enter_16 h68_)
              have e1225_ : S 1100007 (S 1100034 0) = S 1100007 (S 1100025 (S 1100033 0 + 1)) := congrArg ((S 1100007)) (la_enter_16 h69_)
              have e1226_ : S 1100007 (S 57 (S 1092 0 - 1)) = S 1100007 (S 1100033 0) := congrArg ((S 1100007)) h51_
              have e1227_ : sm_dp (S 1100024) (S 1100023 (S 1100033 0)) = sm_dp (S 1100024) (S 1100023 (S 1100033 0 + 1)) := congrArg ((sm_dp (S 1100024))) (la_enter_16 h68_)
              exact (la_enter_26 h58_ e1226_)
            obtain ⟨h1228_, ⟨h1229_, ⟨h1230_, ⟨h1231_, ⟨h1232_, ⟨h1233_, ⟨h1234_, h1235_⟩⟩⟩⟩⟩⟩⟩ := (((h74_ (S 45 p1)) (la_enter_15 h82_)) h90_)
            obtain ⟨h1236_, ⟨h1237_, ⟨h1238_, ⟨h1239_, ⟨h1240_, h1241_⟩⟩⟩⟩⟩ := (((h76_ (S 45 p1)) (la_enter_15 h82_)) h90_)
            have e1242_ : S 1100007 (S 1100023 (S 1100033 0)) = S 1100007 (S 1100023 (S 1100033 0 + 1)) := congrArg ((S 1100007)) (la_enter_16 h68_)
            have e1243_ : S 1100007 (S 1100034 0) = S 1100007 (S 1100025 (S 1100033 0 + 1)) := congrArg ((S 1100007)) (la_enter_16 h69_)
            have e1244_ : S 1100025 (S 57 (S 1092 0 - 1)) = S 1100025 (S 1100033 0) := congrArg ((S 1100025)) h51_
            have e1245_ : sm_dp (S 1100024) (S 1100023 (S 1100033 0)) = sm_dp (S 1100024) (S 1100023 (S 1100033 0 + 1)) := congrArg ((sm_dp (S 1100024))) (la_enter_16 h68_)
            exact (sm_SK_q (sm_SK_m h54_ h124_ (Int.le_refl _) (sm_F1_le h125_ (Int.le_refl _))) (la_enter_76 h59_ e1244_) rfl rfl)
          refine ⟨(la_enter_78 h181_ h1144_), ?_⟩
          obtain ⟨h1246_, ⟨h1247_, ⟨h1248_, ⟨h1249_, ⟨h1250_, ⟨h1251_, ⟨h1252_, h1253_⟩⟩⟩⟩⟩⟩⟩ := (((h74_ (S 45 p1)) (la_enter_15 h82_)) h90_)
          obtain ⟨h1254_, ⟨h1255_, ⟨h1256_, ⟨h1257_, ⟨h1258_, h1259_⟩⟩⟩⟩⟩ := (((h76_ (S 45 p1)) (la_enter_15 h82_)) h90_)
          have e1260_ : S 1100007 (S 1100023 (S 1100033 0)) = S 1100007 (S 1100023 (S 1100033 0 + 1)) := congrArg ((S 1100007)) (la_enter_16 h68_)
          have e1261_ : S 1100007 (S 1100034 0) = S 1100007 (S 1100025 (S 1100033 0 + 1)) := congrArg ((S 1100007)) (la_enter_16 h69_)
          have e1262_ : sm_dp (S 1100024) (S 1100023 (S 1100033 0)) = sm_dp (S 1100024) (S 1100023 (S 1100033 0 + 1)) := congrArg ((sm_dp (S 1100024))) (la_enter_16 h68_)
          exact (la_enter_79 h182_ h750_ h1145_ h1251_)
        refine ⟨la_enter_84, ?_⟩
        intro h1263_
        have h1264_ := (h778_.resolve_left h1263_)
        refine ⟨(la_enter_82 h38_ h61_ h63_ h72_ h73_ h78_ h178_), ?_⟩
        intro r105
        intro h1265_
        rintro ⟨h1266_, h1267_⟩
        refine ⟨(la_enter_85 h1264_ h1266_ h1267_), ?_⟩
        refine ⟨(la_enter_86 h1264_), ?_⟩
        intro h1268_
        intro h1269_
        have h1270_ := (h780_.resolve_right (la_enter_8 h1269_))
        obtain ⟨h1271_, ⟨h1272_, ⟨h1273_, ⟨h1274_, ⟨h1275_, ⟨h1276_, ⟨h1277_, h1278_⟩⟩⟩⟩⟩⟩⟩ := (((h74_ (S 45 p1)) (la_enter_15 h82_)) h90_)
        obtain ⟨h1279_, ⟨h1280_, ⟨h1281_, ⟨h1282_, ⟨h1283_, h1284_⟩⟩⟩⟩⟩ := (((h76_ (S 45 p1)) (la_enter_15 h82_)) h90_)
        have e1285_ : S 1100007 (S 1100023 (S 1100033 0)) = S 1100007 (S 1100023 (S 1100033 0 + 1)) := congrArg ((S 1100007)) (la_enter_16 h68_)
        have e1286_ : S 1100007 (S 1100034 0) = S 1100007 (S 1100025 (S 1100033 0 + 1)) := congrArg ((S 1100007)) (la_enter_16 h69_)
        have e1287_ : sm_dp (S 1100024) (S 1100023 (S 1100033 0)) = sm_dp (S 1100024) (S 1100023 (S 1100033 0 + 1)) := congrArg ((sm_dp (S 1100024))) (la_enter_16 h68_)
        exact ((la_enter_87 h1264_ h1268_)).elim
      refine ⟨la_enter_88, ?_⟩
      intro h1288_
      have h1289_ := (h778_.resolve_right (la_enter_89 h1288_))
      rintro ⟨h1290_, h1291_⟩
      refine ⟨la_enter_88, ?_⟩
      intro h1292_
      intro h1293_
      refine ⟨la_enter_90, ?_⟩
      intro h1294_
      exact la_enter_91
    intro h1295_
    refine ⟨la_enter_92, ?_⟩
    intro h1296_
    exact la_enter_91
  intro h1297_
  have h1298_ := (h132_ (la_enter_93 h137_ (la_enter_71 h136_ h1297_)))
  have h1299_ := (h1298_ h7_)
  have h1300_ := (h131_ h1299_)
  refine ⟨h109_, ?_⟩
  refine ⟨h10_, ?_⟩
  refine ⟨h111_, ?_⟩
  refine ⟨h112_, ?_⟩
  refine ⟨h113_, ?_⟩
  refine ⟨h114_, ?_⟩
  refine ⟨h115_, ?_⟩
  refine ⟨h16_, ?_⟩
  refine ⟨h17_, ?_⟩
  refine ⟨h18_, ?_⟩
  refine ⟨h119_, ?_⟩
  refine ⟨h120_, ?_⟩
  refine ⟨?_, ?_⟩
  · skip
    intro h1301_
    refine ⟨h21_, ?_⟩
    exact h135_
  refine ⟨(la_enter_94 h23_ h124_), ?_⟩
  refine ⟨h24_, ?_⟩
  refine ⟨h25_, ?_⟩
  refine ⟨h26_, ?_⟩
  refine ⟨h35_, ?_⟩
  refine ⟨h123_, ?_⟩
  refine ⟨(la_enter_15 h38_), ?_⟩
  refine ⟨h39_, ?_⟩
  refine ⟨?_, ?_⟩
  · skip
    intro h1302_
    intro h1303_
    refine ⟨h38_, ?_⟩
    refine ⟨h39_, ?_⟩
    refine ⟨(la_enter_73 h40_ h51_), ?_⟩
    refine ⟨(la_enter_74 h51_ h65_), ?_⟩
    refine ⟨?_, ?_⟩
    · skip
      have e1304_ : S 1100007 (S 1100023 (S 1100033 0)) = S 1100007 (S 1100023 (S 1100033 0 + 1)) := congrArg ((S 1100007)) (la_enter_16 h68_)
      have e1305_ : S 1100007 (S 1100034 0) = S 1100007 (S 1100025 (S 1100033 0 + 1)) := congrArg ((S 1100007)) (la_enter_16 h69_)
      have e1306_ : S 29 (S 57 (S 1092 0 - 1)) = S 29 (S 1100033 0) := congrArg ((S 29)) h51_
      have e1307_ : sm_dp (S 1100024) (S 1100023 (S 1100033 0)) = sm_dp (S 1100024) (S 1100023 (S 1100033 0 + 1)) := congrArg ((sm_dp (S 1100024))) (la_enter_16 h68_)
      exact (la_enter_75 h42_ e1306_)
    refine ⟨h43_, ?_⟩
    refine ⟨h44_, ?_⟩
    refine ⟨?_, ?_⟩
    · skip
      have e1308_ : S 1100007 (S 1100023 (S 1100033 0)) = S 1100007 (S 1100023 (S 1100033 0 + 1)) := congrArg ((S 1100007)) (la_enter_16 h68_)
      have e1309_ : S 1100007 (S 1100034 0) = S 1100007 (S 1100025 (S 1100033 0 + 1)) := congrArg ((S 1100007)) (la_enter_16 h69_)
      have e1310_ : S 1100023 (S 57 (S 1092 0 - 1)) = S 1100023 (S 1100033 0) := congrArg ((S 1100023)) h51_
      have e1311_ : sm_dp (S 1100024) (S 1100023 (S 1100033 0)) = sm_dp (S 1100024) (S 1100023 (S 1100033 0 + 1)) := congrArg ((sm_dp (S 1100024))) (la_enter_16 h68_)
      have e1312_ : sm_dp (S 1100024) (S 1100023 (S 57 (S 1092 0 - 1))) = sm_dp (S 1100024) (S 1100023 (S 1100033 0 + 1)) := congrArg ((sm_dp (S 1100024))) (la_enter_76 h68_ e1310_)
      have e1313_ : sm_dp (S 1100024) (S 1100023 (S 57 (S 1092 0 - 1))) = sm_dp (S 1100024) (S 1100023 (S 1100033 0)) := congrArg ((sm_dp (S 1100024))) e1310_
      exact (la_enter_26 h45_ e1313_)
    refine ⟨?_, ?_⟩
    · skip
      have e1314_ : S 1100007 (S 1100023 (S 1100033 0)) = S 1100007 (S 1100023 (S 1100033 0 + 1)) := congrArg ((S 1100007)) (la_enter_16 h68_)
      have e1315_ : S 1100007 (S 1100034 0) = S 1100007 (S 1100025 (S 1100033 0 + 1)) := congrArg ((S 1100007)) (la_enter_16 h69_)
      have e1316_ : S 1100023 (S 57 (S 1092 0 - 1)) = S 1100023 (S 1100033 0) := congrArg ((S 1100023)) h51_
      have e1317_ : sm_dp (S 1100024) (S 1100023 (S 1100033 0)) = sm_dp (S 1100024) (S 1100023 (S 1100033 0 + 1)) := congrArg ((sm_dp (S 1100024))) (la_enter_16 h68_)
      exact (sm_TC_t h46_ (la_enter_16 e1316_))
    refine ⟨(sm_LK_m h47_ h124_ (sm_F1_le h126_ (Int.le_refl _))), ?_⟩
    refine ⟨(sm_VO_m h48_ h124_ (Int.le_refl _) (sm_F1_le h125_ (Int.le_refl _))), ?_⟩
    refine ⟨(sm_FW_m h49_ h124_ (sm_F1_le h125_ (Int.le_refl _))), ?_⟩
    refine ⟨(sm_FL_F h50_ sm_F1_rf sm_F1_rf sm_F1_rf sm_F1_rf sm_F1_rf sm_F1_rf sm_F1_rf sm_F1_rf sm_F1_rf sm_F1_rf sm_F1_rf sm_F1_rf h124_ (Int.le_refl _) (sm_F1_le h126_ (Int.le_refl _)) (sm_F1_le h125_ (Int.le_refl _)) (sm_FL_dp h50_ h27_)), ?_⟩
    refine ⟨?_, ?_⟩
    · skip
      have e1318_ : S 1100007 (S 1100023 (S 1100033 0)) = S 1100007 (S 1100023 (S 1100033 0 + 1)) := congrArg ((S 1100007)) (la_enter_16 h68_)
      have e1319_ : S 1100007 (S 1100034 0) = S 1100007 (S 1100025 (S 1100033 0 + 1)) := congrArg ((S 1100007)) (la_enter_16 h69_)
      have e1320_ : S 1100007 (S 57 (S 1092 0 - 1)) = S 1100007 (S 1100033 0) := congrArg ((S 1100007)) h51_
      have e1321_ : sm_dp (S 1100024) (S 1100023 (S 1100033 0)) = sm_dp (S 1100024) (S 1100023 (S 1100033 0 + 1)) := congrArg ((sm_dp (S 1100024))) (la_enter_16 h68_)
      exact (la_enter_26 h58_ e1320_)
    have e1322_ : S 1100007 (S 1100023 (S 1100033 0)) = S 1100007 (S 1100023 (S 1100033 0 + 1)) := congrArg ((S 1100007)) (la_enter_16 h68_)
    have e1323_ : S 1100007 (S 1100034 0) = S 1100007 (S 1100025 (S 1100033 0 + 1)) := congrArg ((S 1100007)) (la_enter_16 h69_)
    have e1324_ : S 1100025 (S 57 (S 1092 0 - 1)) = S 1100025 (S 1100033 0) := congrArg ((S 1100025)) h51_
    have e1325_ : sm_dp (S 1100024) (S 1100023 (S 1100033 0)) = sm_dp (S 1100024) (S 1100023 (S 1100033 0 + 1)) := congrArg ((sm_dp (S 1100024))) (la_enter_16 h68_)
    exact (sm_SK_q (sm_SK_m h54_ h124_ (Int.le_refl _) (sm_F1_le h125_ (Int.le_refl _))) (la_enter_76 h59_ e1324_) rfl rfl)
  refine ⟨la_enter_17, ?_⟩
  exact la_enter_95
set_option maxRecDepth 8000 in
set_option maxHeartbeats 2000000 in
theorem t_enter : ∀ (p1 : Int) (p2 : Int) (p3 : Int) (p4 : Int) (p5 : Int) (S : sv_S), sm_ok S → sv_R p1 → sv_R p2 → sv_R p3 → sv_R p4 → sv_R p5 → ((S 1075 0) = 0 ∧ (S 1073 0) = 1 ∧ sm_PL (S 1100020) (S 51) (S 52) (S 46) (S 47) (S 1076 0) (S 1086 0) ∧ sm_FR (S 1100020) (S 52) (S 1100021) (S 1100022) (3000 - (S 1084 0)) (S 1085 0) ∧ sm_PV (S 1100020) (S 48) (S 49) (S 50) (S 44) (S 1076 0) (S 1007 0) ∧ sm_AL (S 1100020) (S 48) (S 49) (S 50) (S 44) (S 1076 0) (S 1100032 0) ∧ sm_SV (S 1100020) (S 48) (S 1100029) (S 32) (S 33) (S 1076 0) (S 1032 0) ∧ 0 ≤ (S 1076 0) ∧ (S 1076 0) ≤ 300 ∧ 0 ≤ (S 1084 0) ∧ (S 1084 0) ≤ 3000 ∧ 0 ≤ (S 1086 0) ∧ sm_SC (S 1100029) (S 44) (S 45) (S 43) (S 21) (S 1076 0) (S 1032 0) ∧ sm_PO (S 42) (S 1076 0) ∧ (S 1100032 0) = -1 ∧ sm_FO (S 44) (S 45) (S 1076 0) ∧ 23 ≤ (S 1076 0) ∧ 31 ≤ (S 1007 0) ∧ (S 1007 0) ≤ 400 ∧ sm_LN (S 4) 400 (S 1007 0) ∧ sm_CT (S 26) (S 27) (S 28) (S 29) (S 1100007) (S 1100023) (S 1100024) (S 1100025) (S 21) (S 1046 0) (S 1032 0) (S 1008 0) (S 1055 0) ∧ sm_LS (S 26) (S 1100007) (S 1100025) (S 1046 0) ∧ sm_CL (S 1100007) (S 1100023) (S 1100025) (S 1046 0) ∧ 1 ≤ (S 1032 0) ∧ (S 1032 0) ≤ 11 ∧ 0 ≤ (S 1046 0) ∧ (S 1046 0) ≤ 600 ∧ 31 ≤ (S 1008 0) ∧ (S 1008 0) ≤ (S 1007 0) ∧ 0 ≤ (S 1055 0) ∧ (S 1055 0) ≤ 19 ∧ 1 ≤ (S 1092 0) ∧ (S 1092 0) ≤ 24 ∧ 0 ≤ (S 1100033 0) ∧ (S 1100033 0) < (S 1046 0) ∧ (S 29 (S 1100033 0)) = (S 53 ((S 1092 0) - 1)) ∧ 0 ≤ (S 53 ((S 1092 0) - 1)) ∧ (S 53 ((S 1092 0) - 1)) < (S 1032 0) ∧ (S 60 ((S 1092 0) - 1)) = sm_dp (S 1100024) (S 1100023 (S 1100033 0)) ∧ sm_TC (S 61) (S 62) (S 27) (S 1100007) (S 1100023) (S 1100024) (40 * ((S 1092 0) - 1)) (S 1100023 (S 1100033 0)) ∧ sm_LK (S 1100029) (S 1076 0) (S 54 ((S 1092 0) - 1)) (S 53 ((S 1092 0) - 1)) ∧ sm_VO (S 44) (S 1076 0) (S 1007 0) ((S 55 ((S 1092 0) - 1))) ((S 56 ((S 1092 0) - 1))) ∧ sm_FW (S 44) (S 1076 0) (S 59 ((S 1092 0) - 1)) ∧ sm_FL (S 53) (S 54) (S 55) (S 56) (S 57) (S 58) (S 59) (S 60) (S 61) (S 62) (S 63) (S 64) (S 27) (S 29) (S 1100007) (S 1100023) (S 1100024) (S 1100025) (S 26) (S 1100029) (S 44) (S 1046 0) (S 1032 0) (S 1076 0) (S 1007 0) (((S 1092 0) - 1)) ∧ (S 57 ((S 1092 0) - 1)) = (S 1100033 0) ∧ 0 ≤ (S 58 ((S 1092 0) - 1)) ∧ (S 58 ((S 1092 0) - 1)) ≤ 400 ∧ sm_SK (S 63) (S 64) (S 44) (S 1100007) (S 1100025) (S 1076 0) (S 1007 0) (400 * ((S 1092 0) - 1)) ((S 58 ((S 1092 0) - 1))) ((S 1100034 0)) ∧ -1 ≤ (S 1100034 0) ∧ (S 1100034 0) < (S 1046 0) ∧ (0 ≤ (S 1100034 0) → (S 26 (S 1100034 0)) = 29) ∧ (S 58 ((S 1092 0) - 1)) = (S 1100007 (S 1100033 0)) ∧ (S 1100034 0) = (S 1100025 (S 1100033 0)) ∧ (0 ≤ (S 1100023 (S 1100033 0)) → (S 1100007 (S 1100023 (S 1100033 0))) ≤ (S 58 ((S 1092 0) - 1))) ∧ (S 58 ((S 1092 0) - 1)) ≤ 396 ∧ 1 ≤ p4 ∧ p4 ≤ (S 58 ((S 1092 0) - 1)) ∧ (0 ≤ (S 1100034 0) → (S 1100007 (S 1100034 0)) ≤ (S 58 ((S 1092 0) - 1)) - p4) ∧ (S 1100033 0) + 1 < (S 1046 0) ∧ (S 29 ((S 1100033 0) + 1)) = (S 29 (S 1100033 0)) ∧ (S 1100007 ((S 1100033 0) + 1)) = (S 58 ((S 1092 0) - 1)) + 1 - p4 ∧ (S 1100023 ((S 1100033 0) + 1)) = (S 1100023 (S 1100033 0)) ∧ (S 1100025 ((S 1100033 0) + 1)) = (S 1100034 0) ∧ (0 ≤ (S 1100023 (S 1100033 0)) → (S 1100007 (S 1100023 (S 1100033 0))) ≤ (S 58 ((S 1092 0) - 1)) - p4) ∧ 0 ≤ (S 1115 0) ∧ (S 1115 0) ≤ p4 - 1 ∧ (S 1114 0) + (S 1115 0) = (400 * ((S 1092 0) - 1) + (S 58 ((S 1092 0) - 1))) ∧ (∀ g : Int, 0 ≤ g → g < (S 1032 0) → 0 ≤ (S 30 g) ∧ (S 30 g) < (S 1046 0) ∧ (S 1100007 (S 30 g)) = 0 ∧ (S 1100023 (S 30 g)) = -1 ∧ 0 ≤ (S 33 g) ∧ (S 33 g) ≤ 100 ∧ 0 ≤ (S 20 g) ∧ (S 20 g) ≤ 8) ∧ sm_VN (S 32) (S 33) (S 1032 0) (S 1008 0) ∧ (∀ f : Int, 0 ≤ f → f < (S 1032 0) → 0 ≤ (S 30 f) ∧ (S 30 f) < (S 1046 0) ∧ (S 29 (S 30 f)) = f ∧ (S 1100007 (S 30 f)) = 0 ∧ (S 1100023 (S 30 f)) = -1 ∧ (S 1100025 (S 30 f)) = -1) ∧ (S 1086 0) ≤ 1900000000 ∧ (S 1092 0) ≤ 23 ∧ 0 ≤ p1 ∧ p1 < (S 1076 0) ∧ (S 44 p1) = 1 ∧ 1 ≤ (S 45 p1) ∧ sm_VO (S 44) (S 1076 0) (S 1007 0) (p2) (p3) ∧ sm_FW (S 44) (S 1076 0) p5) → sv_T sm_XS sm_cs sm_L sm_sh 2 (q_enter p1 p2 p3 p4 p5 S) 183 0 (lv_args 0 [.ref 0, sv_I p1, sv_I p2, sv_I p3, sv_I p4, sv_I p5]) [] S := by
  intro p1 p2 p3 p4 p5 S hok hp1 hp2 hp3 hp4 hp5 hpre
  have h := f_enter p1 p2 p3 p4 p5 S hok hp1 hp2 hp3 hp4 hp5 hpre
  have hM := sm_h183
  show sv_T sm_XS sm_cs sm_L sm_sh 2 (q_enter p1 p2 p3 p4 p5 S) 183 0 [(0, .ref 0), (1, sv_I p1), (2, sv_I p2), (3, sv_I p3), (4, sv_I p4), (5, sv_I p5)] [] S
  have k1 : (sm_SC (S 1100029) (S 44) (S 45) (S 43) (S 21) (S 1076 0) (S 1032 0) → 0 ≤ p1 → p1 < (S 1076 0) → (S 44 p1) = 1 → 1 ≤ (S 45 p1) → (S 45 p1) < (S 1032 0) ∧ sm_LK (S 1100029) (S 1076 0) (S 43 p1) (S 21 (S 45 p1))) := fun h a b d e => (h _ a b).1 d e
  have h := h k1
  have k2 : (0 ≤ p1 → p1 < (S 1076 0) → ¬ (S 44 p1) = 3 → sm_VO (S 44) (S 1076 0) (S 1007 0) (7) (p1)) := fun a b e => sm_VO_7 a b e
  have h := h k2
  have k3 : ((S 1100023 ((S 1100033 0) + 1)) = (S 1100023 (S 1100033 0)) → sm_dp (S 1100024) (S 1100023 ((S 1100033 0) + 1)) = sm_dp (S 1100024) (S 1100023 (S 1100033 0))) := fun e => congrArg _ e
  have h := h k3
  have k4 : ((S 1100025 ((S 1100033 0) + 1)) = (S 1100034 0) → (0 ≤ (S 1100034 0) → (S 1100007 (S 1100034 0)) ≤ (S 58 ((S 1092 0) - 1)) - p4) → (0 ≤ (S 1100025 ((S 1100033 0) + 1)) → (S 1100007 (S 1100025 ((S 1100033 0) + 1))) ≤ (S 58 ((S 1092 0) - 1)) - p4)) := fun e f => e ▸ f
  have h := h k4
  have k5 : ((S 1100023 ((S 1100033 0) + 1)) = (S 1100023 (S 1100033 0)) → (0 ≤ (S 1100023 (S 1100033 0)) → (S 1100007 (S 1100023 (S 1100033 0))) ≤ (S 58 ((S 1092 0) - 1)) - p4) → (0 ≤ (S 1100023 ((S 1100033 0) + 1)) → (S 1100007 (S 1100023 ((S 1100033 0) + 1))) ≤ (S 58 ((S 1092 0) - 1)) - p4)) := fun e f => e ▸ f
  have h := h k5
  refine sv_aload_n hM dX12_enter_0 rfl rfl ?_
  refine sv_getA hM dX12_enter_1 sm_fl_146 (sm_a0 _) sm_k81 rfl ?_
  refine sv_iload_n hM dX12_enter_4 rfl rfl ?_
  obtain ⟨o6, h⟩ := h
  have k7 : sv_R (S 45 p1) := sm_okI hok sm_r45 p1
  have h := h k7
  refine sv_iald hM dX12_enter_5 (sm_a45 _) (by decide) o6.1 o6.2 rfl (x := (S 45 p1)) rfl ?_
  refine sv_istore hM dX12_enter_6 (by decide) rfl ?_
  show sv_T sm_XS sm_cs sm_L sm_sh 2 (q_enter p1 p2 p3 p4 p5 S) 183 8 [(0, .ref 0), (1, sv_I p1), (2, sv_I p2), (3, sv_I p3), (4, sv_I p4), (5, sv_I p5), (6, sv_I (S 45 p1))] [] S
  refine sv_aload_n hM dX12_enter_8 rfl rfl ?_
  refine sv_iconst (d := (-1 : Int)) hM dX12_enter_9 rfl rfl ?_
  refine sv_bipush (d := (29 : Int)) hM dX12_enter_10 rfl rfl ?_
  refine sv_bipush (d := (6 : Int)) hM dX12_enter_12 rfl rfl ?_
  refine sv_iload hM dX12_enter_14 rfl rfl ?_
  refine sv_iconst (d := (1 : Int)) hM dX12_enter_16 rfl rfl ?_
  refine sv_isub hM dX12_enter_17 rfl ?_
  refine sv_imul hM dX12_enter_18 rfl ?_
  refine sv_iadd hM dX12_enter_19 rfl ?_
  refine sv_iconst (d := (3 : Int)) hM dX12_enter_20 rfl rfl ?_
  obtain ⟨o8, h⟩ := h
  obtain ⟨o9, h⟩ := h
  refine sv_callV hM dX12_enter_21 sm_iv_858 (by decide) (sm_a0 _) rfl rfl (Nat.le_of_ble_eq_true rfl) sm_h139 (Nat.le_of_ble_eq_true rfl) (Nat.le_of_ble_eq_true rfl) (F' := 0) (Nat.le_of_ble_eq_true rfl) rfl (t_newObject (-1 : Int) ((29 : Int) + ((6 : Int) * ((S 45 p1) - (1 : Int)))) (3 : Int) S hok (⟨by decide, by decide⟩ : sv_R (-1 : Int)) o8 (⟨by decide, by decide⟩ : sv_R (3 : Int)) o9) (fun v S1 hq => ?_)
  obtain ⟨r14, rfl, hr14, ok11, md12, hpo13⟩ := hq
  obtain ⟨g10, rfl⟩ : ∃ g, S1 = sv_sts S [1076, 41, 42, 43, 44, 45, 46, 47, 1075, 1100029] g := ⟨_, md12.eq⟩
  show sv_T sm_XS sm_cs sm_L sm_sh 2 (q_enter p1 p2 p3 p4 p5 S) 183 24 [(0, .ref 0), (1, sv_I p1), (2, sv_I p2), (3, sv_I p3), (4, sv_I p4), (5, sv_I p5), (6, sv_I (S 45 p1))] [sv_I r14] (sv_sts S [1076, 41, 42, 43, 44, 45, 46, 47, 1075, 1100029] g10)
  have md15 : sv_mod [1076, 41, 42, 43, 44, 45, 46, 47, 1075, 1100029, 1084, 1085, 48, 1086, 51, 52, 49, 50, 1100020, 1100021, 1100022, 58, 63, 64, 57, 1092, 53, 54, 55, 56, 59, 60] S (sv_sts S [1076, 41, 42, 43, 44, 45, 46, 47, 1075, 1100029] g10) := sv_mod.sts sv_mod.rf (by decide)
  have h := h r14 hr14 g10 hpo13
  refine sv_istore hM dX12_enter_24 (by decide) rfl ?_
  show sv_T sm_XS sm_cs sm_L sm_sh 2 (q_enter p1 p2 p3 p4 p5 S) 183 26 [(0, .ref 0), (1, sv_I p1), (2, sv_I p2), (3, sv_I p3), (4, sv_I p4), (5, sv_I p5), (6, sv_I (S 45 p1)), (7, sv_I r14)] [] (sv_sts S [1076, 41, 42, 43, 44, 45, 46, 47, 1075, 1100029] g10)
  refine sv_aload_n hM dX12_enter_26 rfl rfl ?_
  have k16 : (0 ≤ (g10 1075 0) ∧ (g10 1075 0) ≤ 1) := sm_okZ ok11 sm_r1075 0
  have h := h k16
  refine sv_getI hM dX12_enter_27 sm_fl_794 (sm_a0 _) sm_k75 rfl (x := (g10 1075 0)) rfl ?_
  refine sv_cond_eq hM dX12_enter_30 (sv_R01 k16) (t := 34) rfl rfl (fun hc => ?_) (fun hc => ?_)
  · have h := h.1 (hc)
    refine sv_aload_n hM dX12_enter_34 rfl rfl ?_
    refine sv_getA hM dX12_enter_35 sm_fl_140 (sm_a0 _) sm_k79 rfl ?_
    refine sv_iload hM dX12_enter_38 rfl rfl ?_
    refine sv_aload_n hM dX12_enter_40 rfl rfl ?_
    refine sv_getA hM dX12_enter_41 sm_fl_140 (sm_a0 _) sm_k79 rfl ?_
    refine sv_iload_n hM dX12_enter_44 rfl rfl ?_
    have k17 : sv_R (g10 43 p1) := sm_okI ok11 sm_r43 p1
    have h := h k17
    refine sv_iald hM dX12_enter_45 (sm_a43 _) (by decide) o6.1 o6.2 rfl (x := (g10 43 p1)) rfl ?_
    obtain ⟨o18, h⟩ := h
    refine sv_iast sm_X hM dX12_enter_46 (sm_a43 _) (by decide) o18.1 o18.2 rfl ?_
    have ok19 : sm_ok (sv_up (sv_sts S [1076, 41, 42, 43, 44, 45, 46, 47, 1075, 1100029] g10) 43 r14 (g10 43 p1)) := sm_upI ok11 sm_r43 k17
    have md20 : sv_mod [1076, 41, 42, 43, 44, 45, 46, 47, 1075, 1100029, 1084, 1085, 48, 1086, 51, 52, 49, 50, 1100020, 1100021, 1100022, 58, 63, 64, 57, 1092, 53, 54, 55, 56, 59, 60] S (sv_up (sv_sts S [1076, 41, 42, 43, 44, 45, 46, 47, 1075, 1100029] g10) 43 r14 (g10 43 p1)) := sv_mod.up md15 (by decide)
    refine sv_iconst (d := (0 : Int)) hM dX12_enter_47 rfl rfl ?_
    refine sv_istore hM dX12_enter_48 (by decide) rfl ?_
    show sv_T sm_XS sm_cs sm_L sm_sh 2 (q_enter p1 p2 p3 p4 p5 S) 183 50 [(0, .ref 0), (1, sv_I p1), (2, sv_I p2), (3, sv_I p3), (4, sv_I p4), (5, sv_I p5), (6, sv_I (S 45 p1)), (7, sv_I r14), (8, sv_I (0 : Int))] [] (sv_up (sv_sts S [1076, 41, 42, 43, 44, 45, 46, 47, 1075, 1100029] g10) 43 r14 (g10 43 p1))
    obtain ⟨hin24, h⟩ := h
    have hJ : ∀ a : Int × sv_S, (sv_R a.1 ∧ sm_ok (sv_sts (sv_up (sv_sts S [1076, 41, 42, 43, 44, 45, 46, 47, 1075, 1100029] g10) 43 r14 (g10 43 p1)) [1084, 1085, 48, 1086, 51, 52, 46, 47, 49, 50, 1075, 1100020, 1100021, 1100022] a.2) ∧ (sm_PL (a.2 1100020) (a.2 51) (a.2 52) (a.2 46) (a.2 47) (g10 1076 0) (a.2 1086 0) ∧ sm_FR (a.2 1100020) (a.2 52) (a.2 1100021) (a.2 1100022) (3000 - (a.2 1084 0)) (a.2 1085 0) ∧ sm_PV (a.2 1100020) (a.2 48) (a.2 49) (a.2 50) (g10 44) (g10 1076 0) (S 1007 0) ∧ sm_AL (a.2 1100020) (a.2 48) (a.2 49) (a.2 50) (g10 44) (g10 1076 0) (S 1100032 0) ∧ sm_SV (a.2 1100020) (a.2 48) (g10 1100029) (S 32) (S 33) (g10 1076 0) (S 1032 0) ∧ 0 ≤ (g10 1076 0) ∧ (g10 1076 0) ≤ 300 ∧ 0 ≤ (a.2 1084 0) ∧ (a.2 1084 0) ≤ 3000 ∧ 0 ≤ (a.2 1086 0) ∧ sm_SC (g10 1100029) (g10 44) (g10 45) (fun i' : Int => if i' = r14 then (g10 43 p1) else (g10 43) i') (S 21) (g10 1076 0) (S 1032 0) ∧ sm_PO (g10 42) (g10 1076 0) ∧ (a.2 1075 0) = 0 ∧ 0 ≤ a.1 ∧ a.1 ≤ (S 33 (S 45 p1)) ∧ sm_SJ (a.2 1100020) (a.2 48) (S 32) r14 (S 45 p1) a.1 ∧ (S 1086 0) ≤ (a.2 1086 0) ∧ (a.2 1086 0) ≤ (S 1086 0) + a.1)) → sv_T sm_XS sm_cs sm_L sm_sh 2 (q_enter p1 p2 p3 p4 p5 S) 183 50 [(0, .ref 0), (1, sv_I p1), (2, sv_I p2), (3, sv_I p3), (4, sv_I p4), (5, sv_I p5), (6, sv_I (S 45 p1)), (7, sv_I r14), (8, sv_I a.1)] [] (sv_sts (sv_up (sv_sts S [1076, 41, 42, 43, 44, 45, 46, 47, 1075, 1100029] g10) 43 r14 (g10 43 p1)) [1084, 1085, 48, 1086, 51, 52, 46, 47, 49, 50, 1075, 1100020, 1100021, 1100022] a.2) := by
      refine sv_loop (α := Int × sv_S) (fun a => sv_R a.1 ∧ sm_ok (sv_sts (sv_up (sv_sts S [1076, 41, 42, 43, 44, 45, 46, 47, 1075, 1100029] g10) 43 r14 (g10 43 p1)) [1084, 1085, 48, 1086, 51, 52, 46, 47, 49, 50, 1075, 1100020, 1100021, 1100022] a.2) ∧ (sm_PL (a.2 1100020) (a.2 51) (a.2 52) (a.2 46) (a.2 47) (g10 1076 0) (a.2 1086 0) ∧ sm_FR (a.2 1100020) (a.2 52) (a.2 1100021) (a.2 1100022) (3000 - (a.2 1084 0)) (a.2 1085 0) ∧ sm_PV (a.2 1100020) (a.2 48) (a.2 49) (a.2 50) (g10 44) (g10 1076 0) (S 1007 0) ∧ sm_AL (a.2 1100020) (a.2 48) (a.2 49) (a.2 50) (g10 44) (g10 1076 0) (S 1100032 0) ∧ sm_SV (a.2 1100020) (a.2 48) (g10 1100029) (S 32) (S 33) (g10 1076 0) (S 1032 0) ∧ 0 ≤ (g10 1076 0) ∧ (g10 1076 0) ≤ 300 ∧ 0 ≤ (a.2 1084 0) ∧ (a.2 1084 0) ≤ 3000 ∧ 0 ≤ (a.2 1086 0) ∧ sm_SC (g10 1100029) (g10 44) (g10 45) (fun i' : Int => if i' = r14 then (g10 43 p1) else (g10 43) i') (S 21) (g10 1076 0) (S 1032 0) ∧ sm_PO (g10 42) (g10 1076 0) ∧ (a.2 1075 0) = 0 ∧ 0 ≤ a.1 ∧ a.1 ≤ (S 33 (S 45 p1)) ∧ sm_SJ (a.2 1100020) (a.2 48) (S 32) r14 (S 45 p1) a.1 ∧ (S 1086 0) ≤ (a.2 1086 0) ∧ (a.2 1086 0) ≤ (S 1086 0) + a.1)) (fun a => (S 33 (S 45 p1)) - a.1) (fun a => sv_T sm_XS sm_cs sm_L sm_sh 2 (q_enter p1 p2 p3 p4 p5 S) 183 50 [(0, .ref 0), (1, sv_I p1), (2, sv_I p2), (3, sv_I p3), (4, sv_I p4), (5, sv_I p5), (6, sv_I (S 45 p1)), (7, sv_I r14), (8, sv_I a.1)] [] (sv_sts (sv_up (sv_sts S [1076, 41, 42, 43, 44, 45, 46, 47, 1075, 1100029] g10) 43 r14 (g10 43 p1)) [1084, 1085, 48, 1086, 51, 52, 46, 47, 49, 50, 1075, 1100020, 1100021, 1100022] a.2)) (fun a q => (h a.1 q.1 a.2 q.2.2).1) (fun a q ih23 => ?_)
      obtain ⟨l8_22, g21⟩ := a
      obtain ⟨hl8_22, ok25, hin24i⟩ := q
      have h := (h l8_22 hl8_22 g21 hin24i).2
      show sv_T sm_XS sm_cs sm_L sm_sh 2 (q_enter p1 p2 p3 p4 p5 S) 183 50 [(0, .ref 0), (1, sv_I p1), (2, sv_I p2), (3, sv_I p3), (4, sv_I p4), (5, sv_I p5), (6, sv_I (S 45 p1)), (7, sv_I r14), (8, sv_I l8_22)] [] (sv_sts (sv_up (sv_sts S [1076, 41, 42, 43, 44, 45, 46, 47, 1075, 1100029] g10) 43 r14 (g10 43 p1)) [1084, 1085, 48, 1086, 51, 52, 46, 47, 49, 50, 1075, 1100020, 1100021, 1100022] g21)
      have md26 : sv_mod [1076, 41, 42, 43, 44, 45, 46, 47, 1075, 1100029, 1084, 1085, 48, 1086, 51, 52, 49, 50, 1100020, 1100021, 1100022, 58, 63, 64, 57, 1092, 53, 54, 55, 56, 59, 60] S (sv_sts (sv_up (sv_sts S [1076, 41, 42, 43, 44, 45, 46, 47, 1075, 1100029] g10) 43 r14 (g10 43 p1)) [1084, 1085, 48, 1086, 51, 52, 46, 47, 49, 50, 1075, 1100020, 1100021, 1100022] g21) := sv_mod.sts md20 (by decide)
      have md27 : sv_mod [1084, 1085, 48, 1086, 51, 52, 46, 47, 49, 50, 1075, 1100020, 1100021, 1100022] (sv_up (sv_sts S [1076, 41, 42, 43, 44, 45, 46, 47, 1075, 1100029] g10) 43 r14 (g10 43 p1)) (sv_sts (sv_up (sv_sts S [1076, 41, 42, 43, 44, 45, 46, 47, 1075, 1100029] g10) 43 r14 (g10 43 p1)) [1084, 1085, 48, 1086, 51, 52, 46, 47, 49, 50, 1075, 1100020, 1100021, 1100022] g21) := sv_mod.sts sv_mod.rf (by decide)
      refine sv_iload hM dX12_enter_50 rfl rfl ?_
      refine sv_aload_n hM dX12_enter_52 rfl rfl ?_
      refine sv_getA hM dX12_enter_53 sm_fl_110 (sm_a0 _) sm_k58 rfl ?_
      refine sv_iload hM dX12_enter_56 rfl rfl ?_
      obtain ⟨o28, h⟩ := h
      have k29 : sv_R (S 33 (S 45 p1)) := sm_okI ok25 sm_r33 (S 45 p1)
      have h := h k29
      refine sv_iald hM dX12_enter_58 (sm_a33 _) (by decide) o28.1 o28.2 rfl (x := (S 33 (S 45 p1))) rfl ?_
      refine sv_icmp_ge hM dX12_enter_59 hl8_22 k29 (t := 205) rfl rfl (fun hc => ?_) (fun hc => ?_)
      · have h := h.1 (hc)
        obtain ⟨o30, h⟩ := h
        refine sv_ghost sm_X 1100029 r14 ((S 45 p1)) (by decide) ?_
        have ok31 : sm_ok (sv_up (sv_sts (sv_up (sv_sts S [1076, 41, 42, 43, 44, 45, 46, 47, 1075, 1100029] g10) 43 r14 (g10 43 p1)) [1084, 1085, 48, 1086, 51, 52, 46, 47, 49, 50, 1075, 1100020, 1100021, 1100022] g21) 1100029 r14 ((S 45 p1))) := sm_upI ok25 sm_r1100029 o30
        have md32 : sv_mod [1076, 41, 42, 43, 44, 45, 46, 47, 1075, 1100029, 1084, 1085, 48, 1086, 51, 52, 49, 50, 1100020, 1100021, 1100022, 58, 63, 64, 57, 1092, 53, 54, 55, 56, 59, 60] S (sv_up (sv_sts (sv_up (sv_sts S [1076, 41, 42, 43, 44, 45, 46, 47, 1075, 1100029] g10) 43 r14 (g10 43 p1)) [1084, 1085, 48, 1086, 51, 52, 46, 47, 49, 50, 1075, 1100020, 1100021, 1100022] g21) 1100029 r14 ((S 45 p1))) := sv_mod.up md26 (by decide)
        have k33 : (0 ≤ r14 → r14 < (g10 1076 0) → 1 ≤ (S 45 p1) → sm_LK (fun i' : Int => if i' = r14 then ((S 45 p1)) else (g10 1100029) i') (g10 1076 0) r14 (S 45 p1)) := fun a b d => Or.inr ⟨d, a, b, if_pos rfl⟩
        have h := h k33
        refine sv_aload_n hM dX12_enter_205 rfl rfl ?_
        refine sv_iload hM dX12_enter_206 rfl rfl ?_
        obtain ⟨o34, h⟩ := h
        refine sv_callV hM dX12_enter_208 sm_iv_882 (by decide) (sm_a0 _) rfl rfl (Nat.le_of_ble_eq_true rfl) sm_h153 (Nat.le_of_ble_eq_true rfl) (Nat.le_of_ble_eq_true rfl) (F' := 0) (Nat.le_of_ble_eq_true rfl) rfl (t_drop p4 (sv_up (sv_sts (sv_up (sv_sts S [1076, 41, 42, 43, 44, 45, 46, 47, 1075, 1100029] g10) 43 r14 (g10 43 p1)) [1084, 1085, 48, 1086, 51, 52, 46, 47, 49, 50, 1075, 1100020, 1100021, 1100022] g21) 1100029 r14 ((S 45 p1))) ok31 hp4 o34) (fun v S1 hq => ?_)
        obtain ⟨rfl, ok36, md37, hpo38⟩ := hq
        obtain ⟨g35, rfl⟩ : ∃ g, S1 = sv_sts (sv_up (sv_sts (sv_up (sv_sts S [1076, 41, 42, 43, 44, 45, 46, 47, 1075, 1100029] g10) 43 r14 (g10 43 p1)) [1084, 1085, 48, 1086, 51, 52, 46, 47, 49, 50, 1075, 1100020, 1100021, 1100022] g21) 1100029 r14 ((S 45 p1))) [58] g := ⟨_, md37.eq⟩
        show sv_T sm_XS sm_cs sm_L sm_sh 2 (q_enter p1 p2 p3 p4 p5 S) 183 211 [(0, .ref 0), (1, sv_I p1), (2, sv_I p2), (3, sv_I p3), (4, sv_I p4), (5, sv_I p5), (6, sv_I (S 45 p1)), (7, sv_I r14), (8, sv_I l8_22)] [] (sv_sts (sv_up (sv_sts (sv_up (sv_sts S [1076, 41, 42, 43, 44, 45, 46, 47, 1075, 1100029] g10) 43 r14 (g10 43 p1)) [1084, 1085, 48, 1086, 51, 52, 46, 47, 49, 50, 1075, 1100020, 1100021, 1100022] g21) 1100029 r14 ((S 45 p1))) [58] g35)
        have md39 : sv_mod [1076, 41, 42, 43, 44, 45, 46, 47, 1075, 1100029, 1084, 1085, 48, 1086, 51, 52, 49, 50, 1100020, 1100021, 1100022, 58, 63, 64, 57, 1092, 53, 54, 55, 56, 59, 60] S (sv_sts (sv_up (sv_sts (sv_up (sv_sts S [1076, 41, 42, 43, 44, 45, 46, 47, 1075, 1100029] g10) 43 r14 (g10 43 p1)) [1084, 1085, 48, 1086, 51, 52, 46, 47, 49, 50, 1075, 1100020, 1100021, 1100022] g21) 1100029 r14 ((S 45 p1))) [58] g35) := sv_mod.sts md32 (by decide)
        have h := h g35 hpo38
        refine sv_aload_n hM dX12_enter_211 rfl rfl ?_
        obtain ⟨o40, h⟩ := h
        refine sv_callV hM dX12_enter_212 sm_iv_888 (by decide) (sm_a0 _) rfl rfl (Nat.le_of_ble_eq_true rfl) sm_h154 (Nat.le_of_ble_eq_true rfl) (Nat.le_of_ble_eq_true rfl) (F' := 0) (Nat.le_of_ble_eq_true rfl) rfl (t_goOn  (sv_sts (sv_up (sv_sts (sv_up (sv_sts S [1076, 41, 42, 43, 44, 45, 46, 47, 1075, 1100029] g10) 43 r14 (g10 43 p1)) [1084, 1085, 48, 1086, 51, 52, 46, 47, 49, 50, 1075, 1100020, 1100021, 1100022] g21) 1100029 r14 ((S 45 p1))) [58] g35) ok36 o40) (fun v S1 hq => ?_)
        obtain ⟨rfl, ok42, md43, hpo44⟩ := hq
        obtain ⟨g41, rfl⟩ : ∃ g, S1 = sv_sts (sv_sts (sv_up (sv_sts (sv_up (sv_sts S [1076, 41, 42, 43, 44, 45, 46, 47, 1075, 1100029] g10) 43 r14 (g10 43 p1)) [1084, 1085, 48, 1086, 51, 52, 46, 47, 49, 50, 1075, 1100020, 1100021, 1100022] g21) 1100029 r14 ((S 45 p1))) [58] g35) [57] g := ⟨_, md43.eq⟩
        show sv_T sm_XS sm_cs sm_L sm_sh 2 (q_enter p1 p2 p3 p4 p5 S) 183 215 [(0, .ref 0), (1, sv_I p1), (2, sv_I p2), (3, sv_I p3), (4, sv_I p4), (5, sv_I p5), (6, sv_I (S 45 p1)), (7, sv_I r14), (8, sv_I l8_22)] [] (sv_sts (sv_sts (sv_up (sv_sts (sv_up (sv_sts S [1076, 41, 42, 43, 44, 45, 46, 47, 1075, 1100029] g10) 43 r14 (g10 43 p1)) [1084, 1085, 48, 1086, 51, 52, 46, 47, 49, 50, 1075, 1100020, 1100021, 1100022] g21) 1100029 r14 ((S 45 p1))) [58] g35) [57] g41)
        have md45 : sv_mod [1076, 41, 42, 43, 44, 45, 46, 47, 1075, 1100029, 1084, 1085, 48, 1086, 51, 52, 49, 50, 1100020, 1100021, 1100022, 58, 63, 64, 57, 1092, 53, 54, 55, 56, 59, 60] S (sv_sts (sv_sts (sv_up (sv_sts (sv_up (sv_sts S [1076, 41, 42, 43, 44, 45, 46, 47, 1075, 1100029] g10) 43 r14 (g10 43 p1)) [1084, 1085, 48, 1086, 51, 52, 46, 47, 49, 50, 1075, 1100020, 1100021, 1100022] g21) 1100029 r14 ((S 45 p1))) [58] g35) [57] g41) := sv_mod.sts md39 (by decide)
        have h := h g41 hpo44
        have k46 : (sm_CT (S 26) (S 27) (S 28) (S 29) (S 1100007) (S 1100023) (S 1100024) (S 1100025) (S 21) (S 1046 0) (S 1032 0) (S 1008 0) (S 1055 0) → sm_FL (S 53) (S 54) (S 55) (S 56) (g41 57) (g35 58) (S 59) (S 60) (S 61) (S 62) (S 63) (S 64) (S 27) (S 29) (S 1100007) (S 1100023) (S 1100024) (S 1100025) (S 26) (fun i' : Int => if i' = r14 then ((S 45 p1)) else (g10 1100029) i') (g10 44) (S 1046 0) (S 1032 0) (g10 1076 0) (S 1007 0) (((S 1092 0) - 1)) → (g41 57 ((S 1092 0) - 1)) = ((S 1100033 0) + 1) → 0 ≤ (S 53 ((S 1092 0) - 1)) ∧ (S 53 ((S 1092 0) - 1)) < (S 1032 0) ∧ 0 ≤ ((S 1100033 0) + 1) ∧ ((S 1100033 0) + 1) < (S 1046 0) ∧ (S 29 ((S 1100033 0) + 1)) = (S 53 ((S 1092 0) - 1)) ∧ (g35 58 ((S 1092 0) - 1)) = (S 1100007 ((S 1100033 0) + 1)) - 1 ∧ 0 ≤ (g35 58 ((S 1092 0) - 1)) ∧ (g35 58 ((S 1092 0) - 1)) ≤ 396 → (S 60 ((S 1092 0) - 1)) = sm_dp (S 1100024) (S 1100023 ((S 1100033 0) + 1)) → sm_TC (S 61) (S 62) (S 27) (S 1100007) (S 1100023) (S 1100024) (40 * ((S 1092 0) - 1)) (S 1100023 ((S 1100033 0) + 1)) → sm_SK (S 63) (S 64) (g10 44) (S 1100007) (S 1100025) (g10 1076 0) (S 1007 0) (400 * ((S 1092 0) - 1)) ((g35 58 ((S 1092 0) - 1))) ((S 1100025 ((S 1100033 0) + 1))) → (0 ≤ (S 1100025 ((S 1100033 0) + 1)) → (S 1100007 (S 1100025 ((S 1100033 0) + 1))) ≤ (S 58 ((S 1092 0) - 1)) - p4) → (0 ≤ (S 1100023 ((S 1100033 0) + 1)) → (S 1100007 (S 1100023 ((S 1100033 0) + 1))) ≤ (S 58 ((S 1092 0) - 1)) - p4) → (g35 58 ((S 1092 0) - 1)) = (S 58 ((S 1092 0) - 1)) - p4 → sm_LK (fun i' : Int => if i' = r14 then ((S 45 p1)) else (g10 1100029) i') (g10 1076 0) (S 54 ((S 1092 0) - 1)) (S 53 ((S 1092 0) - 1)) → sm_VO (g10 44) (g10 1076 0) (S 1007 0) ((S 55 ((S 1092 0) - 1))) ((S 56 ((S 1092 0) - 1))) → sm_FW (g10 44) (g10 1076 0) (S 59 ((S 1092 0) - 1)) → sm_FL (S 53) (S 54) (S 55) (S 56) (g41 57) (g35 58) (S 59) (S 60) (S 61) (S 62) (S 63) (S 64) (S 27) (S 29) (S 1100007) (S 1100023) (S 1100024) (S 1100025) (S 26) (fun i' : Int => if i' = r14 then ((S 45 p1)) else (g10 1100029) i') (g10 44) (S 1046 0) (S 1032 0) (g10 1076 0) (S 1007 0) ((S 1092 0))) := fun c w hp e1 e2 e3 e4 e5 e6 eh e7 e8 e9 => sm_FL_push c w e1 e2 e3 rfl e4 rfl rfl (fun z => by have := e5 z; omega) (fun z => by have := e6 z; omega) e7 e8 e9 (by omega) hp
        have h := h k46
        refine sv_aload_n hM dX12_enter_215 rfl rfl ?_
        refine sv_iload hM dX12_enter_216 rfl rfl ?_
        refine sv_iload hM dX12_enter_218 rfl rfl ?_
        refine sv_iload_n hM dX12_enter_220 rfl rfl ?_
        refine sv_iload_n hM dX12_enter_221 rfl rfl ?_
        refine sv_iload hM dX12_enter_222 rfl rfl ?_
        obtain ⟨o47, h⟩ := h
        refine sv_callV hM dX12_enter_224 sm_iv_875 (by decide) (sm_a0 _) rfl rfl (Nat.le_of_ble_eq_true rfl) sm_h148 (Nat.le_of_ble_eq_true rfl) (Nat.le_of_ble_eq_true rfl) (F' := 0) (Nat.le_of_ble_eq_true rfl) rfl (t_enterFrame (S 45 p1) r14 p2 p3 p5 (sv_sts (sv_sts (sv_up (sv_sts (sv_up (sv_sts S [1076, 41, 42, 43, 44, 45, 46, 47, 1075, 1100029] g10) 43 r14 (g10 43 p1)) [1084, 1085, 48, 1086, 51, 52, 46, 47, 49, 50, 1075, 1100020, 1100021, 1100022] g21) 1100029 r14 ((S 45 p1))) [58] g35) [57] g41) ok42 k7 hr14 hp2 hp3 hp5 o47) (fun v S1 hq => ?_)
        obtain ⟨rfl, ok49, md50, hpo51⟩ := hq
        obtain ⟨g48, rfl⟩ : ∃ g, S1 = sv_sts (sv_sts (sv_sts (sv_up (sv_sts (sv_up (sv_sts S [1076, 41, 42, 43, 44, 45, 46, 47, 1075, 1100029] g10) 43 r14 (g10 43 p1)) [1084, 1085, 48, 1086, 51, 52, 46, 47, 49, 50, 1075, 1100020, 1100021, 1100022] g21) 1100029 r14 ((S 45 p1))) [58] g35) [57] g41) [1092, 53, 54, 55, 56, 57, 58, 59, 60] g := ⟨_, md50.eq⟩
        show sv_T sm_XS sm_cs sm_L sm_sh 2 (q_enter p1 p2 p3 p4 p5 S) 183 227 [(0, .ref 0), (1, sv_I p1), (2, sv_I p2), (3, sv_I p3), (4, sv_I p4), (5, sv_I p5), (6, sv_I (S 45 p1)), (7, sv_I r14), (8, sv_I l8_22)] [] (sv_sts (sv_sts (sv_sts (sv_up (sv_sts (sv_up (sv_sts S [1076, 41, 42, 43, 44, 45, 46, 47, 1075, 1100029] g10) 43 r14 (g10 43 p1)) [1084, 1085, 48, 1086, 51, 52, 46, 47, 49, 50, 1075, 1100020, 1100021, 1100022] g21) 1100029 r14 ((S 45 p1))) [58] g35) [57] g41) [1092, 53, 54, 55, 56, 57, 58, 59, 60] g48)
        have md52 : sv_mod [1076, 41, 42, 43, 44, 45, 46, 47, 1075, 1100029, 1084, 1085, 48, 1086, 51, 52, 49, 50, 1100020, 1100021, 1100022, 58, 63, 64, 57, 1092, 53, 54, 55, 56, 59, 60] S (sv_sts (sv_sts (sv_sts (sv_up (sv_sts (sv_up (sv_sts S [1076, 41, 42, 43, 44, 45, 46, 47, 1075, 1100029] g10) 43 r14 (g10 43 p1)) [1084, 1085, 48, 1086, 51, 52, 46, 47, 49, 50, 1075, 1100020, 1100021, 1100022] g21) 1100029 r14 ((S 45 p1))) [58] g35) [57] g41) [1092, 53, 54, 55, 56, 57, 58, 59, 60] g48) := sv_mod.sts md45 (by decide)
        have h := h g48 hpo51
        have k53 : ((S 1100023 (g48 57 ((g48 1092 0) - 1))) < 0 → sm_dp (S 1100024) (S 1100023 (g48 57 ((g48 1092 0) - 1))) = 0) := sm_dp_n
        have h := h k53
        exact sv_vret hM dX12_enter_227 rfl ⟨rfl, ok49, md52, h⟩
      · have h := h.2 (hc)
        have k54 : (sm_VN (S 32) (S 33) (S 1032 0) (S 1008 0) → 1 ≤ (S 45 p1) → (S 45 p1) < (S 1032 0) → 0 ≤ l8_22 → l8_22 < (S 33 (S 45 p1)) → 0 ≤ (S 32 (100 * (S 45 p1) + l8_22)) ∧ (S 32 (100 * (S 45 p1) + l8_22)) < (S 1008 0)) := fun h a b d e => sm_VN_at h _ _ a b d e
        have h := h k54
        refine sv_aload_n hM dX12_enter_62 rfl rfl ?_
        refine sv_getA hM dX12_enter_63 sm_fl_107 (sm_a0 _) sm_k57 rfl ?_
        refine sv_bipush (d := (100 : Int)) hM dX12_enter_66 rfl rfl ?_
        refine sv_iload hM dX12_enter_68 rfl rfl ?_
        refine sv_imul hM dX12_enter_70 rfl ?_
        refine sv_iload hM dX12_enter_71 rfl rfl ?_
        refine sv_iadd hM dX12_enter_73 rfl ?_
        obtain ⟨o55, h⟩ := h
        have k56 : sv_R (S 32 (((100 : Int) * (S 45 p1)) + l8_22)) := sm_okI ok25 sm_r32 (((100 : Int) * (S 45 p1)) + l8_22)
        have h := h k56
        refine sv_iald hM dX12_enter_74 (sm_a32 _) (by decide) o55.1 o55.2 rfl (x := (S 32 (((100 : Int) * (S 45 p1)) + l8_22))) rfl ?_
        obtain ⟨x57, e58⟩ : ∃ x : Int, (S 32 (((100 : Int) * (S 45 p1)) + l8_22)) = x := ⟨_, rfl⟩
        have h := h x57 e58
        have e58r : sv_R x57 := e58 ▸ k56
        refine sv_nameI e58 ?_
        refine sv_istore hM dX12_enter_75 (by decide) rfl ?_
        show sv_T sm_XS sm_cs sm_L sm_sh 2 (q_enter p1 p2 p3 p4 p5 S) 183 77 [(0, .ref 0), (1, sv_I p1), (2, sv_I p2), (3, sv_I p3), (4, sv_I p4), (5, sv_I p5), (6, sv_I (S 45 p1)), (7, sv_I r14), (8, sv_I l8_22), (9, sv_I x57)] [] (sv_sts (sv_up (sv_sts S [1076, 41, 42, 43, 44, 45, 46, 47, 1075, 1100029] g10) 43 r14 (g10 43 p1)) [1084, 1085, 48, 1086, 51, 52, 46, 47, 49, 50, 1075, 1100020, 1100021, 1100022] g21)
        have J109 : ∀ s59 : Int, sv_R s59 → (s59 = 0 ∨ s59 = 1) → sv_T sm_XS sm_cs sm_L sm_sh 2 (q_enter p1 p2 p3 p4 p5 S) 183 94 [(0, .ref 0), (1, sv_I p1), (2, sv_I p2), (3, sv_I p3), (4, sv_I p4), (5, sv_I p5), (6, sv_I (S 45 p1)), (7, sv_I r14), (8, sv_I l8_22), (9, sv_I x57)] [sv_I s59] (sv_sts (sv_up (sv_sts S [1076, 41, 42, 43, 44, 45, 46, 47, 1075, 1100029] g10) 43 r14 (g10 43 p1)) [1084, 1085, 48, 1086, 51, 52, 46, 47, 49, 50, 1075, 1100020, 1100021, 1100022] g21) := by
          intro s59 hs59 hin60
          have h := h.1 s59 hs59 hin60
          refine sv_istore hM dX12_enter_94 (by decide) rfl ?_
          show sv_T sm_XS sm_cs sm_L sm_sh 2 (q_enter p1 p2 p3 p4 p5 S) 183 96 [(0, .ref 0), (1, sv_I p1), (2, sv_I p2), (3, sv_I p3), (4, sv_I p4), (5, sv_I p5), (6, sv_I (S 45 p1)), (7, sv_I r14), (8, sv_I l8_22), (9, sv_I x57), (10, sv_I s59)] [] (sv_sts (sv_up (sv_sts S [1076, 41, 42, 43, 44, 45, 46, 47, 1075, 1100029] g10) 43 r14 (g10 43 p1)) [1084, 1085, 48, 1086, 51, 52, 46, 47, 49, 50, 1075, 1100020, 1100021, 1100022] g21)
          have J106 : ∀ s61 : Int, sv_R s61 → (s61 = 0 ∨ s61 = 1) → sv_T sm_XS sm_cs sm_L sm_sh 2 (q_enter p1 p2 p3 p4 p5 S) 183 128 [(0, .ref 0), (1, sv_I p1), (2, sv_I p2), (3, sv_I p3), (4, sv_I p4), (5, sv_I p5), (6, sv_I (S 45 p1)), (7, sv_I r14), (8, sv_I l8_22), (9, sv_I x57), (10, sv_I s59)] [sv_I s61] (sv_sts (sv_up (sv_sts S [1076, 41, 42, 43, 44, 45, 46, 47, 1075, 1100029] g10) 43 r14 (g10 43 p1)) [1084, 1085, 48, 1086, 51, 52, 46, 47, 49, 50, 1075, 1100020, 1100021, 1100022] g21) := by
            intro s61 hs61 hin62
            have h := h.1 s61 hs61 hin62
            refine sv_istore hM dX12_enter_128 (by decide) rfl ?_
            show sv_T sm_XS sm_cs sm_L sm_sh 2 (q_enter p1 p2 p3 p4 p5 S) 183 130 [(0, .ref 0), (1, sv_I p1), (2, sv_I p2), (3, sv_I p3), (4, sv_I p4), (5, sv_I p5), (6, sv_I (S 45 p1)), (7, sv_I r14), (8, sv_I l8_22), (9, sv_I x57), (10, sv_I s59), (11, sv_I s61)] [] (sv_sts (sv_up (sv_sts S [1076, 41, 42, 43, 44, 45, 46, 47, 1075, 1100029] g10) 43 r14 (g10 43 p1)) [1084, 1085, 48, 1086, 51, 52, 46, 47, 49, 50, 1075, 1100020, 1100021, 1100022] g21)
            have J99 : ∀ s63 : Int, sv_R s63 → ((¬ s59 = 0 → (l8_22 < (S 1115 0) → s63 = (S 63 ((S 1114 0) + l8_22))) ∧ (¬ l8_22 < (S 1115 0) → s63 = 0)) ∧ (s59 = 0 → ¬ s61 = 0 → s63 = 7) ∧ (s59 = 0 → s61 = 0 → s63 = 0)) → sv_T sm_XS sm_cs sm_L sm_sh 2 (q_enter p1 p2 p3 p4 p5 S) 183 155 [(0, .ref 0), (1, sv_I p1), (2, sv_I p2), (3, sv_I p3), (4, sv_I p4), (5, sv_I p5), (6, sv_I (S 45 p1)), (7, sv_I r14), (8, sv_I l8_22), (9, sv_I x57), (10, sv_I s59), (11, sv_I s61)] [sv_I s63] (sv_sts (sv_up (sv_sts S [1076, 41, 42, 43, 44, 45, 46, 47, 1075, 1100029] g10) 43 r14 (g10 43 p1)) [1084, 1085, 48, 1086, 51, 52, 46, 47, 49, 50, 1075, 1100020, 1100021, 1100022] g21) := by
              intro s63 hs63 hin64
              have h := h.1 s63 hs63 hin64
              refine sv_istore hM dX12_enter_155 (by decide) rfl ?_
              show sv_T sm_XS sm_cs sm_L sm_sh 2 (q_enter p1 p2 p3 p4 p5 S) 183 157 [(0, .ref 0), (1, sv_I p1), (2, sv_I p2), (3, sv_I p3), (4, sv_I p4), (5, sv_I p5), (6, sv_I (S 45 p1)), (7, sv_I r14), (8, sv_I l8_22), (9, sv_I x57), (10, sv_I s59), (11, sv_I s61), (12, sv_I s63)] [] (sv_sts (sv_up (sv_sts S [1076, 41, 42, 43, 44, 45, 46, 47, 1075, 1100029] g10) 43 r14 (g10 43 p1)) [1084, 1085, 48, 1086, 51, 52, 46, 47, 49, 50, 1075, 1100020, 1100021, 1100022] g21)
              refine sv_aload_n hM dX12_enter_157 rfl rfl ?_
              refine sv_iload hM dX12_enter_158 rfl rfl ?_
              refine sv_iload hM dX12_enter_160 rfl rfl ?_
              refine sv_iload hM dX12_enter_162 rfl rfl ?_
              refine sv_iload hM dX12_enter_164 rfl rfl ?_
              refine sv_cond_eq hM dX12_enter_166 hs59 (t := 178) rfl rfl (fun hc => ?_) (fun hc => ?_)
              · have h := h.1 (hc)
                refine sv_iload hM dX12_enter_178 rfl rfl ?_
                refine sv_cond_eq hM dX12_enter_180 hs61 (t := 187) rfl rfl (fun hc => ?_) (fun hc => ?_)
                · have h := h.1 (hc)
                  refine sv_iconst (d := (0 : Int)) hM dX12_enter_187 rfl rfl ?_
                  obtain ⟨o65, h⟩ := h
                  refine sv_callV hM dX12_enter_188 sm_iv_870 (by decide) (sm_a0 _) rfl rfl (Nat.le_of_ble_eq_true rfl) sm_h141 (Nat.le_of_ble_eq_true rfl) (Nat.le_of_ble_eq_true rfl) (F' := 1) (Nat.le_of_ble_eq_true rfl) rfl (t_set_ r14 x57 s63 (0 : Int) (sv_sts (sv_up (sv_sts S [1076, 41, 42, 43, 44, 45, 46, 47, 1075, 1100029] g10) 43 r14 (g10 43 p1)) [1084, 1085, 48, 1086, 51, 52, 46, 47, 49, 50, 1075, 1100020, 1100021, 1100022] g21) ok25 hr14 e58r hs63 (⟨by decide, by decide⟩ : sv_R (0 : Int)) o65) (fun v S1 hq => ?_)
                  obtain ⟨rfl, ok67, md68, hpo69⟩ := hq
                  obtain ⟨g66, rfl⟩ : ∃ g, S1 = sv_sts (sv_sts (sv_up (sv_sts S [1076, 41, 42, 43, 44, 45, 46, 47, 1075, 1100029] g10) 43 r14 (g10 43 p1)) [1084, 1085, 48, 1086, 51, 52, 46, 47, 49, 50, 1075, 1100020, 1100021, 1100022] g21) [1084, 1085, 48, 1086, 51, 52, 46, 47, 49, 50, 1075, 1100020, 1100021, 1100022] g := ⟨_, md68.eq⟩
                  show sv_T sm_XS sm_cs sm_L sm_sh 2 (q_enter p1 p2 p3 p4 p5 S) 183 191 [(0, .ref 0), (1, sv_I p1), (2, sv_I p2), (3, sv_I p3), (4, sv_I p4), (5, sv_I p5), (6, sv_I (S 45 p1)), (7, sv_I r14), (8, sv_I l8_22), (9, sv_I x57), (10, sv_I s59), (11, sv_I s61), (12, sv_I s63)] [] (sv_sts (sv_sts (sv_up (sv_sts S [1076, 41, 42, 43, 44, 45, 46, 47, 1075, 1100029] g10) 43 r14 (g10 43 p1)) [1084, 1085, 48, 1086, 51, 52, 46, 47, 49, 50, 1075, 1100020, 1100021, 1100022] g21) [1084, 1085, 48, 1086, 51, 52, 46, 47, 49, 50, 1075, 1100020, 1100021, 1100022] g66)
                  have md70 : sv_mod [1076, 41, 42, 43, 44, 45, 46, 47, 1075, 1100029, 1084, 1085, 48, 1086, 51, 52, 49, 50, 1100020, 1100021, 1100022, 58, 63, 64, 57, 1092, 53, 54, 55, 56, 59, 60] S (sv_sts (sv_sts (sv_up (sv_sts S [1076, 41, 42, 43, 44, 45, 46, 47, 1075, 1100029] g10) 43 r14 (g10 43 p1)) [1084, 1085, 48, 1086, 51, 52, 46, 47, 49, 50, 1075, 1100020, 1100021, 1100022] g21) [1084, 1085, 48, 1086, 51, 52, 46, 47, 49, 50, 1075, 1100020, 1100021, 1100022] g66) := sv_mod.sts md26 (by decide)
                  have md71 : sv_mod [1084, 1085, 48, 1086, 51, 52, 46, 47, 49, 50, 1075, 1100020, 1100021, 1100022] (sv_up (sv_sts S [1076, 41, 42, 43, 44, 45, 46, 47, 1075, 1100029] g10) 43 r14 (g10 43 p1)) (sv_sts (sv_sts (sv_up (sv_sts S [1076, 41, 42, 43, 44, 45, 46, 47, 1075, 1100029] g10) 43 r14 (g10 43 p1)) [1084, 1085, 48, 1086, 51, 52, 46, 47, 49, 50, 1075, 1100020, 1100021, 1100022] g21) [1084, 1085, 48, 1086, 51, 52, 46, 47, 49, 50, 1075, 1100020, 1100021, 1100022] g66) := sv_mod.sts md27 (by decide)
                  have h := h g66 hpo69
                  refine sv_aload_n hM dX12_enter_191 rfl rfl ?_
                  have k72 : (0 ≤ (g66 1075 0) ∧ (g66 1075 0) ≤ 1) := sm_okZ ok67 sm_r1075 0
                  have h := h k72
                  refine sv_getI hM dX12_enter_192 sm_fl_794 (sm_a0 _) sm_k75 rfl (x := (g66 1075 0)) rfl ?_
                  refine sv_cond_eq hM dX12_enter_195 (sv_R01 k72) (t := 199) rfl rfl (fun hc => ?_) (fun hc => ?_)
                  · have h := h.1 (hc)
                    refine sv_iinc (d := (1 : Int)) hM dX12_enter_199 rfl (by decide) rfl rfl ?_
                    show sv_T sm_XS sm_cs sm_L sm_sh 2 (q_enter p1 p2 p3 p4 p5 S) 183 202 [(0, .ref 0), (1, sv_I p1), (2, sv_I p2), (3, sv_I p3), (4, sv_I p4), (5, sv_I p5), (6, sv_I (S 45 p1)), (7, sv_I r14), (8, sv_I (l8_22 + (1 : Int))), (9, sv_I x57), (10, sv_I s59), (11, sv_I s61), (12, sv_I s63)] [] (sv_sts (sv_sts (sv_up (sv_sts S [1076, 41, 42, 43, 44, 45, 46, 47, 1075, 1100029] g10) 43 r14 (g10 43 p1)) [1084, 1085, 48, 1086, 51, 52, 46, 47, 49, 50, 1075, 1100020, 1100021, 1100022] g21) [1084, 1085, 48, 1086, 51, 52, 46, 47, 49, 50, 1075, 1100020, 1100021, 1100022] g66)
                    refine sv_goto hM dX12_enter_202 (pc' := 50) rfl ?_
                    obtain ⟨o73, h⟩ := h
                    have eS := sv_mod.eq md71
                    have hb := ih23 ((l8_22 + (1 : Int)), (sv_sts (sv_sts (sv_up (sv_sts S [1076, 41, 42, 43, 44, 45, 46, 47, 1075, 1100029] g10) 43 r14 (g10 43 p1)) [1084, 1085, 48, 1086, 51, 52, 46, 47, 49, 50, 1075, 1100020, 1100021, 1100022] g21) [1084, 1085, 48, 1086, 51, 52, 46, 47, 49, 50, 1075, 1100020, 1100021, 1100022] g66)) ⟨o73, (by rw [← eS]; exact ok67), h.1⟩ h.2
                    have hb : sv_T sm_XS sm_cs sm_L sm_sh 2 (q_enter p1 p2 p3 p4 p5 S) 183 50 [(0, .ref 0), (1, sv_I p1), (2, sv_I p2), (3, sv_I p3), (4, sv_I p4), (5, sv_I p5), (6, sv_I (S 45 p1)), (7, sv_I r14), (8, sv_I (l8_22 + (1 : Int)))] [] (sv_sts (sv_sts (sv_up (sv_sts S [1076, 41, 42, 43, 44, 45, 46, 47, 1075, 1100029] g10) 43 r14 (g10 43 p1)) [1084, 1085, 48, 1086, 51, 52, 46, 47, 49, 50, 1075, 1100020, 1100021, 1100022] g21) [1084, 1085, 48, 1086, 51, 52, 46, 47, 49, 50, 1075, 1100020, 1100021, 1100022] g66) := Eq.mpr (congrArg (fun Z => sv_T sm_XS sm_cs sm_L sm_sh 2 (q_enter p1 p2 p3 p4 p5 S) 183 50 [(0, .ref 0), (1, sv_I p1), (2, sv_I p2), (3, sv_I p3), (4, sv_I p4), (5, sv_I p5), (6, sv_I (S 45 p1)), (7, sv_I r14), (8, sv_I (l8_22 + (1 : Int)))] [] Z) eS) hb
                    exact sv_less (lv := [(0, .ref 0), (1, sv_I p1), (2, sv_I p2), (3, sv_I p3), (4, sv_I p4), (5, sv_I p5), (6, sv_I (S 45 p1)), (7, sv_I r14), (8, sv_I (l8_22 + (1 : Int)))]) (sv_Sub_cons rfl (sv_Sub_cons rfl (sv_Sub_cons rfl (sv_Sub_cons rfl (sv_Sub_cons rfl (sv_Sub_cons rfl (sv_Sub_cons rfl (sv_Sub_cons rfl (sv_Sub_cons rfl sv_Sub_nil))))))))) hb
                  · have h := h.2 (hc)
                    exact sv_vret hM dX12_enter_198 rfl ⟨rfl, ok67, md70, h⟩
                · have h := h.2 (hc)
                  refine sv_iload_n hM dX12_enter_183 rfl rfl ?_
                  refine sv_goto hM dX12_enter_184 (pc' := 188) rfl ?_
                  obtain ⟨o74, h⟩ := h
                  refine sv_callV hM dX12_enter_188 sm_iv_870 (by decide) (sm_a0 _) rfl rfl (Nat.le_of_ble_eq_true rfl) sm_h141 (Nat.le_of_ble_eq_true rfl) (Nat.le_of_ble_eq_true rfl) (F' := 1) (Nat.le_of_ble_eq_true rfl) rfl (t_set_ r14 x57 s63 p1 (sv_sts (sv_up (sv_sts S [1076, 41, 42, 43, 44, 45, 46, 47, 1075, 1100029] g10) 43 r14 (g10 43 p1)) [1084, 1085, 48, 1086, 51, 52, 46, 47, 49, 50, 1075, 1100020, 1100021, 1100022] g21) ok25 hr14 e58r hs63 hp1 o74) (fun v S1 hq => ?_)
                  obtain ⟨rfl, ok76, md77, hpo78⟩ := hq
                  obtain ⟨g75, rfl⟩ : ∃ g, S1 = sv_sts (sv_sts (sv_up (sv_sts S [1076, 41, 42, 43, 44, 45, 46, 47, 1075, 1100029] g10) 43 r14 (g10 43 p1)) [1084, 1085, 48, 1086, 51, 52, 46, 47, 49, 50, 1075, 1100020, 1100021, 1100022] g21) [1084, 1085, 48, 1086, 51, 52, 46, 47, 49, 50, 1075, 1100020, 1100021, 1100022] g := ⟨_, md77.eq⟩
                  show sv_T sm_XS sm_cs sm_L sm_sh 2 (q_enter p1 p2 p3 p4 p5 S) 183 191 [(0, .ref 0), (1, sv_I p1), (2, sv_I p2), (3, sv_I p3), (4, sv_I p4), (5, sv_I p5), (6, sv_I (S 45 p1)), (7, sv_I r14), (8, sv_I l8_22), (9, sv_I x57), (10, sv_I s59), (11, sv_I s61), (12, sv_I s63)] [] (sv_sts (sv_sts (sv_up (sv_sts S [1076, 41, 42, 43, 44, 45, 46, 47, 1075, 1100029] g10) 43 r14 (g10 43 p1)) [1084, 1085, 48, 1086, 51, 52, 46, 47, 49, 50, 1075, 1100020, 1100021, 1100022] g21) [1084, 1085, 48, 1086, 51, 52, 46, 47, 49, 50, 1075, 1100020, 1100021, 1100022] g75)
                  have md79 : sv_mod [1076, 41, 42, 43, 44, 45, 46, 47, 1075, 1100029, 1084, 1085, 48, 1086, 51, 52, 49, 50, 1100020, 1100021, 1100022, 58, 63, 64, 57, 1092, 53, 54, 55, 56, 59, 60] S (sv_sts (sv_sts (sv_up (sv_sts S [1076, 41, 42, 43, 44, 45, 46, 47, 1075, 1100029] g10) 43 r14 (g10 43 p1)) [1084, 1085, 48, 1086, 51, 52, 46, 47, 49, 50, 1075, 1100020, 1100021, 1100022] g21) [1084, 1085, 48, 1086, 51, 52, 46, 47, 49, 50, 1075, 1100020, 1100021, 1100022] g75) := sv_mod.sts md26 (by decide)
                  have md80 : sv_mod [1084, 1085, 48, 1086, 51, 52, 46, 47, 49, 50, 1075, 1100020, 1100021, 1100022] (sv_up (sv_sts S [1076, 41, 42, 43, 44, 45, 46, 47, 1075, 1100029] g10) 43 r14 (g10 43 p1)) (sv_sts (sv_sts (sv_up (sv_sts S [1076, 41, 42, 43, 44, 45, 46, 47, 1075, 1100029] g10) 43 r14 (g10 43 p1)) [1084, 1085, 48, 1086, 51, 52, 46, 47, 49, 50, 1075, 1100020, 1100021, 1100022] g21) [1084, 1085, 48, 1086, 51, 52, 46, 47, 49, 50, 1075, 1100020, 1100021, 1100022] g75) := sv_mod.sts md27 (by decide)
                  have h := h g75 hpo78
                  refine sv_aload_n hM dX12_enter_191 rfl rfl ?_
                  have k81 : (0 ≤ (g75 1075 0) ∧ (g75 1075 0) ≤ 1) := sm_okZ ok76 sm_r1075 0
                  have h := h k81
                  refine sv_getI hM dX12_enter_192 sm_fl_794 (sm_a0 _) sm_k75 rfl (x := (g75 1075 0)) rfl ?_
                  refine sv_cond_eq hM dX12_enter_195 (sv_R01 k81) (t := 199) rfl rfl (fun hc => ?_) (fun hc => ?_)
                  · have h := h.1 (hc)
                    refine sv_iinc (d := (1 : Int)) hM dX12_enter_199 rfl (by decide) rfl rfl ?_
                    show sv_T sm_XS sm_cs sm_L sm_sh 2 (q_enter p1 p2 p3 p4 p5 S) 183 202 [(0, .ref 0), (1, sv_I p1), (2, sv_I p2), (3, sv_I p3), (4, sv_I p4), (5, sv_I p5), (6, sv_I (S 45 p1)), (7, sv_I r14), (8, sv_I (l8_22 + (1 : Int))), (9, sv_I x57), (10, sv_I s59), (11, sv_I s61), (12, sv_I s63)] [] (sv_sts (sv_sts (sv_up (sv_sts S [1076, 41, 42, 43, 44, 45, 46, 47, 1075, 1100029] g10) 43 r14 (g10 43 p1)) [1084, 1085, 48, 1086, 51, 52, 46, 47, 49, 50, 1075, 1100020, 1100021, 1100022] g21) [1084, 1085, 48, 1086, 51, 52, 46, 47, 49, 50, 1075, 1100020, 1100021, 1100022] g75)
                    refine sv_goto hM dX12_enter_202 (pc' := 50) rfl ?_
                    obtain ⟨o82, h⟩ := h
                    have eS := sv_mod.eq md80
                    have hb := ih23 ((l8_22 + (1 : Int)), (sv_sts (sv_sts (sv_up (sv_sts S [1076, 41, 42, 43, 44, 45, 46, 47, 1075, 1100029] g10) 43 r14 (g10 43 p1)) [1084, 1085, 48, 1086, 51, 52, 46, 47, 49, 50, 1075, 1100020, 1100021, 1100022] g21) [1084, 1085, 48, 1086, 51, 52, 46, 47, 49, 50, 1075, 1100020, 1100021, 1100022] g75)) ⟨o82, (by rw [← eS]; exact ok76), h.1⟩ h.2
                    have hb : sv_T sm_XS sm_cs sm_L sm_sh 2 (q_enter p1 p2 p3 p4 p5 S) 183 50 [(0, .ref 0), (1, sv_I p1), (2, sv_I p2), (3, sv_I p3), (4, sv_I p4), (5, sv_I p5), (6, sv_I (S 45 p1)), (7, sv_I r14), (8, sv_I (l8_22 + (1 : Int)))] [] (sv_sts (sv_sts (sv_up (sv_sts S [1076, 41, 42, 43, 44, 45, 46, 47, 1075, 1100029] g10) 43 r14 (g10 43 p1)) [1084, 1085, 48, 1086, 51, 52, 46, 47, 49, 50, 1075, 1100020, 1100021, 1100022] g21) [1084, 1085, 48, 1086, 51, 52, 46, 47, 49, 50, 1075, 1100020, 1100021, 1100022] g75) := Eq.mpr (congrArg (fun Z => sv_T sm_XS sm_cs sm_L sm_sh 2 (q_enter p1 p2 p3 p4 p5 S) 183 50 [(0, .ref 0), (1, sv_I p1), (2, sv_I p2), (3, sv_I p3), (4, sv_I p4), (5, sv_I p5), (6, sv_I (S 45 p1)), (7, sv_I r14), (8, sv_I (l8_22 + (1 : Int)))] [] Z) eS) hb
                    exact sv_less (lv := [(0, .ref 0), (1, sv_I p1), (2, sv_I p2), (3, sv_I p3), (4, sv_I p4), (5, sv_I p5), (6, sv_I (S 45 p1)), (7, sv_I r14), (8, sv_I (l8_22 + (1 : Int)))]) (sv_Sub_cons rfl (sv_Sub_cons rfl (sv_Sub_cons rfl (sv_Sub_cons rfl (sv_Sub_cons rfl (sv_Sub_cons rfl (sv_Sub_cons rfl (sv_Sub_cons rfl (sv_Sub_cons rfl sv_Sub_nil))))))))) hb
                  · have h := h.2 (hc)
                    exact sv_vret hM dX12_enter_198 rfl ⟨rfl, ok76, md79, h⟩
              · have h := h.2 (hc)
                refine sv_aload_n hM dX12_enter_169 rfl rfl ?_
                refine sv_iload hM dX12_enter_170 rfl rfl ?_
                obtain ⟨o83, h⟩ := h
                refine sv_callV hM dX12_enter_172 sm_iv_1017 (by decide) (sm_a0 _) rfl rfl (Nat.le_of_ble_eq_true rfl) sm_h179 (Nat.le_of_ble_eq_true rfl) (Nat.le_of_ble_eq_true rfl) (F' := 0) (Nat.le_of_ble_eq_true rfl) rfl (t_argument l8_22 (sv_sts (sv_up (sv_sts S [1076, 41, 42, 43, 44, 45, 46, 47, 1075, 1100029] g10) 43 r14 (g10 43 p1)) [1084, 1085, 48, 1086, 51, 52, 46, 47, 49, 50, 1075, 1100020, 1100021, 1100022] g21) ok25 hl8_22 o83) (fun v S1 hq => ?_)
                obtain ⟨r88, rfl, hr88, ok85, md86, hpo87⟩ := hq
                obtain rfl : (sv_sts (sv_up (sv_sts S [1076, 41, 42, 43, 44, 45, 46, 47, 1075, 1100029] g10) 43 r14 (g10 43 p1)) [1084, 1085, 48, 1086, 51, 52, 46, 47, 49, 50, 1075, 1100020, 1100021, 1100022] g21) = S1 := (funext fun j => md86 j (by intro q; cases q)).symm
                show sv_T sm_XS sm_cs sm_L sm_sh 2 (q_enter p1 p2 p3 p4 p5 S) 183 175 [(0, .ref 0), (1, sv_I p1), (2, sv_I p2), (3, sv_I p3), (4, sv_I p4), (5, sv_I p5), (6, sv_I (S 45 p1)), (7, sv_I r14), (8, sv_I l8_22), (9, sv_I x57), (10, sv_I s59), (11, sv_I s61), (12, sv_I s63)] [sv_I r88, sv_I s63, sv_I x57, sv_I r14, .ref 0] (sv_sts (sv_up (sv_sts S [1076, 41, 42, 43, 44, 45, 46, 47, 1075, 1100029] g10) 43 r14 (g10 43 p1)) [1084, 1085, 48, 1086, 51, 52, 46, 47, 49, 50, 1075, 1100020, 1100021, 1100022] g21)
                have h := h r88 hr88 hpo87
                have k89 : (sm_SK (S 63) (S 64) (g10 44) (S 1100007) (S 1100025) (g10 1076 0) (S 1007 0) (400 * ((S 1092 0) - 1)) ((S 58 ((S 1092 0) - 1))) ((S 1100034 0)) → sm_LS (S 26) (S 1100007) (S 1100025) (S 1046 0) → (S 1114 0) + (S 1115 0) = 400 * ((S 1092 0) - 1) + (S 58 ((S 1092 0) - 1)) → 0 ≤ l8_22 → (S 1115 0) ≤ p4 - 1 → p4 ≤ (S 58 ((S 1092 0) - 1)) → (S 1100034 0) < (S 1046 0) → (0 ≤ (S 1100034 0) → (S 26 (S 1100034 0)) = 29) → (0 ≤ (S 1100034 0) → (S 1100007 (S 1100034 0)) ≤ (S 58 ((S 1092 0) - 1)) - p4) → (l8_22 < (S 1115 0) → s63 = (S 63 ((S 1114 0) + l8_22))) → (¬ l8_22 < (S 1115 0) → s63 = 0) → (l8_22 < (S 1115 0) → r88 = (S 64 ((S 1114 0) + l8_22))) → (¬ l8_22 < (S 1115 0) → r88 = 0) → sm_VO (g10 44) (g10 1076 0) (S 1007 0) (s63) (r88)) := fun k l e a d g q o w s63 x57 v1 v2 => sm_SK_argv k l e a d g q o w s63 x57 v1 v2
                have h := h k89
                refine sv_goto hM dX12_enter_175 (pc' := 188) rfl ?_
                obtain ⟨o90, h⟩ := h
                refine sv_callV hM dX12_enter_188 sm_iv_870 (by decide) (sm_a0 _) rfl rfl (Nat.le_of_ble_eq_true rfl) sm_h141 (Nat.le_of_ble_eq_true rfl) (Nat.le_of_ble_eq_true rfl) (F' := 1) (Nat.le_of_ble_eq_true rfl) rfl (t_set_ r14 x57 s63 r88 (sv_sts (sv_up (sv_sts S [1076, 41, 42, 43, 44, 45, 46, 47, 1075, 1100029] g10) 43 r14 (g10 43 p1)) [1084, 1085, 48, 1086, 51, 52, 46, 47, 49, 50, 1075, 1100020, 1100021, 1100022] g21) ok85 hr14 e58r hs63 hr88 o90) (fun v S1 hq => ?_)
                obtain ⟨rfl, ok92, md93, hpo94⟩ := hq
                obtain ⟨g91, rfl⟩ : ∃ g, S1 = sv_sts (sv_sts (sv_up (sv_sts S [1076, 41, 42, 43, 44, 45, 46, 47, 1075, 1100029] g10) 43 r14 (g10 43 p1)) [1084, 1085, 48, 1086, 51, 52, 46, 47, 49, 50, 1075, 1100020, 1100021, 1100022] g21) [1084, 1085, 48, 1086, 51, 52, 46, 47, 49, 50, 1075, 1100020, 1100021, 1100022] g := ⟨_, md93.eq⟩
                show sv_T sm_XS sm_cs sm_L sm_sh 2 (q_enter p1 p2 p3 p4 p5 S) 183 191 [(0, .ref 0), (1, sv_I p1), (2, sv_I p2), (3, sv_I p3), (4, sv_I p4), (5, sv_I p5), (6, sv_I (S 45 p1)), (7, sv_I r14), (8, sv_I l8_22), (9, sv_I x57), (10, sv_I s59), (11, sv_I s61), (12, sv_I s63)] [] (sv_sts (sv_sts (sv_up (sv_sts S [1076, 41, 42, 43, 44, 45, 46, 47, 1075, 1100029] g10) 43 r14 (g10 43 p1)) [1084, 1085, 48, 1086, 51, 52, 46, 47, 49, 50, 1075, 1100020, 1100021, 1100022] g21) [1084, 1085, 48, 1086, 51, 52, 46, 47, 49, 50, 1075, 1100020, 1100021, 1100022] g91)
                have md95 : sv_mod [1076, 41, 42, 43, 44, 45, 46, 47, 1075, 1100029, 1084, 1085, 48, 1086, 51, 52, 49, 50, 1100020, 1100021, 1100022, 58, 63, 64, 57, 1092, 53, 54, 55, 56, 59, 60] S (sv_sts (sv_sts (sv_up (sv_sts S [1076, 41, 42, 43, 44, 45, 46, 47, 1075, 1100029] g10) 43 r14 (g10 43 p1)) [1084, 1085, 48, 1086, 51, 52, 46, 47, 49, 50, 1075, 1100020, 1100021, 1100022] g21) [1084, 1085, 48, 1086, 51, 52, 46, 47, 49, 50, 1075, 1100020, 1100021, 1100022] g91) := sv_mod.sts md26 (by decide)
                have md96 : sv_mod [1084, 1085, 48, 1086, 51, 52, 46, 47, 49, 50, 1075, 1100020, 1100021, 1100022] (sv_up (sv_sts S [1076, 41, 42, 43, 44, 45, 46, 47, 1075, 1100029] g10) 43 r14 (g10 43 p1)) (sv_sts (sv_sts (sv_up (sv_sts S [1076, 41, 42, 43, 44, 45, 46, 47, 1075, 1100029] g10) 43 r14 (g10 43 p1)) [1084, 1085, 48, 1086, 51, 52, 46, 47, 49, 50, 1075, 1100020, 1100021, 1100022] g21) [1084, 1085, 48, 1086, 51, 52, 46, 47, 49, 50, 1075, 1100020, 1100021, 1100022] g91) := sv_mod.sts md27 (by decide)
                have h := h g91 hpo94
                refine sv_aload_n hM dX12_enter_191 rfl rfl ?_
                have k97 : (0 ≤ (g91 1075 0) ∧ (g91 1075 0) ≤ 1) := sm_okZ ok92 sm_r1075 0
                have h := h k97
                refine sv_getI hM dX12_enter_192 sm_fl_794 (sm_a0 _) sm_k75 rfl (x := (g91 1075 0)) rfl ?_
                refine sv_cond_eq hM dX12_enter_195 (sv_R01 k97) (t := 199) rfl rfl (fun hc => ?_) (fun hc => ?_)
                · have h := h.1 (hc)
                  refine sv_iinc (d := (1 : Int)) hM dX12_enter_199 rfl (by decide) rfl rfl ?_
                  show sv_T sm_XS sm_cs sm_L sm_sh 2 (q_enter p1 p2 p3 p4 p5 S) 183 202 [(0, .ref 0), (1, sv_I p1), (2, sv_I p2), (3, sv_I p3), (4, sv_I p4), (5, sv_I p5), (6, sv_I (S 45 p1)), (7, sv_I r14), (8, sv_I (l8_22 + (1 : Int))), (9, sv_I x57), (10, sv_I s59), (11, sv_I s61), (12, sv_I s63)] [] (sv_sts (sv_sts (sv_up (sv_sts S [1076, 41, 42, 43, 44, 45, 46, 47, 1075, 1100029] g10) 43 r14 (g10 43 p1)) [1084, 1085, 48, 1086, 51, 52, 46, 47, 49, 50, 1075, 1100020, 1100021, 1100022] g21) [1084, 1085, 48, 1086, 51, 52, 46, 47, 49, 50, 1075, 1100020, 1100021, 1100022] g91)
                  refine sv_goto hM dX12_enter_202 (pc' := 50) rfl ?_
                  obtain ⟨o98, h⟩ := h
                  have eS := sv_mod.eq md96
                  have hb := ih23 ((l8_22 + (1 : Int)), (sv_sts (sv_sts (sv_up (sv_sts S [1076, 41, 42, 43, 44, 45, 46, 47, 1075, 1100029] g10) 43 r14 (g10 43 p1)) [1084, 1085, 48, 1086, 51, 52, 46, 47, 49, 50, 1075, 1100020, 1100021, 1100022] g21) [1084, 1085, 48, 1086, 51, 52, 46, 47, 49, 50, 1075, 1100020, 1100021, 1100022] g91)) ⟨o98, (by rw [← eS]; exact ok92), h.1⟩ h.2
                  have hb : sv_T sm_XS sm_cs sm_L sm_sh 2 (q_enter p1 p2 p3 p4 p5 S) 183 50 [(0, .ref 0), (1, sv_I p1), (2, sv_I p2), (3, sv_I p3), (4, sv_I p4), (5, sv_I p5), (6, sv_I (S 45 p1)), (7, sv_I r14), (8, sv_I (l8_22 + (1 : Int)))] [] (sv_sts (sv_sts (sv_up (sv_sts S [1076, 41, 42, 43, 44, 45, 46, 47, 1075, 1100029] g10) 43 r14 (g10 43 p1)) [1084, 1085, 48, 1086, 51, 52, 46, 47, 49, 50, 1075, 1100020, 1100021, 1100022] g21) [1084, 1085, 48, 1086, 51, 52, 46, 47, 49, 50, 1075, 1100020, 1100021, 1100022] g91) := Eq.mpr (congrArg (fun Z => sv_T sm_XS sm_cs sm_L sm_sh 2 (q_enter p1 p2 p3 p4 p5 S) 183 50 [(0, .ref 0), (1, sv_I p1), (2, sv_I p2), (3, sv_I p3), (4, sv_I p4), (5, sv_I p5), (6, sv_I (S 45 p1)), (7, sv_I r14), (8, sv_I (l8_22 + (1 : Int)))] [] Z) eS) hb
                  exact sv_less (lv := [(0, .ref 0), (1, sv_I p1), (2, sv_I p2), (3, sv_I p3), (4, sv_I p4), (5, sv_I p5), (6, sv_I (S 45 p1)), (7, sv_I r14), (8, sv_I (l8_22 + (1 : Int)))]) (sv_Sub_cons rfl (sv_Sub_cons rfl (sv_Sub_cons rfl (sv_Sub_cons rfl (sv_Sub_cons rfl (sv_Sub_cons rfl (sv_Sub_cons rfl (sv_Sub_cons rfl (sv_Sub_cons rfl sv_Sub_nil))))))))) hb
                · have h := h.2 (hc)
                  exact sv_vret hM dX12_enter_198 rfl ⟨rfl, ok92, md95, h⟩
            have h := h.2
            refine sv_iload hM dX12_enter_130 rfl rfl ?_
            refine sv_cond_eq hM dX12_enter_132 hs59 (t := 144) rfl rfl (fun hc => ?_) (fun hc => ?_)
            · have h := h.1 (hc)
              refine sv_iload hM dX12_enter_144 rfl rfl ?_
              refine sv_cond_eq hM dX12_enter_146 hs61 (t := 154) rfl rfl (fun hc => ?_) (fun hc => ?_)
              · have h := h.1 (hc)
                refine sv_iconst (d := (0 : Int)) hM dX12_enter_154 rfl rfl ?_
                have hb := J99 (0 : Int) (⟨by decide, by decide⟩ : sv_R (0 : Int)) h
                exact sv_less (lv := [(0, .ref 0), (1, sv_I p1), (2, sv_I p2), (3, sv_I p3), (4, sv_I p4), (5, sv_I p5), (6, sv_I (S 45 p1)), (7, sv_I r14), (8, sv_I l8_22), (9, sv_I x57), (10, sv_I s59), (11, sv_I s61)]) (sv_Sub_cons rfl (sv_Sub_cons rfl (sv_Sub_cons rfl (sv_Sub_cons rfl (sv_Sub_cons rfl (sv_Sub_cons rfl (sv_Sub_cons rfl (sv_Sub_cons rfl (sv_Sub_cons rfl (sv_Sub_cons rfl (sv_Sub_cons rfl (sv_Sub_cons rfl sv_Sub_nil)))))))))))) hb
              · have h := h.2 (hc)
                refine sv_bipush (d := (7 : Int)) hM dX12_enter_149 rfl rfl ?_
                refine sv_goto hM dX12_enter_151 (pc' := 155) rfl ?_
                have hb := J99 (7 : Int) (⟨by decide, by decide⟩ : sv_R (7 : Int)) h
                exact sv_less (lv := [(0, .ref 0), (1, sv_I p1), (2, sv_I p2), (3, sv_I p3), (4, sv_I p4), (5, sv_I p5), (6, sv_I (S 45 p1)), (7, sv_I r14), (8, sv_I l8_22), (9, sv_I x57), (10, sv_I s59), (11, sv_I s61)]) (sv_Sub_cons rfl (sv_Sub_cons rfl (sv_Sub_cons rfl (sv_Sub_cons rfl (sv_Sub_cons rfl (sv_Sub_cons rfl (sv_Sub_cons rfl (sv_Sub_cons rfl (sv_Sub_cons rfl (sv_Sub_cons rfl (sv_Sub_cons rfl (sv_Sub_cons rfl sv_Sub_nil)))))))))))) hb
            · have h := h.2 (hc)
              refine sv_aload_n hM dX12_enter_135 rfl rfl ?_
              refine sv_iload hM dX12_enter_136 rfl rfl ?_
              obtain ⟨o100, h⟩ := h
              refine sv_callV hM dX12_enter_138 sm_iv_1014 (by decide) (sm_a0 _) rfl rfl (Nat.le_of_ble_eq_true rfl) sm_h178 (Nat.le_of_ble_eq_true rfl) (Nat.le_of_ble_eq_true rfl) (F' := 0) (Nat.le_of_ble_eq_true rfl) rfl (t_argumentSort l8_22 (sv_sts (sv_up (sv_sts S [1076, 41, 42, 43, 44, 45, 46, 47, 1075, 1100029] g10) 43 r14 (g10 43 p1)) [1084, 1085, 48, 1086, 51, 52, 46, 47, 49, 50, 1075, 1100020, 1100021, 1100022] g21) ok25 hl8_22 o100) (fun v S1 hq => ?_)
              obtain ⟨r105, rfl, hr105, ok102, md103, hpo104⟩ := hq
              obtain rfl : (sv_sts (sv_up (sv_sts S [1076, 41, 42, 43, 44, 45, 46, 47, 1075, 1100029] g10) 43 r14 (g10 43 p1)) [1084, 1085, 48, 1086, 51, 52, 46, 47, 49, 50, 1075, 1100020, 1100021, 1100022] g21) = S1 := (funext fun j => md103 j (by intro q; cases q)).symm
              show sv_T sm_XS sm_cs sm_L sm_sh 2 (q_enter p1 p2 p3 p4 p5 S) 183 141 [(0, .ref 0), (1, sv_I p1), (2, sv_I p2), (3, sv_I p3), (4, sv_I p4), (5, sv_I p5), (6, sv_I (S 45 p1)), (7, sv_I r14), (8, sv_I l8_22), (9, sv_I x57), (10, sv_I s59), (11, sv_I s61)] [sv_I r105] (sv_sts (sv_up (sv_sts S [1076, 41, 42, 43, 44, 45, 46, 47, 1075, 1100029] g10) 43 r14 (g10 43 p1)) [1084, 1085, 48, 1086, 51, 52, 46, 47, 49, 50, 1075, 1100020, 1100021, 1100022] g21)
              have h := h r105 hr105 hpo104
              refine sv_goto hM dX12_enter_141 (pc' := 155) rfl ?_
              have hb := J99 r105 hr105 h
              exact sv_less (lv := [(0, .ref 0), (1, sv_I p1), (2, sv_I p2), (3, sv_I p3), (4, sv_I p4), (5, sv_I p5), (6, sv_I (S 45 p1)), (7, sv_I r14), (8, sv_I l8_22), (9, sv_I x57), (10, sv_I s59), (11, sv_I s61)]) (sv_Sub_cons rfl (sv_Sub_cons rfl (sv_Sub_cons rfl (sv_Sub_cons rfl (sv_Sub_cons rfl (sv_Sub_cons rfl (sv_Sub_cons rfl (sv_Sub_cons rfl (sv_Sub_cons rfl (sv_Sub_cons rfl (sv_Sub_cons rfl (sv_Sub_cons rfl sv_Sub_nil)))))))))))) hb
          have h := h.2
          refine sv_iload hM dX12_enter_96 rfl rfl ?_
          refine sv_cond_ne hM dX12_enter_98 hs59 (t := 127) rfl rfl (fun hc => ?_) (fun hc => ?_)
          · have h := h.1 (hc)
            refine sv_iconst (d := (0 : Int)) hM dX12_enter_127 rfl rfl ?_
            have hb := J106 (0 : Int) (⟨by decide, by decide⟩ : sv_R (0 : Int)) h
            exact sv_less (lv := [(0, .ref 0), (1, sv_I p1), (2, sv_I p2), (3, sv_I p3), (4, sv_I p4), (5, sv_I p5), (6, sv_I (S 45 p1)), (7, sv_I r14), (8, sv_I l8_22), (9, sv_I x57), (10, sv_I s59)]) (sv_Sub_cons rfl (sv_Sub_cons rfl (sv_Sub_cons rfl (sv_Sub_cons rfl (sv_Sub_cons rfl (sv_Sub_cons rfl (sv_Sub_cons rfl (sv_Sub_cons rfl (sv_Sub_cons rfl (sv_Sub_cons rfl (sv_Sub_cons rfl sv_Sub_nil))))))))))) hb
          · have h := h.2 (hc)
            refine sv_aload_n hM dX12_enter_101 rfl rfl ?_
            refine sv_getA hM dX12_enter_102 sm_fl_65 (sm_a0 _) sm_k34 rfl ?_
            refine sv_iload hM dX12_enter_105 rfl rfl ?_
            have k107 : (0 ≤ (S 18 (S 45 p1)) ∧ (S 18 (S 45 p1)) ≤ 1) := sm_okZ ok25 sm_r18 (S 45 p1)
            have h := h k107
            refine sv_zald hM dX12_enter_107 (sm_a18 _) (by decide) o28.1 o28.2 rfl (x := (S 18 (S 45 p1))) rfl ?_
            refine sv_cond_ne hM dX12_enter_108 (sv_R01 k107) (t := 127) rfl rfl (fun hc => ?_) (fun hc => ?_)
            · have h := h.1 (hc)
              refine sv_iconst (d := (0 : Int)) hM dX12_enter_127 rfl rfl ?_
              have hb := J106 (0 : Int) (⟨by decide, by decide⟩ : sv_R (0 : Int)) h
              exact sv_less (lv := [(0, .ref 0), (1, sv_I p1), (2, sv_I p2), (3, sv_I p3), (4, sv_I p4), (5, sv_I p5), (6, sv_I (S 45 p1)), (7, sv_I r14), (8, sv_I l8_22), (9, sv_I x57), (10, sv_I s59)]) (sv_Sub_cons rfl (sv_Sub_cons rfl (sv_Sub_cons rfl (sv_Sub_cons rfl (sv_Sub_cons rfl (sv_Sub_cons rfl (sv_Sub_cons rfl (sv_Sub_cons rfl (sv_Sub_cons rfl (sv_Sub_cons rfl (sv_Sub_cons rfl sv_Sub_nil))))))))))) hb
            · have h := h.2 (hc)
              refine sv_iload hM dX12_enter_111 rfl rfl ?_
              refine sv_aload_n hM dX12_enter_113 rfl rfl ?_
              refine sv_getA hM dX12_enter_114 sm_fl_62 (sm_a0 _) sm_k33 rfl ?_
              refine sv_iload hM dX12_enter_117 rfl rfl ?_
              have k108 : sv_R (S 17 (S 45 p1)) := sm_okI ok25 sm_r17 (S 45 p1)
              have h := h k108
              refine sv_iald hM dX12_enter_119 (sm_a17 _) (by decide) o28.1 o28.2 rfl (x := (S 17 (S 45 p1))) rfl ?_
              refine sv_icmp_ne hM dX12_enter_120 e58r k108 (t := 127) rfl rfl (fun hc => ?_) (fun hc => ?_)
              · have h := h.1 (hc)
                refine sv_iconst (d := (0 : Int)) hM dX12_enter_127 rfl rfl ?_
                have hb := J106 (0 : Int) (⟨by decide, by decide⟩ : sv_R (0 : Int)) h
                exact sv_less (lv := [(0, .ref 0), (1, sv_I p1), (2, sv_I p2), (3, sv_I p3), (4, sv_I p4), (5, sv_I p5), (6, sv_I (S 45 p1)), (7, sv_I r14), (8, sv_I l8_22), (9, sv_I x57), (10, sv_I s59)]) (sv_Sub_cons rfl (sv_Sub_cons rfl (sv_Sub_cons rfl (sv_Sub_cons rfl (sv_Sub_cons rfl (sv_Sub_cons rfl (sv_Sub_cons rfl (sv_Sub_cons rfl (sv_Sub_cons rfl (sv_Sub_cons rfl (sv_Sub_cons rfl sv_Sub_nil))))))))))) hb
              · have h := h.2 (hc)
                refine sv_iconst (d := (1 : Int)) hM dX12_enter_123 rfl rfl ?_
                refine sv_goto hM dX12_enter_124 (pc' := 128) rfl ?_
                have hb := J106 (1 : Int) (⟨by decide, by decide⟩ : sv_R (1 : Int)) h
                exact sv_less (lv := [(0, .ref 0), (1, sv_I p1), (2, sv_I p2), (3, sv_I p3), (4, sv_I p4), (5, sv_I p5), (6, sv_I (S 45 p1)), (7, sv_I r14), (8, sv_I l8_22), (9, sv_I x57), (10, sv_I s59)]) (sv_Sub_cons rfl (sv_Sub_cons rfl (sv_Sub_cons rfl (sv_Sub_cons rfl (sv_Sub_cons rfl (sv_Sub_cons rfl (sv_Sub_cons rfl (sv_Sub_cons rfl (sv_Sub_cons rfl (sv_Sub_cons rfl (sv_Sub_cons rfl sv_Sub_nil))))))))))) hb
        have h := h.2
        refine sv_iload hM dX12_enter_77 rfl rfl ?_
        refine sv_aload_n hM dX12_enter_79 rfl rfl ?_
        refine sv_getA hM dX12_enter_80 sm_fl_71 (sm_a0 _) sm_k36 rfl ?_
        refine sv_iload hM dX12_enter_83 rfl rfl ?_
        have k110 : sv_R (S 20 (S 45 p1)) := sm_okI ok25 sm_r20 (S 45 p1)
        have h := h k110
        refine sv_iald hM dX12_enter_85 (sm_a20 _) (by decide) o28.1 o28.2 rfl (x := (S 20 (S 45 p1))) rfl ?_
        refine sv_icmp_ge hM dX12_enter_86 hl8_22 k110 (t := 93) rfl rfl (fun hc => ?_) (fun hc => ?_)
        · have h := h.1 (hc)
          refine sv_iconst (d := (0 : Int)) hM dX12_enter_93 rfl rfl ?_
          have hb := J109 (0 : Int) (⟨by decide, by decide⟩ : sv_R (0 : Int)) h
          exact sv_less (lv := [(0, .ref 0), (1, sv_I p1), (2, sv_I p2), (3, sv_I p3), (4, sv_I p4), (5, sv_I p5), (6, sv_I (S 45 p1)), (7, sv_I r14), (8, sv_I l8_22), (9, sv_I x57)]) (sv_Sub_cons rfl (sv_Sub_cons rfl (sv_Sub_cons rfl (sv_Sub_cons rfl (sv_Sub_cons rfl (sv_Sub_cons rfl (sv_Sub_cons rfl (sv_Sub_cons rfl (sv_Sub_cons rfl (sv_Sub_cons rfl sv_Sub_nil)))))))))) hb
        · have h := h.2 (hc)
          refine sv_iconst (d := (1 : Int)) hM dX12_enter_89 rfl rfl ?_
          refine sv_goto hM dX12_enter_90 (pc' := 94) rfl ?_
          have hb := J109 (1 : Int) (⟨by decide, by decide⟩ : sv_R (1 : Int)) h
          exact sv_less (lv := [(0, .ref 0), (1, sv_I p1), (2, sv_I p2), (3, sv_I p3), (4, sv_I p4), (5, sv_I p5), (6, sv_I (S 45 p1)), (7, sv_I r14), (8, sv_I l8_22), (9, sv_I x57)]) (sv_Sub_cons rfl (sv_Sub_cons rfl (sv_Sub_cons rfl (sv_Sub_cons rfl (sv_Sub_cons rfl (sv_Sub_cons rfl (sv_Sub_cons rfl (sv_Sub_cons rfl (sv_Sub_cons rfl (sv_Sub_cons rfl sv_Sub_nil)))))))))) hb
    have eS := sv_mod.eq (sv_mod.rf (l := [1084, 1085, 48, 1086, 51, 52, 46, 47, 49, 50, 1075, 1100020, 1100021, 1100022]) (S := (sv_up (sv_sts S [1076, 41, 42, 43, 44, 45, 46, 47, 1075, 1100029] g10) 43 r14 (g10 43 p1))))
    have hb := hJ ((0 : Int), (sv_up (sv_sts S [1076, 41, 42, 43, 44, 45, 46, 47, 1075, 1100029] g10) 43 r14 (g10 43 p1))) ⟨(⟨by decide, by decide⟩ : sv_R (0 : Int)), (by rw [← eS]; exact ok19), hin24⟩
    have hb : sv_T sm_XS sm_cs sm_L sm_sh 2 (q_enter p1 p2 p3 p4 p5 S) 183 50 [(0, .ref 0), (1, sv_I p1), (2, sv_I p2), (3, sv_I p3), (4, sv_I p4), (5, sv_I p5), (6, sv_I (S 45 p1)), (7, sv_I r14), (8, sv_I (0 : Int))] [] (sv_up (sv_sts S [1076, 41, 42, 43, 44, 45, 46, 47, 1075, 1100029] g10) 43 r14 (g10 43 p1)) := Eq.mpr (congrArg (fun Z => sv_T sm_XS sm_cs sm_L sm_sh 2 (q_enter p1 p2 p3 p4 p5 S) 183 50 [(0, .ref 0), (1, sv_I p1), (2, sv_I p2), (3, sv_I p3), (4, sv_I p4), (5, sv_I p5), (6, sv_I (S 45 p1)), (7, sv_I r14), (8, sv_I (0 : Int))] [] Z) eS) hb
    exact hb
  · have h := h.2 (hc)
    exact sv_vret hM dX12_enter_33 rfl ⟨rfl, ok11, md15, h⟩
