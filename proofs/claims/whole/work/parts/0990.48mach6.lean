theorem dX12_enter_0 : decode cX12_enter 0 = .ok (.aload_n 0, 1) := by decide +kernel
theorem dX12_enter_1 : decode cX12_enter 1 = .ok (.getfield 146, 3) := by decide +kernel
theorem dX12_enter_4 : decode cX12_enter 4 = .ok (.iload_n 1, 1) := by decide +kernel
theorem dX12_enter_5 : decode cX12_enter 5 = .ok (.iaload, 1) := by decide +kernel
theorem dX12_enter_6 : decode cX12_enter 6 = .ok (.istore 6, 2) := by decide +kernel
theorem dX12_enter_8 : decode cX12_enter 8 = .ok (.aload_n 0, 1) := by decide +kernel
theorem dX12_enter_9 : decode cX12_enter 9 = .ok (.iconst (-1), 1) := by decide +kernel
theorem dX12_enter_10 : decode cX12_enter 10 = .ok (.bipush 29, 2) := by decide +kernel
theorem dX12_enter_12 : decode cX12_enter 12 = .ok (.bipush 6, 2) := by decide +kernel
theorem dX12_enter_14 : decode cX12_enter 14 = .ok (.iload 6, 2) := by decide +kernel
theorem dX12_enter_16 : decode cX12_enter 16 = .ok (.iconst 1, 1) := by decide +kernel
theorem dX12_enter_17 : decode cX12_enter 17 = .ok (.isub, 1) := by decide +kernel
theorem dX12_enter_18 : decode cX12_enter 18 = .ok (.imul, 1) := by decide +kernel
theorem dX12_enter_19 : decode cX12_enter 19 = .ok (.iadd, 1) := by decide +kernel
theorem dX12_enter_20 : decode cX12_enter 20 = .ok (.iconst 3, 1) := by decide +kernel
theorem dX12_enter_21 : decode cX12_enter 21 = .ok (.invokevirtual 858, 3) := by decide +kernel
theorem dX12_enter_24 : decode cX12_enter 24 = .ok (.istore 7, 2) := by decide +kernel
theorem dX12_enter_26 : decode cX12_enter 26 = .ok (.aload_n 0, 1) := by decide +kernel
theorem dX12_enter_27 : decode cX12_enter 27 = .ok (.getfield 794, 3) := by decide +kernel
theorem dX12_enter_30 : decode cX12_enter 30 = .ok (.ifCond .eq 4, 3) := by decide +kernel
theorem dX12_enter_33 : decode cX12_enter 33 = .ok (.return_, 1) := by decide +kernel
theorem dX12_enter_34 : decode cX12_enter 34 = .ok (.aload_n 0, 1) := by decide +kernel
theorem dX12_enter_35 : decode cX12_enter 35 = .ok (.getfield 140, 3) := by decide +kernel
theorem dX12_enter_38 : decode cX12_enter 38 = .ok (.iload 7, 2) := by decide +kernel
theorem dX12_enter_40 : decode cX12_enter 40 = .ok (.aload_n 0, 1) := by decide +kernel
theorem dX12_enter_41 : decode cX12_enter 41 = .ok (.getfield 140, 3) := by decide +kernel
theorem dX12_enter_44 : decode cX12_enter 44 = .ok (.iload_n 1, 1) := by decide +kernel
theorem dX12_enter_45 : decode cX12_enter 45 = .ok (.iaload, 1) := by decide +kernel
theorem dX12_enter_46 : decode cX12_enter 46 = .ok (.iastore, 1) := by decide +kernel
theorem dX12_enter_47 : decode cX12_enter 47 = .ok (.iconst 0, 1) := by decide +kernel
theorem dX12_enter_48 : decode cX12_enter 48 = .ok (.istore 8, 2) := by decide +kernel
theorem dX12_enter_50 : decode cX12_enter 50 = .ok (.iload 8, 2) := by decide +kernel
theorem dX12_enter_52 : decode cX12_enter 52 = .ok (.aload_n 0, 1) := by decide +kernel
theorem dX12_enter_53 : decode cX12_enter 53 = .ok (.getfield 110, 3) := by decide +kernel
theorem dX12_enter_56 : decode cX12_enter 56 = .ok (.iload 6, 2) := by decide +kernel
theorem dX12_enter_58 : decode cX12_enter 58 = .ok (.iaload, 1) := by decide +kernel
theorem dX12_enter_59 : decode cX12_enter 59 = .ok (.if_icmp .ge 146, 3) := by decide +kernel
theorem dX12_enter_62 : decode cX12_enter 62 = .ok (.aload_n 0, 1) := by decide +kernel
theorem dX12_enter_63 : decode cX12_enter 63 = .ok (.getfield 107, 3) := by decide +kernel
theorem dX12_enter_66 : decode cX12_enter 66 = .ok (.bipush 100, 2) := by decide +kernel
theorem dX12_enter_68 : decode cX12_enter 68 = .ok (.iload 6, 2) := by decide +kernel
theorem dX12_enter_70 : decode cX12_enter 70 = .ok (.imul, 1) := by decide +kernel
theorem dX12_enter_71 : decode cX12_enter 71 = .ok (.iload 8, 2) := by decide +kernel
theorem dX12_enter_73 : decode cX12_enter 73 = .ok (.iadd, 1) := by decide +kernel
theorem dX12_enter_74 : decode cX12_enter 74 = .ok (.iaload, 1) := by decide +kernel
theorem dX12_enter_75 : decode cX12_enter 75 = .ok (.istore 9, 2) := by decide +kernel
theorem dX12_enter_77 : decode cX12_enter 77 = .ok (.iload 8, 2) := by decide +kernel
theorem dX12_enter_79 : decode cX12_enter 79 = .ok (.aload_n 0, 1) := by decide +kernel
theorem dX12_enter_80 : decode cX12_enter 80 = .ok (.getfield 71, 3) := by decide +kernel
theorem dX12_enter_83 : decode cX12_enter 83 = .ok (.iload 6, 2) := by decide +kernel
theorem dX12_enter_85 : decode cX12_enter 85 = .ok (.iaload, 1) := by decide +kernel
theorem dX12_enter_86 : decode cX12_enter 86 = .ok (.if_icmp .ge 7, 3) := by decide +kernel
theorem dX12_enter_89 : decode cX12_enter 89 = .ok (.iconst 1, 1) := by decide +kernel
theorem dX12_enter_90 : decode cX12_enter 90 = .ok (.goto 4, 3) := by decide +kernel
theorem dX12_enter_93 : decode cX12_enter 93 = .ok (.iconst 0, 1) := by decide +kernel
theorem dX12_enter_94 : decode cX12_enter 94 = .ok (.istore 10, 2) := by decide +kernel
theorem dX12_enter_96 : decode cX12_enter 96 = .ok (.iload 10, 2) := by decide +kernel
theorem dX12_enter_98 : decode cX12_enter 98 = .ok (.ifCond .ne 29, 3) := by decide +kernel
theorem dX12_enter_101 : decode cX12_enter 101 = .ok (.aload_n 0, 1) := by decide +kernel
theorem dX12_enter_102 : decode cX12_enter 102 = .ok (.getfield 65, 3) := by decide +kernel
theorem dX12_enter_105 : decode cX12_enter 105 = .ok (.iload 6, 2) := by decide +kernel
theorem dX12_enter_107 : decode cX12_enter 107 = .ok (.baload, 1) := by decide +kernel
theorem dX12_enter_108 : decode cX12_enter 108 = .ok (.ifCond .ne 19, 3) := by decide +kernel
theorem dX12_enter_111 : decode cX12_enter 111 = .ok (.iload 9, 2) := by decide +kernel
theorem dX12_enter_113 : decode cX12_enter 113 = .ok (.aload_n 0, 1) := by decide +kernel
theorem dX12_enter_114 : decode cX12_enter 114 = .ok (.getfield 62, 3) := by decide +kernel
theorem dX12_enter_117 : decode cX12_enter 117 = .ok (.iload 6, 2) := by decide +kernel
theorem dX12_enter_119 : decode cX12_enter 119 = .ok (.iaload, 1) := by decide +kernel
theorem dX12_enter_120 : decode cX12_enter 120 = .ok (.if_icmp .ne 7, 3) := by decide +kernel
theorem dX12_enter_123 : decode cX12_enter 123 = .ok (.iconst 1, 1) := by decide +kernel
theorem dX12_enter_124 : decode cX12_enter 124 = .ok (.goto 4, 3) := by decide +kernel
theorem dX12_enter_127 : decode cX12_enter 127 = .ok (.iconst 0, 1) := by decide +kernel
theorem dX12_enter_128 : decode cX12_enter 128 = .ok (.istore 11, 2) := by decide +kernel
theorem dX12_enter_130 : decode cX12_enter 130 = .ok (.iload 10, 2) := by decide +kernel
theorem dX12_enter_132 : decode cX12_enter 132 = .ok (.ifCond .eq 12, 3) := by decide +kernel
theorem dX12_enter_135 : decode cX12_enter 135 = .ok (.aload_n 0, 1) := by decide +kernel
theorem dX12_enter_136 : decode cX12_enter 136 = .ok (.iload 8, 2) := by decide +kernel
theorem dX12_enter_138 : decode cX12_enter 138 = .ok (.invokevirtual 1014, 3) := by decide +kernel
theorem dX12_enter_141 : decode cX12_enter 141 = .ok (.goto 14, 3) := by decide +kernel
theorem dX12_enter_144 : decode cX12_enter 144 = .ok (.iload 11, 2) := by decide +kernel
theorem dX12_enter_146 : decode cX12_enter 146 = .ok (.ifCond .eq 8, 3) := by decide +kernel
theorem dX12_enter_149 : decode cX12_enter 149 = .ok (.bipush 7, 2) := by decide +kernel
theorem dX12_enter_151 : decode cX12_enter 151 = .ok (.goto 4, 3) := by decide +kernel
theorem dX12_enter_154 : decode cX12_enter 154 = .ok (.iconst 0, 1) := by decide +kernel
theorem dX12_enter_155 : decode cX12_enter 155 = .ok (.istore 12, 2) := by decide +kernel
theorem dX12_enter_157 : decode cX12_enter 157 = .ok (.aload_n 0, 1) := by decide +kernel
theorem dX12_enter_158 : decode cX12_enter 158 = .ok (.iload 7, 2) := by decide +kernel
theorem dX12_enter_160 : decode cX12_enter 160 = .ok (.iload 9, 2) := by decide +kernel
theorem dX12_enter_162 : decode cX12_enter 162 = .ok (.iload 12, 2) := by decide +kernel
theorem dX12_enter_164 : decode cX12_enter 164 = .ok (.iload 10, 2) := by decide +kernel
theorem dX12_enter_166 : decode cX12_enter 166 = .ok (.ifCond .eq 12, 3) := by decide +kernel
theorem dX12_enter_169 : decode cX12_enter 169 = .ok (.aload_n 0, 1) := by decide +kernel
theorem dX12_enter_170 : decode cX12_enter 170 = .ok (.iload 8, 2) := by decide +kernel
theorem dX12_enter_172 : decode cX12_enter 172 = .ok (.invokevirtual 1017, 3) := by decide +kernel
theorem dX12_enter_175 : decode cX12_enter 175 = .ok (.goto 13, 3) := by decide +kernel
theorem dX12_enter_178 : decode cX12_enter 178 = .ok (.iload 11, 2) := by decide +kernel
theorem dX12_enter_180 : decode cX12_enter 180 = .ok (.ifCond .eq 7, 3) := by decide +kernel
theorem dX12_enter_183 : decode cX12_enter 183 = .ok (.iload_n 1, 1) := by decide +kernel
theorem dX12_enter_184 : decode cX12_enter 184 = .ok (.goto 4, 3) := by decide +kernel
theorem dX12_enter_187 : decode cX12_enter 187 = .ok (.iconst 0, 1) := by decide +kernel
theorem dX12_enter_188 : decode cX12_enter 188 = .ok (.invokevirtual 870, 3) := by decide +kernel
theorem dX12_enter_191 : decode cX12_enter 191 = .ok (.aload_n 0, 1) := by decide +kernel
theorem dX12_enter_192 : decode cX12_enter 192 = .ok (.getfield 794, 3) := by decide +kernel
theorem dX12_enter_195 : decode cX12_enter 195 = .ok (.ifCond .eq 4, 3) := by decide +kernel
theorem dX12_enter_198 : decode cX12_enter 198 = .ok (.return_, 1) := by decide +kernel
theorem dX12_enter_199 : decode cX12_enter 199 = .ok (.iinc 8 1, 3) := by decide +kernel
theorem dX12_enter_202 : decode cX12_enter 202 = .ok (.goto (-152), 3) := by decide +kernel
theorem dX12_enter_205 : decode cX12_enter 205 = .ok (.aload_n 0, 1) := by decide +kernel
theorem dX12_enter_206 : decode cX12_enter 206 = .ok (.iload 4, 2) := by decide +kernel
theorem dX12_enter_208 : decode cX12_enter 208 = .ok (.invokevirtual 882, 3) := by decide +kernel
theorem dX12_enter_211 : decode cX12_enter 211 = .ok (.aload_n 0, 1) := by decide +kernel
theorem dX12_enter_212 : decode cX12_enter 212 = .ok (.invokevirtual 888, 3) := by decide +kernel
theorem dX12_enter_215 : decode cX12_enter 215 = .ok (.aload_n 0, 1) := by decide +kernel
theorem dX12_enter_216 : decode cX12_enter 216 = .ok (.iload 6, 2) := by decide +kernel
theorem dX12_enter_218 : decode cX12_enter 218 = .ok (.iload 7, 2) := by decide +kernel
theorem dX12_enter_220 : decode cX12_enter 220 = .ok (.iload_n 2, 1) := by decide +kernel
theorem dX12_enter_221 : decode cX12_enter 221 = .ok (.iload_n 3, 1) := by decide +kernel
theorem dX12_enter_222 : decode cX12_enter 222 = .ok (.iload 5, 2) := by decide +kernel
theorem dX12_enter_224 : decode cX12_enter 224 = .ok (.invokevirtual 875, 3) := by decide +kernel
theorem dX12_enter_227 : decode cX12_enter 227 = .ok (.return_, 1) := by decide +kernel

def q_enter (p1 : Int) (p2 : Int) (p3 : Int) (p4 : Int) (p5 : Int) (S : sv_S) : Option Value → sv_S → Prop := fun v S' => v = none ∧ sm_ok S' ∧ sv_mod [1076, 41, 42, 43, 44, 45, 46, 47, 1075, 1100029, 1084, 1085, 48, 1086, 51, 52, 49, 50, 1100020, 1100021, 1100022, 58, 63, 64, 57, 1092, 53, 54, 55, 56, 59, 60] S S' ∧ (sm_PL (S' 1100020) (S' 51) (S' 52) (S' 46) (S' 47) (S' 1076 0) (S' 1086 0) ∧ sm_FR (S' 1100020) (S' 52) (S' 1100021) (S' 1100022) (3000 - (S' 1084 0)) (S' 1085 0) ∧ sm_PV (S' 1100020) (S' 48) (S' 49) (S' 50) (S' 44) (S' 1076 0) (S' 1007 0) ∧ sm_AL (S' 1100020) (S' 48) (S' 49) (S' 50) (S' 44) (S' 1076 0) (S' 1100032 0) ∧ sm_SV (S' 1100020) (S' 48) (S' 1100029) (S' 32) (S' 33) (S' 1076 0) (S' 1032 0) ∧ 0 ≤ (S' 1076 0) ∧ (S' 1076 0) ≤ 300 ∧ 0 ≤ (S' 1084 0) ∧ (S' 1084 0) ≤ 3000 ∧ 0 ≤ (S' 1086 0) ∧ sm_SC (S' 1100029) (S' 44) (S' 45) (S' 43) (S' 21) (S' 1076 0) (S' 1032 0) ∧ sm_PO (S' 42) (S' 1076 0) ∧ ((S' 1075 0) = 0 → (S' 1100032 0) = -1 ∧ sm_FO (S' 44) (S' 45) (S' 1076 0)) ∧ 23 ≤ (S' 1076 0) ∧ 31 ≤ (S' 1007 0) ∧ (S' 1007 0) ≤ 400 ∧ sm_LN (S' 4) 400 (S' 1007 0) ∧ (S' 1008 0) ≤ (S' 1007 0) ∧ ((S 1075 0) = 1 → (S' 1075 0) = 1) ∧ 0 ≤ (S' 1092 0) ∧ (S' 1092 0) ≤ 24 ∧ (S 1007 0) ≤ (S' 1007 0) ∧ (¬ (S' 1075 0) = 0 → sm_LX (S' 58) (S' 63) (S' 64) (S' 1092 0) (S' 1076 0)) ∧ ((S' 1075 0) = 0 → (S' 1073 0) = 1 → 1 ≤ (S' 1092 0) ∧ (S' 1092 0) ≤ 24 ∧ 0 ≤ (S' 57 ((S' 1092 0) - 1)) ∧ (S' 57 ((S' 1092 0) - 1)) < (S' 1046 0) ∧ (S' 29 (S' 57 ((S' 1092 0) - 1))) = (S' 53 ((S' 1092 0) - 1)) ∧ 0 ≤ (S' 53 ((S' 1092 0) - 1)) ∧ (S' 53 ((S' 1092 0) - 1)) < (S' 1032 0) ∧ (S' 60 ((S' 1092 0) - 1)) = sm_dp (S' 1100024) (S' 1100023 (S' 57 ((S' 1092 0) - 1))) ∧ sm_TC (S' 61) (S' 62) (S' 27) (S' 1100007) (S' 1100023) (S' 1100024) (40 * ((S' 1092 0) - 1)) (S' 1100023 (S' 57 ((S' 1092 0) - 1))) ∧ sm_LK (S' 1100029) (S' 1076 0) (S' 54 ((S' 1092 0) - 1)) (S' 53 ((S' 1092 0) - 1)) ∧ sm_VO (S' 44) (S' 1076 0) (S' 1007 0) ((S' 55 ((S' 1092 0) - 1))) ((S' 56 ((S' 1092 0) - 1))) ∧ sm_FW (S' 44) (S' 1076 0) (S' 59 ((S' 1092 0) - 1)) ∧ sm_FL (S' 53) (S' 54) (S' 55) (S' 56) (S' 57) (S' 58) (S' 59) (S' 60) (S' 61) (S' 62) (S' 63) (S' 64) (S' 27) (S' 29) (S' 1100007) (S' 1100023) (S' 1100024) (S' 1100025) (S' 26) (S' 1100029) (S' 44) (S' 1046 0) (S' 1032 0) (S' 1076 0) (S' 1007 0) (((S' 1092 0) - 1)) ∧ (S' 58 ((S' 1092 0) - 1)) = (S' 1100007 (S' 57 ((S' 1092 0) - 1))) ∧ sm_SK (S' 63) (S' 64) (S' 44) (S' 1100007) (S' 1100025) (S' 1076 0) (S' 1007 0) (400 * ((S' 1092 0) - 1)) ((S' 58 ((S' 1092 0) - 1))) ((S' 1100025 (S' 57 ((S' 1092 0) - 1))))) ∧ ((S' 1073 0) = 1 ∨ (S' 1092 0) = 0 ∧ (S' 1075 0) = 0 ∧ ((S' 1073 0) = 2 ∨ (S' 1073 0) = 3)) ∧ (S 1086 0) ≤ (S' 1086 0) ∧ (S' 1086 0) ≤ (S 1086 0) + 110)
theorem la_enter_0 {x0 : Int} (h0 : x0 = 1) : ¬ x0 = 3 := by omega
theorem la_enter_1 : ¬ (7 : Int) = 6 := by omega
theorem la_enter_2 : (7 : Int) = 7 := by omega
theorem la_enter_3 {x0 : Int} (h0 : x0 = 1) : x0 ≤ 3 := by omega
theorem la_enter_4 {x0 : Int} (h0 : x0 ≤ 3) (h1 : ¬ x0 = 3) : x0 < 3 := by omega
theorem la_enter_5 {x0 x1 : Int} (h0 : x0 ≤ 300) (h1 : 0 ≤ x1) (h2 : x1 < x0) : 0 ≤ x1 ∧ x1 < 300 := by omega
theorem la_enter_6 {x0 x1 : Int} (h0 : x0 ≤ 11) (h1 : 1 ≤ x1) (h2 : x1 < x0) : sv_R (29 + 6 * (x1 - 1)) := by omega
theorem la_enter_7 {x0 x1 x2 x3 : Int} (h0 : x0 ≤ 11) (h1 : 1 ≤ x1) (h2 : x1 < x0) : (((-1) : Int) = (-1) ∨ (0 : Int) ≤ (-1) ∧ (-1) < x2 ∨ x2 = 0 ∧ ((-1) : Int) = 1) ∧ (x2 = 1 → ((-1) : Int) = (-1)) ∧ 0 ≤ 29 + 6 * (x1 - 1) ∧ 29 + 6 * (x1 - 1) ≤ 1000 ∧ (0 : Int) ≤ 3 ∧ (3 : Int) ≤ 3 ∧ ((3 : Int) = 2 → x3 = x2) := by omega
theorem la_enter_8 {x0 : Int} (h0 : x0 = 0) : ¬ x0 = 1 := by omega
theorem la_enter_9 {x0 : Int} : ¬ (3 : Int) = 1 ∨ 9 ≤ x0 ∧ x0 < 23 := by omega
theorem la_enter_10 {x0 : Int} (h0 : 23 ≤ x0) : 1 ≤ x0 ∨ x0 = 0 ∧ (3 : Int) = 0 := by omega
theorem la_enter_11 {x0 x1 x2 : Int} (h0 : x0 < x1) (h1 : x0 = x2) : ¬ x1 = x2 := by omega
theorem la_enter_12 {x0 x1 x2 : Int} (h0 : x0 ≤ 300) (h1 : x1 < x0) (h2 : x1 = x2) : x2 < 300 := by omega
theorem la_enter_13 {x0 x1 x2 : Int} (h0 : 23 ≤ x0) (h1 : x1 ≤ 300) (h2 : x2 < x1) (h3 : x2 = x0) : 0 ≤ x2 ∧ x2 < 300 := by omega
theorem la_enter_14 {x0 x1 : Int} (h0 : x0 = 3) : x1 < 1 ∨ ¬ x0 = 1 := by omega
theorem la_enter_15 {x0 : Int} (h0 : x0 = 0) : x0 < 1 := by omega
theorem la_enter_16 : (0 : Int) ≤ 0 := by omega
theorem la_enter_17 {x0 : Int} (h0 : 1 ≤ x0) : 0 ≤ x0 := by omega
theorem la_enter_18 {x0 x1 : Int} (h0 : x0 = x1) : x1 = x0 := by omega
theorem la_enter_19 {x0 : Int} : x0 ≤ x0 := by omega
theorem la_enter_20 {x0 : Int} : x0 ≤ x0 + 0 := by omega
theorem la_enter_21 {x0 x1 : Int} (h0 : x0 ≤ x1) : 0 ≤ x1 - x0 := by omega
theorem la_enter_22 {x0 x1 : Int} (h0 : x0 ≤ 11) (h1 : 1 ≤ x1) (h2 : x1 < x0) : 0 ≤ x1 ∧ x1 < 12 := by omega
theorem la_enter_23 {x0 x1 x2 : Int} (h0 : 1 ≤ x0) (h1 : x1 ≤ 396) (h2 : 1 ≤ x2) (h3 : x2 ≤ x1) (h4 : x0 ≤ 23) : 1 ≤ x0 ∧ x0 ≤ 24 ∧ 0 ≤ x1 ∧ x1 ≤ 400 ∧ 0 ≤ x2 ∧ x2 ≤ x1 := by omega
theorem la_enter_24 {x0 x1 x2 x3 : Int} (h0 : x0 ≤ 600) (h1 : 1 ≤ x1) (h2 : 0 ≤ x2) (h3 : x3 = x2) (h4 : x2 + 1 < x0) (h5 : x1 ≤ 23) : 1 ≤ x1 ∧ x1 ≤ 24 ∧ 0 ≤ x3 ∧ x3 ≤ 600 := by omega
theorem la_enter_25 {x0 x1 : Int} (h0 : x0 = x1) : x1 ≤ x0 := by omega
theorem la_enter_26 {x0 x1 x2 : Int} (h0 : x0 = x1) (h1 : x2 = x0 + 1) : x2 = x1 + 1 := by omega
theorem la_enter_27 {x0 x1 x2 x3 x4 x5 x6 x7 x8 x9 : Int} (h0 : 0 ≤ x0) (h1 : x1 = x2) (h2 : 0 ≤ x2) (h3 : x2 < x3) (h4 : x4 ≤ 396) (h5 : 1 ≤ x5) (h6 : x5 ≤ x4) (h7 : x0 + 1 < x6) (h8 : x7 = x1) (h9 : x8 = x4 + 1 - x5) (h10 : x9 = x4 - x5) : 0 ≤ x2 ∧ x2 < x3 ∧ 0 ≤ x0 + 1 ∧ x0 + 1 < x6 ∧ x7 = x2 ∧ x9 = x8 - 1 ∧ 0 ≤ x9 ∧ x9 ≤ 396 := by omega
theorem la_enter_28 {x0 x1 x2 : Int} (h0 : x0 = x1) (h1 : x2 = x1) : x0 = x2 := by omega
theorem la_enter_29 {x0 x1 x2 : Int} (h0 : 1 ≤ x0) (h1 : x1 = x2 - x0) : x1 ≤ x2 := by omega
theorem la_enter_30 {x0 x1 x2 : Int} (h0 : x0 ≤ 11) (h1 : 1 ≤ x1) (h2 : x1 ≤ 23) (h3 : 1 ≤ x2) (h4 : x2 < x0) : 0 ≤ x1 ∧ x1 < 24 ∧ 0 ≤ x2 ∧ x2 ≤ 11 := by omega
theorem la_enter_31 {x0 x1 : Int} (h0 : 1 ≤ x0) (h1 : x0 < x1) : 1 ≤ x0 ∧ x0 < x1 := by omega
theorem la_enter_32 {x0 : Int} : x0 = x0 := by omega
theorem la_enter_33 {x0 : Int} : ¬ x0 - 1 = x0 := by omega
theorem la_enter_34 {x0 : Int} : ¬ ¬ x0 - 1 = x0 - 1 := by omega
theorem la_enter_35 {x0 : Int} : ¬ ¬ x0 = x0 := by omega
theorem la_enter_36 {x0 x1 : Int} (h0 : x0 = x1 + 1) : ¬ ¬ x0 - 1 = x1 := by omega
theorem la_enter_37 {x0 x1 : Int} (h0 : x0 = x1 + 1) : x1 = x0 - 1 := by omega
theorem la_enter_38 {x0 x1 : Int} (h0 : 23 ≤ x0) (h1 : x1 = x0 + 1) : 23 ≤ x1 := by omega
theorem la_enter_39 {x0 x1 : Int} (h0 : x0 = 0) (h1 : x1 = 0) : x0 = 1 → x1 = 1 := by omega
theorem la_enter_40 {x0 x1 : Int} (h0 : 1 ≤ x0) (h1 : x1 = x0 + 1) : 0 ≤ x1 := by omega
theorem la_enter_41 {x0 x1 : Int} (h0 : x0 ≤ 23) (h1 : x1 = x0 + 1) : x1 ≤ 24 := by omega
theorem la_enter_42 {x0 : Int} (h0 : x0 = 0) : x0 ≤ 0 := by omega
theorem la_enter_43 {x0 : Int} (h0 : x0 ≤ 0) (h1 : ¬ x0 = 0) : x0 < 0 := by omega
theorem la_enter_44 {x0 x1 x2 : Int} (h0 : x0 = x1) (h1 : x0 = x2) : x2 = x1 := by omega
theorem la_enter_45 {x0 x1 : Int} (h0 : x0 = (-1)) (h1 : x1 = x0) : x1 < 0 := by omega
theorem la_enter_46 {x0 : Int} (h0 : x0 = 0) (h1 : x0 < 0) : False := by omega
theorem la_enter_47 {x0 x1 : Int} (h0 : 1 ≤ x0) (h1 : x1 = x0 + 1) : 1 ≤ x1 := by omega
theorem la_enter_48 {x0 x1 x2 : Int} (h0 : x0 = x1) (h1 : 0 ≤ x1) (h2 : x0 = x2) : 0 ≤ x2 := by omega
theorem la_enter_49 {x0 x1 x2 x3 : Int} (h0 : x0 = x1) (h1 : x1 < x2) (h2 : x0 = x3) : x3 < x2 := by omega
theorem la_enter_50 {x0 x1 x2 x3 x4 : Int} (h0 : x0 = x1) (h1 : x2 = x1) (h2 : x0 = x3) (h3 : x4 = x2) : x4 = x3 := by omega
theorem la_enter_51 {x0 x1 x2 : Int} (h0 : 1 ≤ x0) (h1 : x1 = x0) (h2 : x1 = x2) : 0 ≤ x2 := by omega
theorem la_enter_52 {x0 x1 x2 x3 : Int} (h0 : x0 < x1) (h1 : x2 = x0) (h2 : x2 = x3) : x3 < x1 := by omega
theorem la_enter_53 {x0 x1 x2 : Int} (h0 : x0 = 0) (h1 : x0 = x1) (h2 : x2 = 0) : x1 = x2 := by omega
theorem la_enter_54 {x0 x1 : Int} (h0 : x0 = x1 + 1) : x0 - 1 ≤ x1 := by omega
theorem la_enter_55 {x0 x1 x2 x3 : Int} (h0 : x0 = 0) (h1 : x1 = 0) (h2 : x0 = x2) (h3 : x3 = x1) : x2 = x3 := by omega
theorem la_enter_56 {x0 x1 : Int} (h0 : x0 = 0) (h1 : x0 = x1) : x1 ≤ 0 := by omega
theorem la_enter_57 {x0 x1 x2 x3 : Int} (h0 : x0 = 1) (h1 : 1 ≤ x1) (h2 : x2 = 0) (h3 : x3 = x1 + 1) : x0 = 1 ∨ x3 = 0 ∧ x2 = 0 ∧ (x0 = 2 ∨ x0 = 3) := by omega
theorem la_enter_58 {x0 x1 x2 x3 : Int} (h0 : x0 ≤ x1) (h1 : x2 ≤ x3 + x0) (h2 : x1 ≤ 100) : x2 ≤ x3 + 110 := by omega
theorem la_enter_59 {x0 x1 : Int} (h0 : ¬ x0 ≤ x1) : x1 < x0 := by omega
theorem la_enter_60 {x0 x1 : Int} (h0 : 1 ≤ x0) (h1 : 0 ≤ x1) : 0 ≤ 100 * x0 + x1 := by omega
theorem la_enter_61 {x0 x1 x2 x3 : Int} (h0 : x0 ≤ 11) (h1 : x1 < x0) (h2 : ¬ x2 ≤ x3) (h3 : x2 ≤ 100) : 100 * x1 + x3 < 1200 := by omega
theorem la_enter_62 {x0 : Int} (h0 : x0 = 0) : ¬ ¬ x0 = 0 := by omega
theorem la_enter_63 {x0 x1 : Int} (h0 : 0 ≤ x0) (h1 : x0 = x1) : 0 ≤ x1 := by omega
theorem la_enter_64 {x0 x1 x2 x3 : Int} (h0 : x0 ≤ x1) (h1 : x2 < x0) (h2 : x2 = x3) : x3 < x1 := by omega
theorem la_enter_65 {x0 : Int} (h0 : x0 = 0) : 0 ≤ x0 := by omega
theorem la_enter_66 {x0 : Int} (h0 : x0 = 0) : x0 ≤ 7 := by omega
theorem la_enter_67 {x0 x1 : Int} (h0 : 31 ≤ x0) : x1 = 6 → (0 : Int) ≤ 0 ∧ 0 < x0 := by omega
theorem la_enter_68 {x0 x1 x2 x3 : Int} (h0 : 23 ≤ x0) (h1 : x1 = x0 + 1) (h2 : x2 = 0) : x2 = 7 → (0 : Int) ≤ 0 ∧ 0 < x1 ∧ ¬ x3 = 3 := by omega
theorem la_enter_69 {x0 x1 x2 : Int} (h0 : x0 = 3) (h1 : x1 = 0) : x0 = 2 → x2 = 0 → x1 = 5 ∧ (0 : Int) ≤ 0 ∧ (0 : Int) ≤ 100 := by omega
theorem la_enter_70 {x0 x1 x2 x3 : Int} (h0 : x0 ≤ 1900000000) (h1 : x1 ≤ x0 + x2) (h2 : ¬ x3 ≤ x2) (h3 : x3 ≤ 100) : x1 < 2000000000 := by omega
theorem la_enter_71 {x0 x1 : Int} (h0 : 0 ≤ x0) (h1 : sv_R x1) (h2 : ¬ x1 ≤ x0) : sv_R (x0 + 1) := by omega
theorem la_enter_72 {x0 : Int} (h0 : 0 ≤ x0) : 0 ≤ x0 + 1 := by omega
theorem la_enter_73 {x0 x1 : Int} (h0 : ¬ x0 ≤ x1) : x1 + 1 ≤ x0 := by omega
theorem la_enter_74 {x0 : Int} : x0 + 1 = x0 + 1 := by omega
theorem la_enter_75 {x0 x1 x2 x3 : Int} (h0 : x0 ≤ x1) (h1 : x1 ≤ x0 + x2) (h2 : x1 ≤ x3) (h3 : x3 ≤ x1 + 1) : x0 ≤ x3 ∧ x3 ≤ x0 + (x2 + 1) := by omega
theorem la_enter_76 {x0 x1 : Int} : x0 - (x1 + 1) < x0 - x1 := by omega
theorem la_enter_77 {x0 : Int} (h0 : 0 ≤ x0) (h1 : ¬ x0 = 0) : 0 < x0 := by omega
theorem la_enter_78 {x0 x1 : Int} (h0 : x0 = 0) (h1 : 0 < x1) : ¬ x1 = x0 := by omega
theorem la_enter_79 {x0 x1 : Int} (h0 : x0 = 0) (h1 : 0 < x1) : x0 = 1 → x1 = 1 := by omega
theorem la_enter_80 {x0 x1 : Int} (h0 : 0 ≤ x0) (h1 : x1 = x0) : 0 ≤ x1 := by omega
theorem la_enter_81 {x0 x1 x2 : Int} (h0 : x0 = x1) (h1 : x1 + 1 < x2) : x0 < x2 := by omega
theorem la_enter_82 {x0 x1 x2 : Int} (h0 : x0 = x1) (h1 : x2 = x0) : x2 = x1 := by omega
theorem la_enter_83 {x0 x1 x2 : Int} (h0 : x0 = x1) (h1 : x2 = x1) : x2 = x0 := by omega
theorem la_enter_84 {x0 : Int} : x0 = x0 - 1 + 1 := by omega
theorem la_enter_85 {x0 x1 x2 : Int} (h0 : x0 = 1) (h1 : 1 ≤ x1) (h2 : 0 < x2) : x0 = 1 ∨ x1 = 0 ∧ x2 = 0 ∧ (x0 = 2 ∨ x0 = 3) := by omega
theorem la_enter_86 {x0 x1 x2 : Int} (h0 : x0 ≤ x1) (h1 : x1 ≤ x2) : x0 ≤ x2 := by omega
theorem la_enter_87 {x0 x1 x2 x3 x4 : Int} (h0 : x0 ≤ x1 + x2) (h1 : ¬ x3 ≤ x2) (h2 : x4 ≤ x0 + 1) (h3 : x3 ≤ 100) : x4 ≤ x1 + 110 := by omega
theorem la_enter_88 {x0 : Int} (h0 : x0 = 1) : 0 ≤ x0 := by omega
theorem la_enter_89 {x0 x1 x2 x3 : Int} (h0 : x0 = 3) (h1 : x1 = 7) : x0 = 2 → x2 = 0 → x1 = 5 ∧ 0 ≤ x3 ∧ x3 ≤ 100 := by omega
theorem la_enter_90 {x0 x1 x2 x3 x4 x5 : Int} (h0 : 1 ≤ x0) (h1 : x1 ≤ 396) (h2 : x2 ≤ x1) (h3 : x3 ≤ x2 - 1) (h4 : x4 + x3 = 400 * (x0 - 1) + x1) (h5 : x0 ≤ 23) (h6 : 0 ≤ x5) : x5 < x3 → 0 ≤ x4 + x5 ∧ x4 + x5 < 9600 := by omega
theorem la_enter_91 {x0 x1 x2 x3 : Int} (h0 : x0 = 3) : x0 = 2 → x1 = 0 → x2 = 5 ∧ 0 ≤ x3 ∧ x3 ≤ 100 := by omega
theorem la_enter_92 {x0 x1 x2 x3 x4 : Int} : x0 = 0 → (x1 = 0 → (¬ x0 = 0 → (x2 < x3 → 0 = x4) ∧ (¬ x2 < x3 → (0 : Int) = 0)) ∧ (x0 = 0 → ¬ x1 = 0 → (0 : Int) = 7) ∧ (x0 = 0 → x1 = 0 → (0 : Int) = 0)) ∧ (¬ x1 = 0 → (¬ x0 = 0 → (x2 < x3 → 7 = x4) ∧ (¬ x2 < x3 → (7 : Int) = 0)) ∧ (x0 = 0 → ¬ x1 = 0 → (7 : Int) = 7) ∧ (x0 = 0 → x1 = 0 → (7 : Int) = 0)) := by omega
theorem la_enter_93 {x0 x1 x2 x3 x4 : Int} (h0 : x0 = 1) (h1 : x1 < x2 → x3 = x4) (h2 : ¬ x1 < x2 → x3 = 0) : ¬ x0 = 0 → (x1 < x2 → x3 = x4) ∧ (¬ x1 < x2 → x3 = 0) := by omega
theorem la_enter_94 {x0 x1 x2 : Int} (h0 : x0 = 1) : x0 = 0 → ¬ x1 = 0 → x2 = 7 := by omega
theorem la_enter_95 {x0 : Int} (h0 : 0 < x0) (h1 : x0 = 0) : False := by omega
theorem la_enter_96 {x0 : Int} : ¬ x0 = 0 → (0 : Int) = 0 ∨ (0 : Int) = 1 := by omega
theorem la_enter_97 {x0 : Int} (h0 : ¬ ¬ x0 = 0) : ¬ x0 = 1 := by omega
theorem la_enter_98 {x0 x1 : Int} : ¬ x0 = x1 → (0 : Int) = 0 ∨ (0 : Int) = 1 := by omega
theorem la_enter_99 : (1 : Int) = 0 ∨ (1 : Int) = 1 := by omega
theorem la_enter_100 {x0 x1 : Int} : x0 ≤ x1 → (0 : Int) = 0 ∨ (0 : Int) = 1 := by omega
theorem la_enter_101 {x0 : Int} (h0 : x0 ≤ 1) (h1 : 0 < x0) : x0 = 1 := by omega
theorem la_enter_102 {x0 x1 : Int} (h0 : 0 < x0) (h1 : x0 = 0) : x1 = 6 := by omega
theorem la_enter_103 {x0 x1 : Int} (h0 : x0 ≤ 7) (h1 : 0 < x1) (h2 : x1 = 0) : x0 = 7 := by omega
theorem la_enter_104 {x0 x1 : Int} (h0 : 0 < x0) (h1 : x0 = 0) : x1 < 300 := by omega
theorem la_enter_105 {x0 x1 : Int} (h0 : 23 ≤ x0) (h1 : x0 ≤ x1) : 23 ≤ x1 := by omega
theorem la_enter_106 {x0 x1 x2 x3 : Int} (h0 : x0 = x1) (h1 : x0 = x1 + 1) : x2 = x3 := by omega
theorem la_enter_107 {x0 x1 : Int} (h0 : x0 = 1) (h1 : x0 = x1) : x1 ≤ 3 := by omega
theorem la_enter_108 {x0 x1 : Int} (h0 : x0 = 1) (h1 : x1 = x0) : x1 ≤ 3 := by omega
theorem la_enter_109 {x0 : Int} : x0 ≤ x0 + 110 := by omega
set_option maxHeartbeats 8000000 in
theorem f_enter : ∀ (p1 : Int) (p2 : Int) (p3 : Int) (p4 : Int) (p5 : Int) (S : sv_S), sm_ok S → sv_R p1 → sv_R p2 → sv_R p3 → sv_R p4 → sv_R p5 → ((S 1075 0) = 0 ∧ (S 1073 0) = 1 ∧ sm_LX (S 58) (S 63) (S 64) (S 1092 0) (S 1076 0) ∧ sm_PL (S 1100020) (S 51) (S 52) (S 46) (S 47) (S 1076 0) (S 1086 0) ∧ sm_FR (S 1100020) (S 52) (S 1100021) (S 1100022) (3000 - (S 1084 0)) (S 1085 0) ∧ sm_PV (S 1100020) (S 48) (S 49) (S 50) (S 44) (S 1076 0) (S 1007 0) ∧ sm_AL (S 1100020) (S 48) (S 49) (S 50) (S 44) (S 1076 0) (S 1100032 0) ∧ sm_SV (S 1100020) (S 48) (S 1100029) (S 32) (S 33) (S 1076 0) (S 1032 0) ∧ 0 ≤ (S 1076 0) ∧ (S 1076 0) ≤ 300 ∧ 0 ≤ (S 1084 0) ∧ (S 1084 0) ≤ 3000 ∧ 0 ≤ (S 1086 0) ∧ sm_SC (S 1100029) (S 44) (S 45) (S 43) (S 21) (S 1076 0) (S 1032 0) ∧ sm_PO (S 42) (S 1076 0) ∧ (S 1100032 0) = -1 ∧ sm_FO (S 44) (S 45) (S 1076 0) ∧ 23 ≤ (S 1076 0) ∧ 31 ≤ (S 1007 0) ∧ (S 1007 0) ≤ 400 ∧ sm_LN (S 4) 400 (S 1007 0) ∧ sm_CT (S 26) (S 27) (S 28) (S 29) (S 1100007) (S 1100023) (S 1100024) (S 1100025) (S 21) (S 1046 0) (S 1032 0) (S 1008 0) (S 1055 0) ∧ sm_LS (S 26) (S 1100007) (S 1100025) (S 1046 0) ∧ sm_CL (S 1100007) (S 1100023) (S 1100025) (S 1046 0) ∧ 1 ≤ (S 1032 0) ∧ (S 1032 0) ≤ 11 ∧ 0 ≤ (S 1046 0) ∧ (S 1046 0) ≤ 600 ∧ 31 ≤ (S 1008 0) ∧ (S 1008 0) ≤ (S 1007 0) ∧ 0 ≤ (S 1055 0) ∧ (S 1055 0) ≤ 19 ∧ 1 ≤ (S 1092 0) ∧ (S 1092 0) ≤ 24 ∧ 0 ≤ (S 1100033 0) ∧ (S 1100033 0) < (S 1046 0) ∧ (S 29 (S 1100033 0)) = (S 53 ((S 1092 0) - 1)) ∧ 0 ≤ (S 53 ((S 1092 0) - 1)) ∧ (S 53 ((S 1092 0) - 1)) < (S 1032 0) ∧ (S 60 ((S 1092 0) - 1)) = sm_dp (S 1100024) (S 1100023 (S 1100033 0)) ∧ sm_TC (S 61) (S 62) (S 27) (S 1100007) (S 1100023) (S 1100024) (40 * ((S 1092 0) - 1)) (S 1100023 (S 1100033 0)) ∧ sm_LK (S 1100029) (S 1076 0) (S 54 ((S 1092 0) - 1)) (S 53 ((S 1092 0) - 1)) ∧ sm_VO (S 44) (S 1076 0) (S 1007 0) ((S 55 ((S 1092 0) - 1))) ((S 56 ((S 1092 0) - 1))) ∧ sm_FW (S 44) (S 1076 0) (S 59 ((S 1092 0) - 1)) ∧ sm_FL (S 53) (S 54) (S 55) (S 56) (S 57) (S 58) (S 59) (S 60) (S 61) (S 62) (S 63) (S 64) (S 27) (S 29) (S 1100007) (S 1100023) (S 1100024) (S 1100025) (S 26) (S 1100029) (S 44) (S 1046 0) (S 1032 0) (S 1076 0) (S 1007 0) (((S 1092 0) - 1)) ∧ (S 57 ((S 1092 0) - 1)) = (S 1100033 0) ∧ 0 ≤ (S 58 ((S 1092 0) - 1)) ∧ (S 58 ((S 1092 0) - 1)) ≤ 400 ∧ sm_SK (S 63) (S 64) (S 44) (S 1100007) (S 1100025) (S 1076 0) (S 1007 0) (400 * ((S 1092 0) - 1)) ((S 58 ((S 1092 0) - 1))) ((S 1100034 0)) ∧ -1 ≤ (S 1100034 0) ∧ (S 1100034 0) < (S 1046 0) ∧ (0 ≤ (S 1100034 0) → (S 26 (S 1100034 0)) = 29) ∧ (S 58 ((S 1092 0) - 1)) = (S 1100007 (S 1100033 0)) ∧ (S 1100034 0) = (S 1100025 (S 1100033 0)) ∧ (0 ≤ (S 1100023 (S 1100033 0)) → (S 1100007 (S 1100023 (S 1100033 0))) ≤ (S 58 ((S 1092 0) - 1))) ∧ (S 58 ((S 1092 0) - 1)) ≤ 396 ∧ 1 ≤ p4 ∧ p4 ≤ (S 58 ((S 1092 0) - 1)) ∧ (0 ≤ (S 1100034 0) → (S 1100007 (S 1100034 0)) ≤ (S 58 ((S 1092 0) - 1)) - p4) ∧ (S 1100033 0) + 1 < (S 1046 0) ∧ (S 29 ((S 1100033 0) + 1)) = (S 29 (S 1100033 0)) ∧ (S 1100007 ((S 1100033 0) + 1)) = (S 58 ((S 1092 0) - 1)) + 1 - p4 ∧ (S 1100023 ((S 1100033 0) + 1)) = (S 1100023 (S 1100033 0)) ∧ (S 1100025 ((S 1100033 0) + 1)) = (S 1100034 0) ∧ (0 ≤ (S 1100023 (S 1100033 0)) → (S 1100007 (S 1100023 (S 1100033 0))) ≤ (S 58 ((S 1092 0) - 1)) - p4) ∧ 0 ≤ (S 1115 0) ∧ (S 1115 0) ≤ p4 - 1 ∧ (S 1114 0) + (S 1115 0) = (400 * ((S 1092 0) - 1) + (S 58 ((S 1092 0) - 1))) ∧ (∀ g : Int, 0 ≤ g → g < (S 1032 0) → 0 ≤ (S 30 g) ∧ (S 30 g) < (S 1046 0) ∧ (S 1100007 (S 30 g)) = 0 ∧ (S 1100023 (S 30 g)) = -1 ∧ 0 ≤ (S 33 g) ∧ (S 33 g) ≤ 100 ∧ 0 ≤ (S 20 g) ∧ (S 20 g) ≤ 8) ∧ sm_VN (S 32) (S 33) (S 1032 0) (S 1008 0) ∧ (∀ f : Int, 0 ≤ f → f < (S 1032 0) → 0 ≤ (S 30 f) ∧ (S 30 f) < (S 1046 0) ∧ (S 29 (S 30 f)) = f ∧ (S 1100007 (S 30 f)) = 0 ∧ (S 1100023 (S 30 f)) = -1 ∧ (S 1100025 (S 30 f)) = -1) ∧ (S 1086 0) ≤ 1900000000 ∧ (S 1092 0) ≤ 23 ∧ 0 ≤ p1 ∧ p1 < (S 1076 0) ∧ (S 44 p1) = 1 ∧ 1 ≤ (S 45 p1) ∧ sm_VO (S 44) (S 1076 0) (S 1007 0) (p2) (p3) ∧ sm_FW (S 44) (S 1076 0) p5) → ((sm_SC (S 1100029) (S 44) (S 45) (S 43) (S 21) (S 1076 0) (S 1032 0) → 0 ≤ p1 → p1 < (S 1076 0) → (S 44 p1) = 1 → 1 ≤ (S 45 p1) → (S 45 p1) < (S 1032 0) ∧ sm_LK (S 1100029) (S 1076 0) (S 43 p1) (S 21 (S 45 p1))) → ((0 ≤ p1 → p1 < (S 1076 0) → ¬ (S 44 p1) = 3 → sm_VO (S 44) (S 1076 0) (S 1007 0) (7) (p1)) → (((S 1100023 ((S 1100033 0) + 1)) = (S 1100023 (S 1100033 0)) → sm_dp (S 1100024) (S 1100023 ((S 1100033 0) + 1)) = sm_dp (S 1100024) (S 1100023 (S 1100033 0))) → (((S 1100025 ((S 1100033 0) + 1)) = (S 1100034 0) → (0 ≤ (S 1100034 0) → (S 1100007 (S 1100034 0)) ≤ (S 58 ((S 1092 0) - 1)) - p4) → (0 ≤ (S 1100025 ((S 1100033 0) + 1)) → (S 1100007 (S 1100025 ((S 1100033 0) + 1))) ≤ (S 58 ((S 1092 0) - 1)) - p4)) → (((S 1100023 ((S 1100033 0) + 1)) = (S 1100023 (S 1100033 0)) → (0 ≤ (S 1100023 (S 1100033 0)) → (S 1100007 (S 1100023 (S 1100033 0))) ≤ (S 58 ((S 1092 0) - 1)) - p4) → (0 ≤ (S 1100023 ((S 1100033 0) + 1)) → (S 1100007 (S 1100023 ((S 1100033 0) + 1))) ≤ (S 58 ((S 1092 0) - 1)) - p4)) → (0 ≤ p1 ∧ p1 < 300) ∧ (sv_R (S 45 p1) → (sv_R ((29 : Int) + ((6 : Int) * ((S 45 p1) - (1 : Int))))) ∧ (sm_PL (S 1100020) (S 51) (S 52) (S 46) (S 47) (S 1076 0) (S 1086 0) ∧ sm_FR (S 1100020) (S 52) (S 1100021) (S 1100022) (3000 - (S 1084 0)) (S 1085 0) ∧ sm_PV (S 1100020) (S 48) (S 49) (S 50) (S 44) (S 1076 0) (S 1007 0) ∧ sm_AL (S 1100020) (S 48) (S 49) (S 50) (S 44) (S 1076 0) (S 1100032 0) ∧ sm_SV (S 1100020) (S 48) (S 1100029) (S 32) (S 33) (S 1076 0) (S 1032 0) ∧ 0 ≤ (S 1076 0) ∧ (S 1076 0) ≤ 300 ∧ 0 ≤ (S 1084 0) ∧ (S 1084 0) ≤ 3000 ∧ 0 ≤ (S 1086 0) ∧ sm_SC (S 1100029) (S 44) (S 45) (S 43) (S 21) (S 1076 0) (S 1032 0) ∧ sm_PO (S 42) (S 1076 0) ∧ ((-1 : Int) = -1 ∨ (0 ≤ (-1 : Int) ∧ (-1 : Int) < (S 1076 0)) ∨ ((S 1076 0) = 0 ∧ (-1 : Int) = 1)) ∧ ((S 1076 0) = 1 → (-1 : Int) = -1) ∧ 0 ≤ ((29 : Int) + ((6 : Int) * ((S 45 p1) - (1 : Int)))) ∧ ((29 : Int) + ((6 : Int) * ((S 45 p1) - (1 : Int)))) ≤ 1000 ∧ 0 ≤ (3 : Int) ∧ (3 : Int) ≤ 3 ∧ ((3 : Int) = 2 → (S 1100032 0) = (S 1076 0))) ∧ (∀ r14 : Int, sv_R r14 → ∀ g10 : sv_S, (sm_PL (S 1100020) (S 51) (S 52) (g10 46) (g10 47) (g10 1076 0) (S 1086 0) ∧ sm_FR (S 1100020) (S 52) (S 1100021) (S 1100022) (3000 - (S 1084 0)) (S 1085 0) ∧ sm_PV (S 1100020) (S 48) (S 49) (S 50) (g10 44) (g10 1076 0) (S 1007 0) ∧ sm_AL (S 1100020) (S 48) (S 49) (S 50) (g10 44) (g10 1076 0) (S 1100032 0) ∧ sm_SV (S 1100020) (S 48) (g10 1100029) (S 32) (S 33) (g10 1076 0) (S 1032 0) ∧ 0 ≤ (g10 1076 0) ∧ (g10 1076 0) ≤ 300 ∧ 0 ≤ (S 1084 0) ∧ (S 1084 0) ≤ 3000 ∧ 0 ≤ (S 1086 0) ∧ sm_SC (g10 1100029) (g10 44) (g10 45) (g10 43) (S 21) (g10 1076 0) (S 1032 0) ∧ sm_PO (g10 42) (g10 1076 0) ∧ 0 ≤ r14 ∧ r14 < (g10 1076 0) ∧ ((S 1075 0) = 1 → (g10 1075 0) = 1) ∧ (S 1076 0) ≤ (g10 1076 0) ∧ sm_F1 (S 44) (g10 44) (S 1076 0) ∧ sm_F1 (S 1100029) (g10 1100029) (S 1076 0) ∧ sm_F1 (S 42) (g10 42) (S 1076 0) ∧ sm_F1 (S 43) (g10 43) (S 1076 0) ∧ sm_F1 (S 45) (g10 45) (S 1076 0) ∧ ((g10 1075 0) = 0 → r14 = (S 1076 0) ∧ (g10 1076 0) = r14 + 1 ∧ (g10 44 r14) = (3 : Int) ∧ (g10 1100029 r14) = 0 ∧ (g10 45 r14) = 0 ∧ (g10 43 r14) = -1 ∧ (g10 42 r14) = (-1 : Int)) ∧ ((g10 1076 0) = (S 1076 0) → r14 = 0) ∧ ((g10 1075 0) = 1 → (S 1075 0) = 0 → (g10 1076 0) = (S 1076 0)) ∧ (sm_FO (S 44) (S 45) (S 1076 0) → (¬ (3 : Int) = 1 ∨ (9 ≤ (S 1076 0) ∧ (S 1076 0) < 23)) → (1 ≤ (S 1076 0) ∨ ((S 1076 0) = 0 ∧ (3 : Int) = 0)) → sm_FO (g10 44) (g10 45) (g10 1076 0)) ∧ ((S 1076 0) < 300 → (g10 1075 0) = (S 1075 0) ∧ (g10 1076 0) = (S 1076 0) + 1)) → ((0 ≤ (g10 1075 0) ∧ (g10 1075 0) ≤ 1) → ((((g10 1075 0) = (0 : Int)) → (sv_R (g10 43 p1) → (0 ≤ r14 ∧ r14 < 300) ∧ ((sm_PL (S 1100020) (S 51) (S 52) (g10 46) (g10 47) (g10 1076 0) (S 1086 0) ∧ sm_FR (S 1100020) (S 52) (S 1100021) (S 1100022) (3000 - (S 1084 0)) (S 1085 0) ∧ sm_PV (S 1100020) (S 48) (S 49) (S 50) (g10 44) (g10 1076 0) (S 1007 0) ∧ sm_AL (S 1100020) (S 48) (S 49) (S 50) (g10 44) (g10 1076 0) (S 1100032 0) ∧ sm_SV (S 1100020) (S 48) (g10 1100029) (S 32) (S 33) (g10 1076 0) (S 1032 0) ∧ 0 ≤ (g10 1076 0) ∧ (g10 1076 0) ≤ 300 ∧ 0 ≤ (S 1084 0) ∧ (S 1084 0) ≤ 3000 ∧ 0 ≤ (S 1086 0) ∧ sm_SC (g10 1100029) (g10 44) (g10 45) (fun i' : Int => if i' = r14 then (g10 43 p1) else (g10 43) i') (S 21) (g10 1076 0) (S 1032 0) ∧ sm_PO (g10 42) (g10 1076 0) ∧ (g10 1075 0) = 0 ∧ 0 ≤ (0 : Int) ∧ (0 : Int) ≤ (S 33 (S 45 p1)) ∧ sm_SJ (S 1100020) (S 48) (S 32) r14 (S 45 p1) (0 : Int) ∧ (S 1086 0) ≤ (S 1086 0) ∧ (S 1086 0) ≤ (S 1086 0) + (0 : Int)) ∧ (∀ l8_22 : Int, sv_R l8_22 → ∀ g21 : sv_S, (sm_PL (g21 1100020) (g21 51) (g21 52) (g21 46) (g21 47) (g10 1076 0) (g21 1086 0) ∧ sm_FR (g21 1100020) (g21 52) (g21 1100021) (g21 1100022) (3000 - (g21 1084 0)) (g21 1085 0) ∧ sm_PV (g21 1100020) (g21 48) (g21 49) (g21 50) (g10 44) (g10 1076 0) (S 1007 0) ∧ sm_AL (g21 1100020) (g21 48) (g21 49) (g21 50) (g10 44) (g10 1076 0) (S 1100032 0) ∧ sm_SV (g21 1100020) (g21 48) (g10 1100029) (S 32) (S 33) (g10 1076 0) (S 1032 0) ∧ 0 ≤ (g10 1076 0) ∧ (g10 1076 0) ≤ 300 ∧ 0 ≤ (g21 1084 0) ∧ (g21 1084 0) ≤ 3000 ∧ 0 ≤ (g21 1086 0) ∧ sm_SC (g10 1100029) (g10 44) (g10 45) (fun i' : Int => if i' = r14 then (g10 43 p1) else (g10 43) i') (S 21) (g10 1076 0) (S 1032 0) ∧ sm_PO (g10 42) (g10 1076 0) ∧ (g21 1075 0) = 0 ∧ 0 ≤ l8_22 ∧ l8_22 ≤ (S 33 (S 45 p1)) ∧ sm_SJ (g21 1100020) (g21 48) (S 32) r14 (S 45 p1) l8_22 ∧ (S 1086 0) ≤ (g21 1086 0) ∧ (g21 1086 0) ≤ (S 1086 0) + l8_22) → (0 ≤ (S 33 (S 45 p1)) - l8_22) ∧ (0 ≤ (S 45 p1) ∧ (S 45 p1) < 12) ∧ (sv_R (S 33 (S 45 p1)) → ((((S 33 (S 45 p1)) ≤ l8_22) → (sv_R ((S 45 p1))) ∧ ((0 ≤ r14 → r14 < (g10 1076 0) → 1 ≤ (S 45 p1) → sm_LK (fun i' : Int => if i' = r14 then ((S 45 p1)) else (g10 1100029) i') (g10 1076 0) r14 (S 45 p1)) → (1 ≤ (S 1092 0) ∧ (S 1092 0) ≤ 24 ∧ 0 ≤ (S 58 ((S 1092 0) - 1)) ∧ (S 58 ((S 1092 0) - 1)) ≤ 400 ∧ 0 ≤ p4 ∧ p4 ≤ (S 58 ((S 1092 0) - 1))) ∧ (∀ g35 : sv_S, ((g35 58 ((S 1092 0) - 1)) = (S 58 ((S 1092 0) - 1)) - p4 ∧ (∀ k : Int, ¬ k = (S 1092 0) - 1 → (g35 58 k) = (S 58 k))) → (1 ≤ (S 1092 0) ∧ (S 1092 0) ≤ 24 ∧ 0 ≤ (S 57 ((S 1092 0) - 1)) ∧ (S 57 ((S 1092 0) - 1)) ≤ 600) ∧ (∀ g41 : sv_S, ((g41 57 ((S 1092 0) - 1)) = (S 57 ((S 1092 0) - 1)) + 1 ∧ (∀ k : Int, ¬ k = (S 1092 0) - 1 → (g41 57 k) = (S 57 k))) → ((sm_CT (S 26) (S 27) (S 28) (S 29) (S 1100007) (S 1100023) (S 1100024) (S 1100025) (S 21) (S 1046 0) (S 1032 0) (S 1008 0) (S 1055 0) → sm_FL (S 53) (S 54) (S 55) (S 56) (g41 57) (g35 58) (S 59) (S 60) (S 61) (S 62) (S 63) (S 64) (S 27) (S 29) (S 1100007) (S 1100023) (S 1100024) (S 1100025) (S 26) (fun i' : Int => if i' = r14 then ((S 45 p1)) else (g10 1100029) i') (g10 44) (S 1046 0) (S 1032 0) (g10 1076 0) (S 1007 0) (((S 1092 0) - 1)) → (g41 57 ((S 1092 0) - 1)) = ((S 1100033 0) + 1) → 0 ≤ (S 53 ((S 1092 0) - 1)) ∧ (S 53 ((S 1092 0) - 1)) < (S 1032 0) ∧ 0 ≤ ((S 1100033 0) + 1) ∧ ((S 1100033 0) + 1) < (S 1046 0) ∧ (S 29 ((S 1100033 0) + 1)) = (S 53 ((S 1092 0) - 1)) ∧ (g35 58 ((S 1092 0) - 1)) = (S 1100007 ((S 1100033 0) + 1)) - 1 ∧ 0 ≤ (g35 58 ((S 1092 0) - 1)) ∧ (g35 58 ((S 1092 0) - 1)) ≤ 396 → (S 60 ((S 1092 0) - 1)) = sm_dp (S 1100024) (S 1100023 ((S 1100033 0) + 1)) → sm_TC (S 61) (S 62) (S 27) (S 1100007) (S 1100023) (S 1100024) (40 * ((S 1092 0) - 1)) (S 1100023 ((S 1100033 0) + 1)) → sm_SK (S 63) (S 64) (g10 44) (S 1100007) (S 1100025) (g10 1076 0) (S 1007 0) (400 * ((S 1092 0) - 1)) ((g35 58 ((S 1092 0) - 1))) ((S 1100025 ((S 1100033 0) + 1))) → (0 ≤ (S 1100025 ((S 1100033 0) + 1)) → (S 1100007 (S 1100025 ((S 1100033 0) + 1))) ≤ (S 58 ((S 1092 0) - 1)) - p4) → (0 ≤ (S 1100023 ((S 1100033 0) + 1)) → (S 1100007 (S 1100023 ((S 1100033 0) + 1))) ≤ (S 58 ((S 1092 0) - 1)) - p4) → (g35 58 ((S 1092 0) - 1)) = (S 58 ((S 1092 0) - 1)) - p4 → sm_LK (fun i' : Int => if i' = r14 then ((S 45 p1)) else (g10 1100029) i') (g10 1076 0) (S 54 ((S 1092 0) - 1)) (S 53 ((S 1092 0) - 1)) → sm_VO (g10 44) (g10 1076 0) (S 1007 0) ((S 55 ((S 1092 0) - 1))) ((S 56 ((S 1092 0) - 1))) → sm_FW (g10 44) (g10 1076 0) (S 59 ((S 1092 0) - 1)) → sm_FL (S 53) (S 54) (S 55) (S 56) (g41 57) (g35 58) (S 59) (S 60) (S 61) (S 62) (S 63) (S 64) (S 27) (S 29) (S 1100007) (S 1100023) (S 1100024) (S 1100025) (S 26) (fun i' : Int => if i' = r14 then ((S 45 p1)) else (g10 1100029) i') (g10 44) (S 1046 0) (S 1032 0) (g10 1076 0) (S 1007 0) ((S 1092 0))) → (0 ≤ (S 1092 0) ∧ (S 1092 0) < 24 ∧ 0 ≤ (S 45 p1) ∧ (S 45 p1) ≤ 11) ∧ (∀ g48 : sv_S, ((g48 1092 0) = (S 1092 0) + 1 ∧ (g48 53 (S 1092 0)) = (S 45 p1) ∧ (∀ k : Int, ¬ k = (S 1092 0) → (g48 53 k) = (S 53 k)) ∧ (g48 54 (S 1092 0)) = r14 ∧ (∀ k : Int, ¬ k = (S 1092 0) → (g48 54 k) = (S 54 k)) ∧ (g48 55 (S 1092 0)) = p2 ∧ (∀ k : Int, ¬ k = (S 1092 0) → (g48 55 k) = (S 55 k)) ∧ (g48 56 (S 1092 0)) = p3 ∧ (∀ k : Int, ¬ k = (S 1092 0) → (g48 56 k) = (S 56 k)) ∧ (g48 57 (S 1092 0)) = (S 30 (S 45 p1)) ∧ (∀ k : Int, ¬ k = (S 1092 0) → (g48 57 k) = (g41 57 k)) ∧ (g48 58 (S 1092 0)) = 0 ∧ (∀ k : Int, ¬ k = (S 1092 0) → (g48 58 k) = (g35 58 k)) ∧ (g48 59 (S 1092 0)) = p5 ∧ (∀ k : Int, ¬ k = (S 1092 0) → (g48 59 k) = (S 59 k)) ∧ (g48 60 (S 1092 0)) = 0 ∧ (∀ k : Int, ¬ k = (S 1092 0) → (g48 60 k) = (S 60 k))) → (((S 1100023 (g48 57 ((g48 1092 0) - 1))) < 0 → sm_dp (S 1100024) (S 1100023 (g48 57 ((g48 1092 0) - 1))) = 0) → (sm_PL (g21 1100020) (g21 51) (g21 52) (g21 46) (g21 47) (g10 1076 0) (g21 1086 0) ∧ sm_FR (g21 1100020) (g21 52) (g21 1100021) (g21 1100022) (3000 - (g21 1084 0)) (g21 1085 0) ∧ sm_PV (g21 1100020) (g21 48) (g21 49) (g21 50) (g10 44) (g10 1076 0) (S 1007 0) ∧ sm_AL (g21 1100020) (g21 48) (g21 49) (g21 50) (g10 44) (g10 1076 0) (S 1100032 0) ∧ sm_SV (g21 1100020) (g21 48) (fun i' : Int => if i' = r14 then ((S 45 p1)) else (g10 1100029) i') (S 32) (S 33) (g10 1076 0) (S 1032 0) ∧ 0 ≤ (g10 1076 0) ∧ (g10 1076 0) ≤ 300 ∧ 0 ≤ (g21 1084 0) ∧ (g21 1084 0) ≤ 3000 ∧ 0 ≤ (g21 1086 0) ∧ sm_SC (fun i' : Int => if i' = r14 then ((S 45 p1)) else (g10 1100029) i') (g10 44) (g10 45) (fun i' : Int => if i' = r14 then (g10 43 p1) else (g10 43) i') (S 21) (g10 1076 0) (S 1032 0) ∧ sm_PO (g10 42) (g10 1076 0) ∧ ((g21 1075 0) = 0 → (S 1100032 0) = -1 ∧ sm_FO (g10 44) (g10 45) (g10 1076 0)) ∧ 23 ≤ (g10 1076 0) ∧ 31 ≤ (S 1007 0) ∧ (S 1007 0) ≤ 400 ∧ sm_LN (S 4) 400 (S 1007 0) ∧ (S 1008 0) ≤ (S 1007 0) ∧ ((S 1075 0) = 1 → (g21 1075 0) = 1) ∧ 0 ≤ (g48 1092 0) ∧ (g48 1092 0) ≤ 24 ∧ (S 1007 0) ≤ (S 1007 0) ∧ (¬ (g21 1075 0) = 0 → sm_LX (g48 58) (S 63) (S 64) (g48 1092 0) (g10 1076 0)) ∧ ((g21 1075 0) = 0 → (S 1073 0) = 1 → 1 ≤ (g48 1092 0) ∧ (g48 1092 0) ≤ 24 ∧ 0 ≤ (g48 57 ((g48 1092 0) - 1)) ∧ (g48 57 ((g48 1092 0) - 1)) < (S 1046 0) ∧ (S 29 (g48 57 ((g48 1092 0) - 1))) = (g48 53 ((g48 1092 0) - 1)) ∧ 0 ≤ (g48 53 ((g48 1092 0) - 1)) ∧ (g48 53 ((g48 1092 0) - 1)) < (S 1032 0) ∧ (g48 60 ((g48 1092 0) - 1)) = sm_dp (S 1100024) (S 1100023 (g48 57 ((g48 1092 0) - 1))) ∧ sm_TC (S 61) (S 62) (S 27) (S 1100007) (S 1100023) (S 1100024) (40 * ((g48 1092 0) - 1)) (S 1100023 (g48 57 ((g48 1092 0) - 1))) ∧ sm_LK (fun i' : Int => if i' = r14 then ((S 45 p1)) else (g10 1100029) i') (g10 1076 0) (g48 54 ((g48 1092 0) - 1)) (g48 53 ((g48 1092 0) - 1)) ∧ sm_VO (g10 44) (g10 1076 0) (S 1007 0) ((g48 55 ((g48 1092 0) - 1))) ((g48 56 ((g48 1092 0) - 1))) ∧ sm_FW (g10 44) (g10 1076 0) (g48 59 ((g48 1092 0) - 1)) ∧ sm_FL (g48 53) (g48 54) (g48 55) (g48 56) (g48 57) (g48 58) (g48 59) (g48 60) (S 61) (S 62) (S 63) (S 64) (S 27) (S 29) (S 1100007) (S 1100023) (S 1100024) (S 1100025) (S 26) (fun i' : Int => if i' = r14 then ((S 45 p1)) else (g10 1100029) i') (g10 44) (S 1046 0) (S 1032 0) (g10 1076 0) (S 1007 0) (((g48 1092 0) - 1)) ∧ (g48 58 ((g48 1092 0) - 1)) = (S 1100007 (g48 57 ((g48 1092 0) - 1))) ∧ sm_SK (S 63) (S 64) (g10 44) (S 1100007) (S 1100025) (g10 1076 0) (S 1007 0) (400 * ((g48 1092 0) - 1)) ((g48 58 ((g48 1092 0) - 1))) ((S 1100025 (g48 57 ((g48 1092 0) - 1))))) ∧ ((S 1073 0) = 1 ∨ (g48 1092 0) = 0 ∧ (g21 1075 0) = 0 ∧ ((S 1073 0) = 2 ∨ (S 1073 0) = 3)) ∧ (S 1086 0) ≤ (g21 1086 0) ∧ (g21 1086 0) ≤ (S 1086 0) + 110)))))))) ∧ ((¬ ((S 33 (S 45 p1)) ≤ l8_22)) → ((sm_VN (S 32) (S 33) (S 1032 0) (S 1008 0) → 1 ≤ (S 45 p1) → (S 45 p1) < (S 1032 0) → 0 ≤ l8_22 → l8_22 < (S 33 (S 45 p1)) → 0 ≤ (S 32 (100 * (S 45 p1) + l8_22)) ∧ (S 32 (100 * (S 45 p1) + l8_22)) < (S 1008 0)) → (0 ≤ (((100 : Int) * (S 45 p1)) + l8_22) ∧ (((100 : Int) * (S 45 p1)) + l8_22) < 1200) ∧ (sv_R (S 32 (((100 : Int) * (S 45 p1)) + l8_22)) → (∀ x57 : Int, (S 32 (((100 : Int) * (S 45 p1)) + l8_22)) = x57 → ((∀ s59 : Int, sv_R s59 → (s59 = 0 ∨ s59 = 1) → ((∀ s61 : Int, sv_R s61 → (s61 = 0 ∨ s61 = 1) → ((∀ s63 : Int, sv_R s63 → ((¬ s59 = 0 → (l8_22 < (S 1115 0) → s63 = (S 63 ((S 1114 0) + l8_22))) ∧ (¬ l8_22 < (S 1115 0) → s63 = 0)) ∧ (s59 = 0 → ¬ s61 = 0 → s63 = 7) ∧ (s59 = 0 → s61 = 0 → s63 = 0)) → (((s59 = (0 : Int)) → (((s61 = (0 : Int)) → (sm_PL (g21 1100020) (g21 51) (g21 52) (g21 46) (g21 47) (g10 1076 0) (g21 1086 0) ∧ sm_FR (g21 1100020) (g21 52) (g21 1100021) (g21 1100022) (3000 - (g21 1084 0)) (g21 1085 0) ∧ sm_PV (g21 1100020) (g21 48) (g21 49) (g21 50) (g10 44) (g10 1076 0) (S 1007 0) ∧ sm_AL (g21 1100020) (g21 48) (g21 49) (g21 50) (g10 44) (g10 1076 0) (S 1100032 0) ∧ sm_SV (g21 1100020) (g21 48) (g10 1100029) (S 32) (S 33) (g10 1076 0) (S 1032 0) ∧ 0 ≤ (g10 1076 0) ∧ (g10 1076 0) ≤ 300 ∧ 0 ≤ (g21 1084 0) ∧ (g21 1084 0) ≤ 3000 ∧ 0 ≤ (g21 1086 0) ∧ 0 ≤ r14 ∧ r14 < (g10 1076 0) ∧ 0 ≤ x57 ∧ x57 < (S 1007 0) ∧ sm_VO (g10 44) (g10 1076 0) (S 1007 0) (s63) ((0 : Int)) ∧ ((g10 44 r14) = 2 → x57 = 0 → s63 = 5 ∧ 0 ≤ (0 : Int) ∧ (0 : Int) ≤ 100) ∧ (g21 1086 0) < 2000000000) ∧ (∀ g66 : sv_S, (sm_PL (g66 1100020) (g66 51) (g66 52) (g66 46) (g66 47) (g10 1076 0) (g66 1086 0) ∧ sm_FR (g66 1100020) (g66 52) (g66 1100021) (g66 1100022) (3000 - (g66 1084 0)) (g66 1085 0) ∧ sm_PV (g66 1100020) (g66 48) (g66 49) (g66 50) (g10 44) (g10 1076 0) (S 1007 0) ∧ sm_AL (g66 1100020) (g66 48) (g66 49) (g66 50) (g10 44) (g10 1076 0) (S 1100032 0) ∧ sm_SV (g66 1100020) (g66 48) (g10 1100029) (S 32) (S 33) (g10 1076 0) (S 1032 0) ∧ 0 ≤ (g10 1076 0) ∧ (g10 1076 0) ≤ 300 ∧ 0 ≤ (g66 1084 0) ∧ (g66 1084 0) ≤ 3000 ∧ 0 ≤ (g66 1086 0) ∧ sm_KP (g21 1100020) (g21 48) (g66 1100020) (g66 48) ∧ ((g21 1075 0) = 1 → (g66 1075 0) = 1) ∧ ((g66 1075 0) = 0 → sm_HN (g66 1100020) (g66 48) r14 x57) ∧ (g21 1086 0) ≤ (g66 1086 0) ∧ (g66 1086 0) ≤ (g21 1086 0) + 1 ∧ ((g21 1084 0) < 3000 → (g66 1075 0) = (g21 1075 0)) ∧ (g66 1084 0) ≤ (g21 1084 0) + 1) → ((0 ≤ (g66 1075 0) ∧ (g66 1075 0) ≤ 1) → ((((g66 1075 0) = (0 : Int)) → (sv_R (l8_22 + (1 : Int))) ∧ ((sm_PL (g66 1100020) (g66 51) (g66 52) (g66 46) (g66 47) (g10 1076 0) (g66 1086 0) ∧ sm_FR (g66 1100020) (g66 52) (g66 1100021) (g66 1100022) (3000 - (g66 1084 0)) (g66 1085 0) ∧ sm_PV (g66 1100020) (g66 48) (g66 49) (g66 50) (g10 44) (g10 1076 0) (S 1007 0) ∧ sm_AL (g66 1100020) (g66 48) (g66 49) (g66 50) (g10 44) (g10 1076 0) (S 1100032 0) ∧ sm_SV (g66 1100020) (g66 48) (g10 1100029) (S 32) (S 33) (g10 1076 0) (S 1032 0) ∧ 0 ≤ (g10 1076 0) ∧ (g10 1076 0) ≤ 300 ∧ 0 ≤ (g66 1084 0) ∧ (g66 1084 0) ≤ 3000 ∧ 0 ≤ (g66 1086 0) ∧ sm_SC (g10 1100029) (g10 44) (g10 45) (fun i' : Int => if i' = r14 then (g10 43 p1) else (g10 43) i') (S 21) (g10 1076 0) (S 1032 0) ∧ sm_PO (g10 42) (g10 1076 0) ∧ (g66 1075 0) = 0 ∧ 0 ≤ (l8_22 + (1 : Int)) ∧ (l8_22 + (1 : Int)) ≤ (S 33 (S 45 p1)) ∧ sm_SJ (g66 1100020) (g66 48) (S 32) r14 (S 45 p1) (l8_22 + (1 : Int)) ∧ (S 1086 0) ≤ (g66 1086 0) ∧ (g66 1086 0) ≤ (S 1086 0) + (l8_22 + (1 : Int))) ∧ ((S 33 (S 45 p1)) - (l8_22 + (1 : Int))) < ((S 33 (S 45 p1)) - l8_22))) ∧ ((¬ ((g66 1075 0) = (0 : Int))) → (sm_PL (g66 1100020) (g66 51) (g66 52) (g66 46) (g66 47) (g10 1076 0) (g66 1086 0) ∧ sm_FR (g66 1100020) (g66 52) (g66 1100021) (g66 1100022) (3000 - (g66 1084 0)) (g66 1085 0) ∧ sm_PV (g66 1100020) (g66 48) (g66 49) (g66 50) (g10 44) (g10 1076 0) (S 1007 0) ∧ sm_AL (g66 1100020) (g66 48) (g66 49) (g66 50) (g10 44) (g10 1076 0) (S 1100032 0) ∧ sm_SV (g66 1100020) (g66 48) (g10 1100029) (S 32) (S 33) (g10 1076 0) (S 1032 0) ∧ 0 ≤ (g10 1076 0) ∧ (g10 1076 0) ≤ 300 ∧ 0 ≤ (g66 1084 0) ∧ (g66 1084 0) ≤ 3000 ∧ 0 ≤ (g66 1086 0) ∧ sm_SC (g10 1100029) (g10 44) (g10 45) (fun i' : Int => if i' = r14 then (g10 43 p1) else (g10 43) i') (S 21) (g10 1076 0) (S 1032 0) ∧ sm_PO (g10 42) (g10 1076 0) ∧ ((g66 1075 0) = 0 → (S 1100032 0) = -1 ∧ sm_FO (g10 44) (g10 45) (g10 1076 0)) ∧ 23 ≤ (g10 1076 0) ∧ 31 ≤ (S 1007 0) ∧ (S 1007 0) ≤ 400 ∧ sm_LN (S 4) 400 (S 1007 0) ∧ (S 1008 0) ≤ (S 1007 0) ∧ ((S 1075 0) = 1 → (g66 1075 0) = 1) ∧ 0 ≤ (S 1092 0) ∧ (S 1092 0) ≤ 24 ∧ (S 1007 0) ≤ (S 1007 0) ∧ (¬ (g66 1075 0) = 0 → sm_LX (S 58) (S 63) (S 64) (S 1092 0) (g10 1076 0)) ∧ ((g66 1075 0) = 0 → (S 1073 0) = 1 → 1 ≤ (S 1092 0) ∧ (S 1092 0) ≤ 24 ∧ 0 ≤ (S 57 ((S 1092 0) - 1)) ∧ (S 57 ((S 1092 0) - 1)) < (S 1046 0) ∧ (S 29 (S 57 ((S 1092 0) - 1))) = (S 53 ((S 1092 0) - 1)) ∧ 0 ≤ (S 53 ((S 1092 0) - 1)) ∧ (S 53 ((S 1092 0) - 1)) < (S 1032 0) ∧ (S 60 ((S 1092 0) - 1)) = sm_dp (S 1100024) (S 1100023 (S 57 ((S 1092 0) - 1))) ∧ sm_TC (S 61) (S 62) (S 27) (S 1100007) (S 1100023) (S 1100024) (40 * ((S 1092 0) - 1)) (S 1100023 (S 57 ((S 1092 0) - 1))) ∧ sm_LK (g10 1100029) (g10 1076 0) (S 54 ((S 1092 0) - 1)) (S 53 ((S 1092 0) - 1)) ∧ sm_VO (g10 44) (g10 1076 0) (S 1007 0) ((S 55 ((S 1092 0) - 1))) ((S 56 ((S 1092 0) - 1))) ∧ sm_FW (g10 44) (g10 1076 0) (S 59 ((S 1092 0) - 1)) ∧ sm_FL (S 53) (S 54) (S 55) (S 56) (S 57) (S 58) (S 59) (S 60) (S 61) (S 62) (S 63) (S 64) (S 27) (S 29) (S 1100007) (S 1100023) (S 1100024) (S 1100025) (S 26) (g10 1100029) (g10 44) (S 1046 0) (S 1032 0) (g10 1076 0) (S 1007 0) (((S 1092 0) - 1)) ∧ (S 58 ((S 1092 0) - 1)) = (S 1100007 (S 57 ((S 1092 0) - 1))) ∧ sm_SK (S 63) (S 64) (g10 44) (S 1100007) (S 1100025) (g10 1076 0) (S 1007 0) (400 * ((S 1092 0) - 1)) ((S 58 ((S 1092 0) - 1))) ((S 1100025 (S 57 ((S 1092 0) - 1))))) ∧ ((S 1073 0) = 1 ∨ (S 1092 0) = 0 ∧ (g66 1075 0) = 0 ∧ ((S 1073 0) = 2 ∨ (S 1073 0) = 3)) ∧ (S 1086 0) ≤ (g66 1086 0) ∧ (g66 1086 0) ≤ (S 1086 0) + 110)))))) ∧ ((¬ (s61 = (0 : Int))) → (sm_PL (g21 1100020) (g21 51) (g21 52) (g21 46) (g21 47) (g10 1076 0) (g21 1086 0) ∧ sm_FR (g21 1100020) (g21 52) (g21 1100021) (g21 1100022) (3000 - (g21 1084 0)) (g21 1085 0) ∧ sm_PV (g21 1100020) (g21 48) (g21 49) (g21 50) (g10 44) (g10 1076 0) (S 1007 0) ∧ sm_AL (g21 1100020) (g21 48) (g21 49) (g21 50) (g10 44) (g10 1076 0) (S 1100032 0) ∧ sm_SV (g21 1100020) (g21 48) (g10 1100029) (S 32) (S 33) (g10 1076 0) (S 1032 0) ∧ 0 ≤ (g10 1076 0) ∧ (g10 1076 0) ≤ 300 ∧ 0 ≤ (g21 1084 0) ∧ (g21 1084 0) ≤ 3000 ∧ 0 ≤ (g21 1086 0) ∧ 0 ≤ r14 ∧ r14 < (g10 1076 0) ∧ 0 ≤ x57 ∧ x57 < (S 1007 0) ∧ sm_VO (g10 44) (g10 1076 0) (S 1007 0) (s63) (p1) ∧ ((g10 44 r14) = 2 → x57 = 0 → s63 = 5 ∧ 0 ≤ p1 ∧ p1 ≤ 100) ∧ (g21 1086 0) < 2000000000) ∧ (∀ g75 : sv_S, (sm_PL (g75 1100020) (g75 51) (g75 52) (g75 46) (g75 47) (g10 1076 0) (g75 1086 0) ∧ sm_FR (g75 1100020) (g75 52) (g75 1100021) (g75 1100022) (3000 - (g75 1084 0)) (g75 1085 0) ∧ sm_PV (g75 1100020) (g75 48) (g75 49) (g75 50) (g10 44) (g10 1076 0) (S 1007 0) ∧ sm_AL (g75 1100020) (g75 48) (g75 49) (g75 50) (g10 44) (g10 1076 0) (S 1100032 0) ∧ sm_SV (g75 1100020) (g75 48) (g10 1100029) (S 32) (S 33) (g10 1076 0) (S 1032 0) ∧ 0 ≤ (g10 1076 0) ∧ (g10 1076 0) ≤ 300 ∧ 0 ≤ (g75 1084 0) ∧ (g75 1084 0) ≤ 3000 ∧ 0 ≤ (g75 1086 0) ∧ sm_KP (g21 1100020) (g21 48) (g75 1100020) (g75 48) ∧ ((g21 1075 0) = 1 → (g75 1075 0) = 1) ∧ ((g75 1075 0) = 0 → sm_HN (g75 1100020) (g75 48) r14 x57) ∧ (g21 1086 0) ≤ (g75 1086 0) ∧ (g75 1086 0) ≤ (g21 1086 0) + 1 ∧ ((g21 1084 0) < 3000 → (g75 1075 0) = (g21 1075 0)) ∧ (g75 1084 0) ≤ (g21 1084 0) + 1) → ((0 ≤ (g75 1075 0) ∧ (g75 1075 0) ≤ 1) → ((((g75 1075 0) = (0 : Int)) → (sv_R (l8_22 + (1 : Int))) ∧ ((sm_PL (g75 1100020) (g75 51) (g75 52) (g75 46) (g75 47) (g10 1076 0) (g75 1086 0) ∧ sm_FR (g75 1100020) (g75 52) (g75 1100021) (g75 1100022) (3000 - (g75 1084 0)) (g75 1085 0) ∧ sm_PV (g75 1100020) (g75 48) (g75 49) (g75 50) (g10 44) (g10 1076 0) (S 1007 0) ∧ sm_AL (g75 1100020) (g75 48) (g75 49) (g75 50) (g10 44) (g10 1076 0) (S 1100032 0) ∧ sm_SV (g75 1100020) (g75 48) (g10 1100029) (S 32) (S 33) (g10 1076 0) (S 1032 0) ∧ 0 ≤ (g10 1076 0) ∧ (g10 1076 0) ≤ 300 ∧ 0 ≤ (g75 1084 0) ∧ (g75 1084 0) ≤ 3000 ∧ 0 ≤ (g75 1086 0) ∧ sm_SC (g10 1100029) (g10 44) (g10 45) (fun i' : Int => if i' = r14 then (g10 43 p1) else (g10 43) i') (S 21) (g10 1076 0) (S 1032 0) ∧ sm_PO (g10 42) (g10 1076 0) ∧ (g75 1075 0) = 0 ∧ 0 ≤ (l8_22 + (1 : Int)) ∧ (l8_22 + (1 : Int)) ≤ (S 33 (S 45 p1)) ∧ sm_SJ (g75 1100020) (g75 48) (S 32) r14 (S 45 p1) (l8_22 + (1 : Int)) ∧ (S 1086 0) ≤ (g75 1086 0) ∧ (g75 1086 0) ≤ (S 1086 0) + (l8_22 + (1 : Int))) ∧ ((S 33 (S 45 p1)) - (l8_22 + (1 : Int))) < ((S 33 (S 45 p1)) - l8_22))) ∧ ((¬ ((g75 1075 0) = (0 : Int))) → (sm_PL (g75 1100020) (g75 51) (g75 52) (g75 46) (g75 47) (g10 1076 0) (g75 1086 0) ∧ sm_FR (g75 1100020) (g75 52) (g75 1100021) (g75 1100022) (3000 - (g75 1084 0)) (g75 1085 0) ∧ sm_PV (g75 1100020) (g75 48) (g75 49) (g75 50) (g10 44) (g10 1076 0) (S 1007 0) ∧ sm_AL (g75 1100020) (g75 48) (g75 49) (g75 50) (g10 44) (g10 1076 0) (S 1100032 0) ∧ sm_SV (g75 1100020) (g75 48) (g10 1100029) (S 32) (S 33) (g10 1076 0) (S 1032 0) ∧ 0 ≤ (g10 1076 0) ∧ (g10 1076 0) ≤ 300 ∧ 0 ≤ (g75 1084 0) ∧ (g75 1084 0) ≤ 3000 ∧ 0 ≤ (g75 1086 0) ∧ sm_SC (g10 1100029) (g10 44) (g10 45) (fun i' : Int => if i' = r14 then (g10 43 p1) else (g10 43) i') (S 21) (g10 1076 0) (S 1032 0) ∧ sm_PO (g10 42) (g10 1076 0) ∧ ((g75 1075 0) = 0 → (S 1100032 0) = -1 ∧ sm_FO (g10 44) (g10 45) (g10 1076 0)) ∧ 23 ≤ (g10 1076 0) ∧ 31 ≤ (S 1007 0) ∧ (S 1007 0) ≤ 400 ∧ sm_LN (S 4) 400 (S 1007 0) ∧ (S 1008 0) ≤ (S 1007 0) ∧ ((S 1075 0) = 1 → (g75 1075 0) = 1) ∧ 0 ≤ (S 1092 0) ∧ (S 1092 0) ≤ 24 ∧ (S 1007 0) ≤ (S 1007 0) ∧ (¬ (g75 1075 0) = 0 → sm_LX (S 58) (S 63) (S 64) (S 1092 0) (g10 1076 0)) ∧ ((g75 1075 0) = 0 → (S 1073 0) = 1 → 1 ≤ (S 1092 0) ∧ (S 1092 0) ≤ 24 ∧ 0 ≤ (S 57 ((S 1092 0) - 1)) ∧ (S 57 ((S 1092 0) - 1)) < (S 1046 0) ∧ (S 29 (S 57 ((S 1092 0) - 1))) = (S 53 ((S 1092 0) - 1)) ∧ 0 ≤ (S 53 ((S 1092 0) - 1)) ∧ (S 53 ((S 1092 0) - 1)) < (S 1032 0) ∧ (S 60 ((S 1092 0) - 1)) = sm_dp (S 1100024) (S 1100023 (S 57 ((S 1092 0) - 1))) ∧ sm_TC (S 61) (S 62) (S 27) (S 1100007) (S 1100023) (S 1100024) (40 * ((S 1092 0) - 1)) (S 1100023 (S 57 ((S 1092 0) - 1))) ∧ sm_LK (g10 1100029) (g10 1076 0) (S 54 ((S 1092 0) - 1)) (S 53 ((S 1092 0) - 1)) ∧ sm_VO (g10 44) (g10 1076 0) (S 1007 0) ((S 55 ((S 1092 0) - 1))) ((S 56 ((S 1092 0) - 1))) ∧ sm_FW (g10 44) (g10 1076 0) (S 59 ((S 1092 0) - 1)) ∧ sm_FL (S 53) (S 54) (S 55) (S 56) (S 57) (S 58) (S 59) (S 60) (S 61) (S 62) (S 63) (S 64) (S 27) (S 29) (S 1100007) (S 1100023) (S 1100024) (S 1100025) (S 26) (g10 1100029) (g10 44) (S 1046 0) (S 1032 0) (g10 1076 0) (S 1007 0) (((S 1092 0) - 1)) ∧ (S 58 ((S 1092 0) - 1)) = (S 1100007 (S 57 ((S 1092 0) - 1))) ∧ sm_SK (S 63) (S 64) (g10 44) (S 1100007) (S 1100025) (g10 1076 0) (S 1007 0) (400 * ((S 1092 0) - 1)) ((S 58 ((S 1092 0) - 1))) ((S 1100025 (S 57 ((S 1092 0) - 1))))) ∧ ((S 1073 0) = 1 ∨ (S 1092 0) = 0 ∧ (g75 1075 0) = 0 ∧ ((S 1073 0) = 2 ∨ (S 1073 0) = 3)) ∧ (S 1086 0) ≤ (g75 1086 0) ∧ (g75 1086 0) ≤ (S 1086 0) + 110)))))))) ∧ ((¬ (s59 = (0 : Int))) → (l8_22 < (S 1115 0) → 0 ≤ (S 1114 0) + l8_22 ∧ (S 1114 0) + l8_22 < 9600) ∧ (∀ r88 : Int, sv_R r88 → ((l8_22 < (S 1115 0) → r88 = (S 64 ((S 1114 0) + l8_22))) ∧ (¬ l8_22 < (S 1115 0) → r88 = 0)) → ((sm_SK (S 63) (S 64) (g10 44) (S 1100007) (S 1100025) (g10 1076 0) (S 1007 0) (400 * ((S 1092 0) - 1)) ((S 58 ((S 1092 0) - 1))) ((S 1100034 0)) → sm_LS (S 26) (S 1100007) (S 1100025) (S 1046 0) → (S 1114 0) + (S 1115 0) = 400 * ((S 1092 0) - 1) + (S 58 ((S 1092 0) - 1)) → 0 ≤ l8_22 → (S 1115 0) ≤ p4 - 1 → p4 ≤ (S 58 ((S 1092 0) - 1)) → (S 1100034 0) < (S 1046 0) → (0 ≤ (S 1100034 0) → (S 26 (S 1100034 0)) = 29) → (0 ≤ (S 1100034 0) → (S 1100007 (S 1100034 0)) ≤ (S 58 ((S 1092 0) - 1)) - p4) → (l8_22 < (S 1115 0) → s63 = (S 63 ((S 1114 0) + l8_22))) → (¬ l8_22 < (S 1115 0) → s63 = 0) → (l8_22 < (S 1115 0) → r88 = (S 64 ((S 1114 0) + l8_22))) → (¬ l8_22 < (S 1115 0) → r88 = 0) → sm_VO (g10 44) (g10 1076 0) (S 1007 0) (s63) (r88)) → (sm_PL (g21 1100020) (g21 51) (g21 52) (g21 46) (g21 47) (g10 1076 0) (g21 1086 0) ∧ sm_FR (g21 1100020) (g21 52) (g21 1100021) (g21 1100022) (3000 - (g21 1084 0)) (g21 1085 0) ∧ sm_PV (g21 1100020) (g21 48) (g21 49) (g21 50) (g10 44) (g10 1076 0) (S 1007 0) ∧ sm_AL (g21 1100020) (g21 48) (g21 49) (g21 50) (g10 44) (g10 1076 0) (S 1100032 0) ∧ sm_SV (g21 1100020) (g21 48) (g10 1100029) (S 32) (S 33) (g10 1076 0) (S 1032 0) ∧ 0 ≤ (g10 1076 0) ∧ (g10 1076 0) ≤ 300 ∧ 0 ≤ (g21 1084 0) ∧ (g21 1084 0) ≤ 3000 ∧ 0 ≤ (g21 1086 0) ∧ 0 ≤ r14 ∧ r14 < (g10 1076 0) ∧ 0 ≤ x57 ∧ x57 < (S 1007 0) ∧ sm_VO (g10 44) (g10 1076 0) (S 1007 0) (s63) (r88) ∧ ((g10 44 r14) = 2 → x57 = 0 → s63 = 5 ∧ 0 ≤ r88 ∧ r88 ≤ 100) ∧ (g21 1086 0) < 2000000000) ∧ (∀ g91 : sv_S, (sm_PL (g91 1100020) (g91 51) (g91 52) (g91 46) (g91 47) (g10 1076 0) (g91 1086 0) ∧ sm_FR (g91 1100020) (g91 52) (g91 1100021) (g91 1100022) (3000 - (g91 1084 0)) (g91 1085 0) ∧ sm_PV (g91 1100020) (g91 48) (g91 49) (g91 50) (g10 44) (g10 1076 0) (S 1007 0) ∧ sm_AL (g91 1100020) (g91 48) (g91 49) (g91 50) (g10 44) (g10 1076 0) (S 1100032 0) ∧ sm_SV (g91 1100020) (g91 48) (g10 1100029) (S 32) (S 33) (g10 1076 0) (S 1032 0) ∧ 0 ≤ (g10 1076 0) ∧ (g10 1076 0) ≤ 300 ∧ 0 ≤ (g91 1084 0) ∧ (g91 1084 0) ≤ 3000 ∧ 0 ≤ (g91 1086 0) ∧ sm_KP (g21 1100020) (g21 48) (g91 1100020) (g91 48) ∧ ((g21 1075 0) = 1 → (g91 1075 0) = 1) ∧ ((g91 1075 0) = 0 → sm_HN (g91 1100020) (g91 48) r14 x57) ∧ (g21 1086 0) ≤ (g91 1086 0) ∧ (g91 1086 0) ≤ (g21 1086 0) + 1 ∧ ((g21 1084 0) < 3000 → (g91 1075 0) = (g21 1075 0)) ∧ (g91 1084 0) ≤ (g21 1084 0) + 1) → ((0 ≤ (g91 1075 0) ∧ (g91 1075 0) ≤ 1) → ((((g91 1075 0) = (0 : Int)) → (sv_R (l8_22 + (1 : Int))) ∧ ((sm_PL (g91 1100020) (g91 51) (g91 52) (g91 46) (g91 47) (g10 1076 0) (g91 1086 0) ∧ sm_FR (g91 1100020) (g91 52) (g91 1100021) (g91 1100022) (3000 - (g91 1084 0)) (g91 1085 0) ∧ sm_PV (g91 1100020) (g91 48) (g91 49) (g91 50) (g10 44) (g10 1076 0) (S 1007 0) ∧ sm_AL (g91 1100020) (g91 48) (g91 49) (g91 50) (g10 44) (g10 1076 0) (S 1100032 0) ∧ sm_SV (g91 1100020) (g91 48) (g10 1100029) (S 32) (S 33) (g10 1076 0) (S 1032 0) ∧ 0 ≤ (g10 1076 0) ∧ (g10 1076 0) ≤ 300 ∧ 0 ≤ (g91 1084 0) ∧ (g91 1084 0) ≤ 3000 ∧ 0 ≤ (g91 1086 0) ∧ sm_SC (g10 1100029) (g10 44) (g10 45) (fun i' : Int => if i' = r14 then (g10 43 p1) else (g10 43) i') (S 21) (g10 1076 0) (S 1032 0) ∧ sm_PO (g10 42) (g10 1076 0) ∧ (g91 1075 0) = 0 ∧ 0 ≤ (l8_22 + (1 : Int)) ∧ (l8_22 + (1 : Int)) ≤ (S 33 (S 45 p1)) ∧ sm_SJ (g91 1100020) (g91 48) (S 32) r14 (S 45 p1) (l8_22 + (1 : Int)) ∧ (S 1086 0) ≤ (g91 1086 0) ∧ (g91 1086 0) ≤ (S 1086 0) + (l8_22 + (1 : Int))) ∧ ((S 33 (S 45 p1)) - (l8_22 + (1 : Int))) < ((S 33 (S 45 p1)) - l8_22))) ∧ ((¬ ((g91 1075 0) = (0 : Int))) → (sm_PL (g91 1100020) (g91 51) (g91 52) (g91 46) (g91 47) (g10 1076 0) (g91 1086 0) ∧ sm_FR (g91 1100020) (g91 52) (g91 1100021) (g91 1100022) (3000 - (g91 1084 0)) (g91 1085 0) ∧ sm_PV (g91 1100020) (g91 48) (g91 49) (g91 50) (g10 44) (g10 1076 0) (S 1007 0) ∧ sm_AL (g91 1100020) (g91 48) (g91 49) (g91 50) (g10 44) (g10 1076 0) (S 1100032 0) ∧ sm_SV (g91 1100020) (g91 48) (g10 1100029) (S 32) (S 33) (g10 1076 0) (S 1032 0) ∧ 0 ≤ (g10 1076 0) ∧ (g10 1076 0) ≤ 300 ∧ 0 ≤ (g91 1084 0) ∧ (g91 1084 0) ≤ 3000 ∧ 0 ≤ (g91 1086 0) ∧ sm_SC (g10 1100029) (g10 44) (g10 45) (fun i' : Int => if i' = r14 then (g10 43 p1) else (g10 43) i') (S 21) (g10 1076 0) (S 1032 0) ∧ sm_PO (g10 42) (g10 1076 0) ∧ ((g91 1075 0) = 0 → (S 1100032 0) = -1 ∧ sm_FO (g10 44) (g10 45) (g10 1076 0)) ∧ 23 ≤ (g10 1076 0) ∧ 31 ≤ (S 1007 0) ∧ (S 1007 0) ≤ 400 ∧ sm_LN (S 4) 400 (S 1007 0) ∧ (S 1008 0) ≤ (S 1007 0) ∧ ((S 1075 0) = 1 → (g91 1075 0) = 1) ∧ 0 ≤ (S 1092 0) ∧ (S 1092 0) ≤ 24 ∧ (S 1007 0) ≤ (S 1007 0) ∧ (¬ (g91 1075 0) = 0 → sm_LX (S 58) (S 63) (S 64) (S 1092 0) (g10 1076 0)) ∧ ((g91 1075 0) = 0 → (S 1073 0) = 1 → 1 ≤ (S 1092 0) ∧ (S 1092 0) ≤ 24 ∧ 0 ≤ (S 57 ((S 1092 0) - 1)) ∧ (S 57 ((S 1092 0) - 1)) < (S 1046 0) ∧ (S 29 (S 57 ((S 1092 0) - 1))) = (S 53 ((S 1092 0) - 1)) ∧ 0 ≤ (S 53 ((S 1092 0) - 1)) ∧ (S 53 ((S 1092 0) - 1)) < (S 1032 0) ∧ (S 60 ((S 1092 0) - 1)) = sm_dp (S 1100024) (S 1100023 (S 57 ((S 1092 0) - 1))) ∧ sm_TC (S 61) (S 62) (S 27) (S 1100007) (S 1100023) (S 1100024) (40 * ((S 1092 0) - 1)) (S 1100023 (S 57 ((S 1092 0) - 1))) ∧ sm_LK (g10 1100029) (g10 1076 0) (S 54 ((S 1092 0) - 1)) (S 53 ((S 1092 0) - 1)) ∧ sm_VO (g10 44) (g10 1076 0) (S 1007 0) ((S 55 ((S 1092 0) - 1))) ((S 56 ((S 1092 0) - 1))) ∧ sm_FW (g10 44) (g10 1076 0) (S 59 ((S 1092 0) - 1)) ∧ sm_FL (S 53) (S 54) (S 55) (S 56) (S 57) (S 58) (S 59) (S 60) (S 61) (S 62) (S 63) (S 64) (S 27) (S 29) (S 1100007) (S 1100023) (S 1100024) (S 1100025) (S 26) (g10 1100029) (g10 44) (S 1046 0) (S 1032 0) (g10 1076 0) (S 1007 0) (((S 1092 0) - 1)) ∧ (S 58 ((S 1092 0) - 1)) = (S 1100007 (S 57 ((S 1092 0) - 1))) ∧ sm_SK (S 63) (S 64) (g10 44) (S 1100007) (S 1100025) (g10 1076 0) (S 1007 0) (400 * ((S 1092 0) - 1)) ((S 58 ((S 1092 0) - 1))) ((S 1100025 (S 57 ((S 1092 0) - 1))))) ∧ ((S 1073 0) = 1 ∨ (S 1092 0) = 0 ∧ (g91 1075 0) = 0 ∧ ((S 1073 0) = 2 ∨ (S 1073 0) = 3)) ∧ (S 1086 0) ≤ (g91 1086 0) ∧ (g91 1086 0) ≤ (S 1086 0) + 110)))))))))) ∧ (((s59 = (0 : Int)) → (((s61 = (0 : Int)) → ((¬ s59 = 0 → (l8_22 < (S 1115 0) → (0 : Int) = (S 63 ((S 1114 0) + l8_22))) ∧ (¬ l8_22 < (S 1115 0) → (0 : Int) = 0)) ∧ (s59 = 0 → ¬ s61 = 0 → (0 : Int) = 7) ∧ (s59 = 0 → s61 = 0 → (0 : Int) = 0))) ∧ ((¬ (s61 = (0 : Int))) → ((¬ s59 = 0 → (l8_22 < (S 1115 0) → (7 : Int) = (S 63 ((S 1114 0) + l8_22))) ∧ (¬ l8_22 < (S 1115 0) → (7 : Int) = 0)) ∧ (s59 = 0 → ¬ s61 = 0 → (7 : Int) = 7) ∧ (s59 = 0 → s61 = 0 → (7 : Int) = 0))))) ∧ ((¬ (s59 = (0 : Int))) → (l8_22 < (S 1115 0) → 0 ≤ (S 1114 0) + l8_22 ∧ (S 1114 0) + l8_22 < 9600) ∧ (∀ r105 : Int, sv_R r105 → ((l8_22 < (S 1115 0) → r105 = (S 63 ((S 1114 0) + l8_22))) ∧ (¬ l8_22 < (S 1115 0) → r105 = 0)) → ((¬ s59 = 0 → (l8_22 < (S 1115 0) → r105 = (S 63 ((S 1114 0) + l8_22))) ∧ (¬ l8_22 < (S 1115 0) → r105 = 0)) ∧ (s59 = 0 → ¬ s61 = 0 → r105 = 7) ∧ (s59 = 0 → s61 = 0 → r105 = 0))))))) ∧ (((¬ s59 = (0 : Int)) → ((0 : Int) = 0 ∨ (0 : Int) = 1)) ∧ ((¬ (¬ s59 = (0 : Int))) → ((0 ≤ (S 18 (S 45 p1)) ∧ (S 18 (S 45 p1)) ≤ 1) → (((¬ (S 18 (S 45 p1)) = (0 : Int)) → ((0 : Int) = 0 ∨ (0 : Int) = 1)) ∧ ((¬ (¬ (S 18 (S 45 p1)) = (0 : Int))) → (sv_R (S 17 (S 45 p1)) → (((¬ x57 = (S 17 (S 45 p1))) → ((0 : Int) = 0 ∨ (0 : Int) = 1)) ∧ ((¬ (¬ x57 = (S 17 (S 45 p1)))) → ((1 : Int) = 0 ∨ (1 : Int) = 1))))))))))) ∧ (sv_R (S 20 (S 45 p1)) → ((((S 20 (S 45 p1)) ≤ l8_22) → ((0 : Int) = 0 ∨ (0 : Int) = 1)) ∧ ((¬ ((S 20 (S 45 p1)) ≤ l8_22)) → ((1 : Int) = 0 ∨ (1 : Int) = 1))))))))))))))) ∧ ((¬ ((g10 1075 0) = (0 : Int))) → (sm_PL (S 1100020) (S 51) (S 52) (g10 46) (g10 47) (g10 1076 0) (S 1086 0) ∧ sm_FR (S 1100020) (S 52) (S 1100021) (S 1100022) (3000 - (S 1084 0)) (S 1085 0) ∧ sm_PV (S 1100020) (S 48) (S 49) (S 50) (g10 44) (g10 1076 0) (S 1007 0) ∧ sm_AL (S 1100020) (S 48) (S 49) (S 50) (g10 44) (g10 1076 0) (S 1100032 0) ∧ sm_SV (S 1100020) (S 48) (g10 1100029) (S 32) (S 33) (g10 1076 0) (S 1032 0) ∧ 0 ≤ (g10 1076 0) ∧ (g10 1076 0) ≤ 300 ∧ 0 ≤ (S 1084 0) ∧ (S 1084 0) ≤ 3000 ∧ 0 ≤ (S 1086 0) ∧ sm_SC (g10 1100029) (g10 44) (g10 45) (g10 43) (S 21) (g10 1076 0) (S 1032 0) ∧ sm_PO (g10 42) (g10 1076 0) ∧ ((g10 1075 0) = 0 → (S 1100032 0) = -1 ∧ sm_FO (g10 44) (g10 45) (g10 1076 0)) ∧ 23 ≤ (g10 1076 0) ∧ 31 ≤ (S 1007 0) ∧ (S 1007 0) ≤ 400 ∧ sm_LN (S 4) 400 (S 1007 0) ∧ (S 1008 0) ≤ (S 1007 0) ∧ ((S 1075 0) = 1 → (g10 1075 0) = 1) ∧ 0 ≤ (S 1092 0) ∧ (S 1092 0) ≤ 24 ∧ (S 1007 0) ≤ (S 1007 0) ∧ (¬ (g10 1075 0) = 0 → sm_LX (S 58) (S 63) (S 64) (S 1092 0) (g10 1076 0)) ∧ ((g10 1075 0) = 0 → (S 1073 0) = 1 → 1 ≤ (S 1092 0) ∧ (S 1092 0) ≤ 24 ∧ 0 ≤ (S 57 ((S 1092 0) - 1)) ∧ (S 57 ((S 1092 0) - 1)) < (S 1046 0) ∧ (S 29 (S 57 ((S 1092 0) - 1))) = (S 53 ((S 1092 0) - 1)) ∧ 0 ≤ (S 53 ((S 1092 0) - 1)) ∧ (S 53 ((S 1092 0) - 1)) < (S 1032 0) ∧ (S 60 ((S 1092 0) - 1)) = sm_dp (S 1100024) (S 1100023 (S 57 ((S 1092 0) - 1))) ∧ sm_TC (S 61) (S 62) (S 27) (S 1100007) (S 1100023) (S 1100024) (40 * ((S 1092 0) - 1)) (S 1100023 (S 57 ((S 1092 0) - 1))) ∧ sm_LK (g10 1100029) (g10 1076 0) (S 54 ((S 1092 0) - 1)) (S 53 ((S 1092 0) - 1)) ∧ sm_VO (g10 44) (g10 1076 0) (S 1007 0) ((S 55 ((S 1092 0) - 1))) ((S 56 ((S 1092 0) - 1))) ∧ sm_FW (g10 44) (g10 1076 0) (S 59 ((S 1092 0) - 1)) ∧ sm_FL (S 53) (S 54) (S 55) (S 56) (S 57) (S 58) (S 59) (S 60) (S 61) (S 62) (S 63) (S 64) (S 27) (S 29) (S 1100007) (S 1100023) (S 1100024) (S 1100025) (S 26) (g10 1100029) (g10 44) (S 1046 0) (S 1032 0) (g10 1076 0) (S 1007 0) (((S 1092 0) - 1)) ∧ (S 58 ((S 1092 0) - 1)) = (S 1100007 (S 57 ((S 1092 0) - 1))) ∧ sm_SK (S 63) (S 64) (g10 44) (S 1100007) (S 1100025) (g10 1076 0) (S 1007 0) (400 * ((S 1092 0) - 1)) ((S 58 ((S 1092 0) - 1))) ((S 1100025 (S 57 ((S 1092 0) - 1))))) ∧ ((S 1073 0) = 1 ∨ (S 1092 0) = 0 ∧ (g10 1075 0) = 0 ∧ ((S 1073 0) = 2 ∨ (S 1073 0) = 3)) ∧ (S 1086 0) ≤ (S 1086 0) ∧ (S 1086 0) ≤ (S 1086 0) + 110))))))))))) := by
  intro p1
  intro p2
  intro p3
  intro p4
  intro p5
  intro S
  intro h1_
  intro h2_
  intro h3_
  intro h4_
  intro h5_
  intro h6_
  rintro ⟨h7_, ⟨h8_, ⟨h9_, ⟨h10_, ⟨h11_, ⟨h12_, ⟨h13_, ⟨h14_, ⟨h15_, ⟨h16_, ⟨h17_, ⟨h18_, ⟨h19_, ⟨h20_, ⟨h21_, ⟨h22_, ⟨h23_, ⟨h24_, ⟨h25_, ⟨h26_, ⟨h27_, ⟨h28_, ⟨h29_, ⟨h30_, ⟨h31_, ⟨h32_, ⟨h33_, ⟨h34_, ⟨h35_, ⟨h36_, ⟨h37_, ⟨h38_, ⟨h39_, ⟨h40_, ⟨h41_, ⟨h42_, ⟨h43_, ⟨h44_, ⟨h45_, ⟨h46_, ⟨h47_, ⟨h48_, ⟨h49_, ⟨h50_, ⟨h51_, ⟨h52_, ⟨h53_, ⟨h54_, ⟨h55_, ⟨h56_, ⟨h57_, ⟨h58_, ⟨h59_, ⟨h60_, ⟨h61_, ⟨h62_, ⟨h63_, ⟨h64_, ⟨h65_, ⟨h66_, ⟨h67_, ⟨h68_, ⟨h69_, ⟨h70_, ⟨h71_, ⟨h72_, ⟨h73_, ⟨h74_, ⟨h75_, ⟨h76_, ⟨h77_, ⟨h78_, ⟨h79_, ⟨h80_, ⟨h81_, ⟨h82_, ⟨h83_, ⟨h84_, h85_⟩⟩⟩⟩⟩⟩⟩⟩⟩⟩⟩⟩⟩⟩⟩⟩⟩⟩⟩⟩⟩⟩⟩⟩⟩⟩⟩⟩⟩⟩⟩⟩⟩⟩⟩⟩⟩⟩⟩⟩⟩⟩⟩⟩⟩⟩⟩⟩⟩⟩⟩⟩⟩⟩⟩⟩⟩⟩⟩⟩⟩⟩⟩⟩⟩⟩⟩⟩⟩⟩⟩⟩⟩⟩⟩⟩⟩⟩
  intro h86_
  have h87_ := (h86_ h20_)
  have h88_ := (h87_ h80_)
  have h89_ := (h88_ h81_)
  have h90_ := (h89_ h82_)
  obtain ⟨h91_, h92_⟩ := (h90_ h83_)
  intro h93_
  have h94_ := (h93_ h80_)
  have h95_ := (h94_ h81_)
  have h96_ := (h95_ (la_enter_0 h82_))
  obtain ⟨h97_, ⟨h98_, h99_⟩⟩ := ((sm_VO_e h96_).2.2.2 la_enter_2)
  intro h100_
  have h101_ := (h100_ h69_)
  intro h102_
  have h103_ := (h102_ h70_)
  have h104_ := (h103_ h65_)
  intro h105_
  have h106_ := (h105_ h69_)
  have h107_ := (h106_ h71_)
  refine ⟨(la_enter_5 h16_ h80_ h81_), ?_⟩
  intro h108_
  refine ⟨(la_enter_6 h32_ h83_ h91_), ?_⟩
  refine ⟨⟨h10_, ⟨h11_, ⟨h12_, ⟨h13_, ⟨h14_, ⟨h15_, ⟨h16_, ⟨h17_, ⟨h18_, ⟨h19_, ⟨h20_, ⟨h21_, (la_enter_7 h32_ h83_ h91_)⟩⟩⟩⟩⟩⟩⟩⟩⟩⟩⟩⟩, ?_⟩
  intro r14
  intro h109_
  intro g10
  rintro ⟨h110_, ⟨h111_, ⟨h112_, ⟨h113_, ⟨h114_, ⟨h115_, ⟨h116_, ⟨h117_, ⟨h118_, ⟨h119_, ⟨h120_, ⟨h121_, ⟨h122_, ⟨h123_, ⟨h124_, ⟨h125_, ⟨h126_, ⟨h127_, ⟨h128_, ⟨h129_, ⟨h130_, ⟨h131_, ⟨h132_, ⟨h133_, ⟨h134_, h135_⟩⟩⟩⟩⟩⟩⟩⟩⟩⟩⟩⟩⟩⟩⟩⟩⟩⟩⟩⟩⟩⟩⟩⟩⟩
  have h136_ := (h134_ h23_)
  have h137_ := (h136_ la_enter_9)
  have h138_ := (h137_ (la_enter_10 h24_))
  rintro ⟨h139_, h140_⟩
  refine ⟨?_, ?_⟩
  · skip
    intro h141_
    obtain ⟨h142_, ⟨h143_, ⟨h144_, ⟨h145_, ⟨h146_, ⟨h147_, h148_⟩⟩⟩⟩⟩⟩ := (h131_ h141_)
    obtain ⟨h149_, h150_⟩ := (h135_ (la_enter_12 h116_ h123_ h142_))
    intro h151_
    refine ⟨(la_enter_13 h24_ h116_ h123_ h142_), ?_⟩
    refine ⟨?_, ?_⟩
    · skip
      refine ⟨h110_, ?_⟩
      refine ⟨h11_, ?_⟩
      refine ⟨h112_, ?_⟩
      refine ⟨h113_, ?_⟩
      refine ⟨h114_, ?_⟩
      refine ⟨h115_, ?_⟩
      refine ⟨h116_, ?_⟩
      refine ⟨h17_, ?_⟩
      refine ⟨h18_, ?_⟩
      refine ⟨h19_, ?_⟩
      refine ⟨(sm_SC_li h120_ (la_enter_14 h144_) (la_enter_15 h145_)), ?_⟩
      refine ⟨h121_, ?_⟩
      refine ⟨h141_, ?_⟩
      refine ⟨la_enter_16, ?_⟩
      refine ⟨?_, ?_⟩
      · skip
        obtain ⟨h152_, ⟨h153_, ⟨h154_, ⟨h155_, ⟨h156_, ⟨h157_, ⟨h158_, h159_⟩⟩⟩⟩⟩⟩⟩ := (((h75_ (S 45 p1)) (la_enter_17 h83_)) h91_)
        obtain ⟨h160_, ⟨h161_, ⟨h162_, ⟨h163_, ⟨h164_, h165_⟩⟩⟩⟩⟩ := (((h77_ (S 45 p1)) (la_enter_17 h83_)) h91_)
        have e166_ : S 1100007 (S 1100023 (S 1100033 0)) = S 1100007 (S 1100023 (S 1100033 0 + 1)) := congrArg ((S 1100007)) (la_enter_18 h69_)
        have e167_ : S 1100007 (S 1100034 0) = S 1100007 (S 1100025 (S 1100033 0 + 1)) := congrArg ((S 1100007)) (la_enter_18 h70_)
        have e168_ : sm_dp (S 1100024) (S 1100023 (S 1100033 0)) = sm_dp (S 1100024) (S 1100023 (S 1100033 0 + 1)) := congrArg ((sm_dp (S 1100024))) (la_enter_18 h69_)
        exact h156_
      refine ⟨(sm_SJ_0 la_enter_16), ?_⟩
      refine ⟨la_enter_19, ?_⟩
      exact la_enter_20
    intro l8_22
    intro h169_
    intro g21
    rintro ⟨h170_, ⟨h171_, ⟨h172_, ⟨h173_, ⟨h174_, ⟨h175_, ⟨h176_, ⟨h177_, ⟨h178_, ⟨h179_, ⟨h180_, ⟨h181_, ⟨h182_, ⟨h183_, ⟨h184_, ⟨h185_, ⟨h186_, h187_⟩⟩⟩⟩⟩⟩⟩⟩⟩⟩⟩⟩⟩⟩⟩⟩⟩
    refine ⟨(la_enter_21 h184_), ?_⟩
    refine ⟨(la_enter_22 h32_ h83_ h91_), ?_⟩
    intro h188_
    refine ⟨?_, ?_⟩
    · skip
      intro h189_
      refine ⟨h108_, ?_⟩
      intro h190_
      have h191_ := (h190_ h122_)
      have h192_ := (h191_ h123_)
      have h193_ := (h192_ h83_)
      refine ⟨(la_enter_23 h39_ h62_ h63_ h64_ h79_), ?_⟩
      intro g35
      rintro ⟨h194_, h195_⟩
      refine ⟨(la_enter_24 h34_ h39_ h41_ h52_ h66_ h79_), ?_⟩
      intro g41
      rintro ⟨h196_, h197_⟩
      intro h198_
      have h199_ := (h198_ h28_)
      have h200_ := (h199_ (sm_FL_F h51_ sm_F1_rf sm_F1_rf sm_F1_rf sm_F1_rf (sm_F1_le (sm_F1_ne h197_ (Int.le_refl _)) (Int.le_refl _)) (sm_F1_le (sm_F1_ne h195_ (Int.le_refl _)) (Int.le_refl _)) sm_F1_rf sm_F1_rf sm_F1_rf sm_F1_rf sm_F1_rf sm_F1_rf h125_ (Int.le_refl _) (sm_F1_up (sm_F1_le h127_ (Int.le_refl _)) (la_enter_25 h142_)) (sm_F1_le h126_ (Int.le_refl _)) (sm_FL_dp h51_ h28_)))
      have h201_ := (h200_ (la_enter_26 h52_ h196_))
      have h202_ := (h201_ (la_enter_27 h41_ h43_ h44_ h45_ h62_ h63_ h64_ h66_ h67_ h68_ h194_))
      have h203_ := (h202_ (la_enter_28 h46_ h101_))
      have h204_ := (h203_ (sm_TC_t h47_ (la_enter_18 h69_)))
      have h205_ := (h204_ (sm_SK_q (sm_SK_pop (sm_SK_m h55_ h125_ (Int.le_refl _) (sm_F1_le h126_ (Int.le_refl _))) (la_enter_29 h63_ h194_)) h70_ rfl rfl))
      have h206_ := (h205_ h104_)
      have h207_ := (h206_ h107_)
      have h208_ := (h207_ h194_)
      have h209_ := (h208_ (sm_LK_m h48_ h125_ (sm_F1_up (sm_F1_le h127_ (Int.le_refl _)) (la_enter_25 h142_))))
      have h210_ := (h209_ (sm_VO_m h49_ h125_ (Int.le_refl _) (sm_F1_le h126_ (Int.le_refl _))))
      have h211_ := (h210_ (sm_FW_m h50_ h125_ (sm_F1_le h126_ (Int.le_refl _))))
      refine ⟨(la_enter_30 h32_ h39_ h79_ h83_ h91_), ?_⟩
      intro g48
      rintro ⟨h212_, ⟨h213_, ⟨h214_, ⟨h215_, ⟨h216_, ⟨h217_, ⟨h218_, ⟨h219_, ⟨h220_, ⟨h221_, ⟨h222_, ⟨h223_, ⟨h224_, ⟨h225_, ⟨h226_, ⟨h227_, h228_⟩⟩⟩⟩⟩⟩⟩⟩⟩⟩⟩⟩⟩⟩⟩⟩
      intro h229_
      refine ⟨h170_, ?_⟩
      refine ⟨h171_, ?_⟩
      refine ⟨h172_, ?_⟩
      refine ⟨h173_, ?_⟩
      refine ⟨(sm_SV_set h174_ (sm_SJ_w h185_ h189_) (la_enter_31 h83_ h91_)), ?_⟩
      refine ⟨h115_, ?_⟩
      refine ⟨h116_, ?_⟩
      refine ⟨h177_, ?_⟩
      refine ⟨h178_, ?_⟩
      refine ⟨h179_, ?_⟩
      refine ⟨?_, ?_⟩
      · skip
        obtain ⟨h230_, ⟨h231_, ⟨h232_, ⟨h233_, ⟨h234_, ⟨h235_, ⟨h236_, h237_⟩⟩⟩⟩⟩⟩⟩ := (((h75_ (S 45 p1)) (la_enter_17 h83_)) h91_)
        obtain ⟨h238_, ⟨h239_, ⟨h240_, ⟨h241_, ⟨h242_, h243_⟩⟩⟩⟩⟩ := (((h77_ (S 45 p1)) (la_enter_17 h83_)) h91_)
        have h244_ := (h195_ (S 1092 0 - 1))
        have h245_ := (h197_ (S 1092 0 - 1))
        have h246_ := (h214_ (S 1092 0))
        have h247_ := ((h214_ (S 1092 0 - 1)) la_enter_33)
        have h248_ := (h216_ (S 1092 0))
        have h249_ := (h218_ (S 1092 0))
        have h250_ := ((h218_ (S 1092 0 - 1)) la_enter_33)
        have h251_ := (h220_ (S 1092 0))
        have h252_ := ((h220_ (S 1092 0 - 1)) la_enter_33)
        have h253_ := (h222_ (S 1092 0))
        have h254_ := ((h222_ (S 1092 0 - 1)) la_enter_33)
        have h255_ := (h222_ (g48 1092 0 - 1))
        have h256_ := (h224_ (S 1092 0))
        have h257_ := ((h224_ (S 1092 0 - 1)) la_enter_33)
        have h258_ := (h226_ (S 1092 0))
        have h259_ := (h228_ (S 1092 0))
        have h260_ := ((h228_ (S 1092 0 - 1)) la_enter_33)
        have e261_ : S 1100007 (S 1100023 (S 1100033 0)) = S 1100007 (S 1100023 (S 1100033 0 + 1)) := congrArg ((S 1100007)) (la_enter_18 h69_)
        have e262_ : S 1100007 (S 1100034 0) = S 1100007 (S 1100025 (S 1100033 0 + 1)) := congrArg ((S 1100007)) (la_enter_18 h70_)
        have e263_ : g48 57 (S 1092 0) = g48 57 (g48 1092 0 - 1) := congrArg ((g48 57)) (la_enter_37 h212_)
        have e264_ : sm_dp (S 1100024) (S 1100023 (S 1100033 0)) = sm_dp (S 1100024) (S 1100023 (S 1100033 0 + 1)) := congrArg ((sm_dp (S 1100024))) (la_enter_18 h69_)
        exact (sm_SC_gs h180_ h144_ (sm_LK_q (sm_LK_q (sm_LK_m h92_ h125_ (sm_F1_le h127_ (Int.le_refl _))) (sm_F1_at h129_ p1 h81_) rfl) (if_pos la_enter_32) rfl) (la_enter_15 h145_))
      refine ⟨h121_, ?_⟩
      refine ⟨?_, ?_⟩
      · skip
        intro h265_
        refine ⟨h22_, ?_⟩
        exact h138_
      refine ⟨(la_enter_38 h24_ h150_), ?_⟩
      refine ⟨h25_, ?_⟩
      refine ⟨h26_, ?_⟩
      refine ⟨h27_, ?_⟩
      refine ⟨h36_, ?_⟩
      refine ⟨(la_enter_39 h7_ h182_), ?_⟩
      refine ⟨(la_enter_40 h39_ h212_), ?_⟩
      refine ⟨(la_enter_41 h79_ h212_), ?_⟩
      refine ⟨la_enter_19, ?_⟩
      refine ⟨?_, ?_⟩
      · skip
        intro h266_
        obtain ⟨h267_, ⟨h268_, ⟨h269_, ⟨h270_, ⟨h271_, ⟨h272_, ⟨h273_, h274_⟩⟩⟩⟩⟩⟩⟩ := (((h75_ (S 45 p1)) (la_enter_17 h83_)) h91_)
        obtain ⟨h275_, ⟨h276_, ⟨h277_, ⟨h278_, ⟨h279_, h280_⟩⟩⟩⟩⟩ := (((h77_ (S 45 p1)) (la_enter_17 h83_)) h91_)
        have h281_ := (h195_ (S 1092 0 - 1))
        have h282_ := (h197_ (S 1092 0 - 1))
        have h283_ := (h214_ (S 1092 0))
        have h284_ := ((h214_ (S 1092 0 - 1)) la_enter_33)
        have h285_ := (h216_ (S 1092 0))
        have h286_ := (h218_ (S 1092 0))
        have h287_ := ((h218_ (S 1092 0 - 1)) la_enter_33)
        have h288_ := (h220_ (S 1092 0))
        have h289_ := ((h220_ (S 1092 0 - 1)) la_enter_33)
        have h290_ := (h222_ (S 1092 0))
        have h291_ := ((h222_ (S 1092 0 - 1)) la_enter_33)
        have h292_ := (h222_ (g48 1092 0 - 1))
        have h293_ := (h224_ (S 1092 0))
        have h294_ := ((h224_ (S 1092 0 - 1)) la_enter_33)
        have h295_ := (h226_ (S 1092 0))
        have h296_ := (h228_ (S 1092 0))
        have h297_ := ((h228_ (S 1092 0 - 1)) la_enter_33)
        have e298_ : S 1100007 (S 1100023 (S 1100033 0)) = S 1100007 (S 1100023 (S 1100033 0 + 1)) := congrArg ((S 1100007)) (la_enter_18 h69_)
        have e299_ : S 1100007 (S 1100034 0) = S 1100007 (S 1100025 (S 1100033 0 + 1)) := congrArg ((S 1100007)) (la_enter_18 h70_)
        have e300_ : g48 57 (S 1092 0) = g48 57 (g48 1092 0 - 1) := congrArg ((g48 57)) (la_enter_37 h212_)
        have e301_ : sm_dp (S 1100024) (S 1100023 (S 1100033 0)) = sm_dp (S 1100024) (S 1100023 (S 1100033 0 + 1)) := congrArg ((sm_dp (S 1100024))) (la_enter_18 h69_)
        have e302_ : S 1100023 (g48 57 (g48 1092 0 - 1)) = S 1100023 (S 30 (S 45 p1)) := congrArg ((S 1100023)) (la_enter_44 h221_ e300_)
        have h303_ := (h229_ (la_enter_45 h270_ e302_))
        exact ((la_enter_46 h182_ (la_enter_43 (la_enter_42 h182_) h266_))).elim
      refine ⟨?_, ?_⟩
      · skip
        intro h304_
        intro h305_
        refine ⟨(la_enter_47 h39_ h212_), ?_⟩
        refine ⟨(la_enter_41 h79_ h212_), ?_⟩
        refine ⟨?_, ?_⟩
        · skip
          obtain ⟨h306_, ⟨h307_, ⟨h308_, ⟨h309_, ⟨h310_, ⟨h311_, ⟨h312_, h313_⟩⟩⟩⟩⟩⟩⟩ := (((h75_ (S 45 p1)) (la_enter_17 h83_)) h91_)
          obtain ⟨h314_, ⟨h315_, ⟨h316_, ⟨h317_, ⟨h318_, h319_⟩⟩⟩⟩⟩ := (((h77_ (S 45 p1)) (la_enter_17 h83_)) h91_)
          have h320_ := (h195_ (S 1092 0 - 1))
          have h321_ := (h197_ (S 1092 0 - 1))
          have h322_ := (h214_ (S 1092 0))
          have h323_ := ((h214_ (S 1092 0 - 1)) la_enter_33)
          have h324_ := (h216_ (S 1092 0))
          have h325_ := (h218_ (S 1092 0))
          have h326_ := ((h218_ (S 1092 0 - 1)) la_enter_33)
          have h327_ := (h220_ (S 1092 0))
          have h328_ := ((h220_ (S 1092 0 - 1)) la_enter_33)
          have h329_ := (h222_ (S 1092 0))
          have h330_ := ((h222_ (S 1092 0 - 1)) la_enter_33)
          have h331_ := (h222_ (g48 1092 0 - 1))
          have h332_ := (h224_ (S 1092 0))
          have h333_ := ((h224_ (S 1092 0 - 1)) la_enter_33)
          have h334_ := (h226_ (S 1092 0))
          have h335_ := (h228_ (S 1092 0))
          have h336_ := ((h228_ (S 1092 0 - 1)) la_enter_33)
          have e337_ : S 1100007 (S 1100023 (S 1100033 0)) = S 1100007 (S 1100023 (S 1100033 0 + 1)) := congrArg ((S 1100007)) (la_enter_18 h69_)
          have e338_ : S 1100007 (S 1100034 0) = S 1100007 (S 1100025 (S 1100033 0 + 1)) := congrArg ((S 1100007)) (la_enter_18 h70_)
          have e339_ : g48 57 (S 1092 0) = g48 57 (g48 1092 0 - 1) := congrArg ((g48 57)) (la_enter_37 h212_)
          have e340_ : sm_dp (S 1100024) (S 1100023 (S 1100033 0)) = sm_dp (S 1100024) (S 1100023 (S 1100033 0 + 1)) := congrArg ((sm_dp (S 1100024))) (la_enter_18 h69_)
          exact (la_enter_48 h221_ h306_ e339_)
        refine ⟨?_, ?_⟩
        · skip
          obtain ⟨h341_, ⟨h342_, ⟨h343_, ⟨h344_, ⟨h345_, ⟨h346_, ⟨h347_, h348_⟩⟩⟩⟩⟩⟩⟩ := (((h75_ (S 45 p1)) (la_enter_17 h83_)) h91_)
          obtain ⟨h349_, ⟨h350_, ⟨h351_, ⟨h352_, ⟨h353_, h354_⟩⟩⟩⟩⟩ := (((h77_ (S 45 p1)) (la_enter_17 h83_)) h91_)
          have h355_ := (h195_ (S 1092 0 - 1))
          have h356_ := (h197_ (S 1092 0 - 1))
          have h357_ := (h214_ (S 1092 0))
          have h358_ := ((h214_ (S 1092 0 - 1)) la_enter_33)
          have h359_ := (h216_ (S 1092 0))
          have h360_ := (h218_ (S 1092 0))
          have h361_ := ((h218_ (S 1092 0 - 1)) la_enter_33)
          have h362_ := (h220_ (S 1092 0))
          have h363_ := ((h220_ (S 1092 0 - 1)) la_enter_33)
          have h364_ := (h222_ (S 1092 0))
          have h365_ := ((h222_ (S 1092 0 - 1)) la_enter_33)
          have h366_ := (h222_ (g48 1092 0 - 1))
          have h367_ := (h224_ (S 1092 0))
          have h368_ := ((h224_ (S 1092 0 - 1)) la_enter_33)
          have h369_ := (h226_ (S 1092 0))
          have h370_ := (h228_ (S 1092 0))
          have h371_ := ((h228_ (S 1092 0 - 1)) la_enter_33)
          have e372_ : S 1100007 (S 1100023 (S 1100033 0)) = S 1100007 (S 1100023 (S 1100033 0 + 1)) := congrArg ((S 1100007)) (la_enter_18 h69_)
          have e373_ : S 1100007 (S 1100034 0) = S 1100007 (S 1100025 (S 1100033 0 + 1)) := congrArg ((S 1100007)) (la_enter_18 h70_)
          have e374_ : g48 57 (S 1092 0) = g48 57 (g48 1092 0 - 1) := congrArg ((g48 57)) (la_enter_37 h212_)
          have e375_ : sm_dp (S 1100024) (S 1100023 (S 1100033 0)) = sm_dp (S 1100024) (S 1100023 (S 1100033 0 + 1)) := congrArg ((sm_dp (S 1100024))) (la_enter_18 h69_)
          exact (la_enter_49 h221_ h342_ e374_)
        refine ⟨?_, ?_⟩
        · skip
          obtain ⟨h376_, ⟨h377_, ⟨h378_, ⟨h379_, ⟨h380_, ⟨h381_, ⟨h382_, h383_⟩⟩⟩⟩⟩⟩⟩ := (((h75_ (S 45 p1)) (la_enter_17 h83_)) h91_)
          obtain ⟨h384_, ⟨h385_, ⟨h386_, ⟨h387_, ⟨h388_, h389_⟩⟩⟩⟩⟩ := (((h77_ (S 45 p1)) (la_enter_17 h83_)) h91_)
          have h390_ := (h195_ (S 1092 0 - 1))
          have h391_ := (h197_ (S 1092 0 - 1))
          have h392_ := (h214_ (S 1092 0))
          have h393_ := ((h214_ (S 1092 0 - 1)) la_enter_33)
          have h394_ := (h214_ (g48 1092 0 - 1))
          have h395_ := (h216_ (S 1092 0))
          have h396_ := (h218_ (S 1092 0))
          have h397_ := ((h218_ (S 1092 0 - 1)) la_enter_33)
          have h398_ := (h220_ (S 1092 0))
          have h399_ := ((h220_ (S 1092 0 - 1)) la_enter_33)
          have h400_ := (h222_ (S 1092 0))
          have h401_ := ((h222_ (S 1092 0 - 1)) la_enter_33)
          have h402_ := (h222_ (g48 1092 0 - 1))
          have h403_ := (h224_ (S 1092 0))
          have h404_ := ((h224_ (S 1092 0 - 1)) la_enter_33)
          have h405_ := (h226_ (S 1092 0))
          have h406_ := (h228_ (S 1092 0))
          have h407_ := ((h228_ (S 1092 0 - 1)) la_enter_33)
          have e408_ : S 1100007 (S 1100023 (S 1100033 0)) = S 1100007 (S 1100023 (S 1100033 0 + 1)) := congrArg ((S 1100007)) (la_enter_18 h69_)
          have e409_ : S 1100007 (S 1100034 0) = S 1100007 (S 1100025 (S 1100033 0 + 1)) := congrArg ((S 1100007)) (la_enter_18 h70_)
          have e410_ : g48 53 (S 1092 0) = g48 53 (g48 1092 0 - 1) := congrArg ((g48 53)) (la_enter_37 h212_)
          have e411_ : g48 57 (S 1092 0) = g48 57 (g48 1092 0 - 1) := congrArg ((g48 57)) (la_enter_37 h212_)
          have e412_ : sm_dp (S 1100024) (S 1100023 (S 1100033 0)) = sm_dp (S 1100024) (S 1100023 (S 1100033 0 + 1)) := congrArg ((sm_dp (S 1100024))) (la_enter_18 h69_)
          have e413_ : S 1100023 (g48 57 (g48 1092 0 - 1)) = S 1100023 (S 30 (S 45 p1)) := congrArg ((S 1100023)) (la_enter_44 h221_ e411_)
          have e414_ : S 29 (g48 57 (g48 1092 0 - 1)) = S 29 (S 30 (S 45 p1)) := congrArg ((S 29)) (la_enter_44 h221_ e411_)
          have h415_ := (h229_ (la_enter_45 h379_ e413_))
          exact (la_enter_50 h213_ h386_ e410_ e414_)
        refine ⟨?_, ?_⟩
        · skip
          obtain ⟨h416_, ⟨h417_, ⟨h418_, ⟨h419_, ⟨h420_, ⟨h421_, ⟨h422_, h423_⟩⟩⟩⟩⟩⟩⟩ := (((h75_ (S 45 p1)) (la_enter_17 h83_)) h91_)
          obtain ⟨h424_, ⟨h425_, ⟨h426_, ⟨h427_, ⟨h428_, h429_⟩⟩⟩⟩⟩ := (((h77_ (S 45 p1)) (la_enter_17 h83_)) h91_)
          have h430_ := (h195_ (S 1092 0 - 1))
          have h431_ := (h197_ (S 1092 0 - 1))
          have h432_ := (h214_ (S 1092 0))
          have h433_ := ((h214_ (S 1092 0 - 1)) la_enter_33)
          have h434_ := (h214_ (g48 1092 0 - 1))
          have h435_ := (h216_ (S 1092 0))
          have h436_ := (h218_ (S 1092 0))
          have h437_ := ((h218_ (S 1092 0 - 1)) la_enter_33)
          have h438_ := (h220_ (S 1092 0))
          have h439_ := ((h220_ (S 1092 0 - 1)) la_enter_33)
          have h440_ := (h222_ (S 1092 0))
          have h441_ := ((h222_ (S 1092 0 - 1)) la_enter_33)
          have h442_ := (h222_ (g48 1092 0 - 1))
          have h443_ := (h224_ (S 1092 0))
          have h444_ := ((h224_ (S 1092 0 - 1)) la_enter_33)
          have h445_ := (h226_ (S 1092 0))
          have h446_ := (h228_ (S 1092 0))
          have h447_ := ((h228_ (S 1092 0 - 1)) la_enter_33)
          have e448_ : S 1100007 (S 1100023 (S 1100033 0)) = S 1100007 (S 1100023 (S 1100033 0 + 1)) := congrArg ((S 1100007)) (la_enter_18 h69_)
          have e449_ : S 1100007 (S 1100034 0) = S 1100007 (S 1100025 (S 1100033 0 + 1)) := congrArg ((S 1100007)) (la_enter_18 h70_)
          have e450_ : g48 53 (S 1092 0) = g48 53 (g48 1092 0 - 1) := congrArg ((g48 53)) (la_enter_37 h212_)
          have e451_ : g48 57 (S 1092 0) = g48 57 (g48 1092 0 - 1) := congrArg ((g48 57)) (la_enter_37 h212_)
          have e452_ : sm_dp (S 1100024) (S 1100023 (S 1100033 0)) = sm_dp (S 1100024) (S 1100023 (S 1100033 0 + 1)) := congrArg ((sm_dp (S 1100024))) (la_enter_18 h69_)
          exact (la_enter_51 h83_ h213_ e450_)
        refine ⟨?_, ?_⟩
        · skip
          obtain ⟨h453_, ⟨h454_, ⟨h455_, ⟨h456_, ⟨h457_, ⟨h458_, ⟨h459_, h460_⟩⟩⟩⟩⟩⟩⟩ := (((h75_ (S 45 p1)) (la_enter_17 h83_)) h91_)
          obtain ⟨h461_, ⟨h462_, ⟨h463_, ⟨h464_, ⟨h465_, h466_⟩⟩⟩⟩⟩ := (((h77_ (S 45 p1)) (la_enter_17 h83_)) h91_)
          have h467_ := (h195_ (S 1092 0 - 1))
          have h468_ := (h197_ (S 1092 0 - 1))
          have h469_ := (h214_ (S 1092 0))
          have h470_ := ((h214_ (S 1092 0 - 1)) la_enter_33)
          have h471_ := (h214_ (g48 1092 0 - 1))
          have h472_ := (h216_ (S 1092 0))
          have h473_ := (h218_ (S 1092 0))
          have h474_ := ((h218_ (S 1092 0 - 1)) la_enter_33)
          have h475_ := (h220_ (S 1092 0))
          have h476_ := ((h220_ (S 1092 0 - 1)) la_enter_33)
          have h477_ := (h222_ (S 1092 0))
          have h478_ := ((h222_ (S 1092 0 - 1)) la_enter_33)
          have h479_ := (h222_ (g48 1092 0 - 1))
          have h480_ := (h224_ (S 1092 0))
          have h481_ := ((h224_ (S 1092 0 - 1)) la_enter_33)
          have h482_ := (h226_ (S 1092 0))
          have h483_ := (h228_ (S 1092 0))
          have h484_ := ((h228_ (S 1092 0 - 1)) la_enter_33)
          have e485_ : S 1100007 (S 1100023 (S 1100033 0)) = S 1100007 (S 1100023 (S 1100033 0 + 1)) := congrArg ((S 1100007)) (la_enter_18 h69_)
          have e486_ : S 1100007 (S 1100034 0) = S 1100007 (S 1100025 (S 1100033 0 + 1)) := congrArg ((S 1100007)) (la_enter_18 h70_)
          have e487_ : g48 53 (S 1092 0) = g48 53 (g48 1092 0 - 1) := congrArg ((g48 53)) (la_enter_37 h212_)
          have e488_ : g48 57 (S 1092 0) = g48 57 (g48 1092 0 - 1) := congrArg ((g48 57)) (la_enter_37 h212_)
          have e489_ : sm_dp (S 1100024) (S 1100023 (S 1100033 0)) = sm_dp (S 1100024) (S 1100023 (S 1100033 0 + 1)) := congrArg ((sm_dp (S 1100024))) (la_enter_18 h69_)
          exact (la_enter_52 h91_ h213_ e487_)
        refine ⟨?_, ?_⟩
        · skip
          obtain ⟨h490_, ⟨h491_, ⟨h492_, ⟨h493_, ⟨h494_, ⟨h495_, ⟨h496_, h497_⟩⟩⟩⟩⟩⟩⟩ := (((h75_ (S 45 p1)) (la_enter_17 h83_)) h91_)
          obtain ⟨h498_, ⟨h499_, ⟨h500_, ⟨h501_, ⟨h502_, h503_⟩⟩⟩⟩⟩ := (((h77_ (S 45 p1)) (la_enter_17 h83_)) h91_)
          have h504_ := (h195_ (S 1092 0 - 1))
          have h505_ := (h197_ (S 1092 0 - 1))
          have h506_ := (h214_ (S 1092 0))
          have h507_ := ((h214_ (S 1092 0 - 1)) la_enter_33)
          have h508_ := (h216_ (S 1092 0))
          have h509_ := (h218_ (S 1092 0))
          have h510_ := ((h218_ (S 1092 0 - 1)) la_enter_33)
          have h511_ := (h220_ (S 1092 0))
          have h512_ := ((h220_ (S 1092 0 - 1)) la_enter_33)
          have h513_ := (h222_ (S 1092 0))
          have h514_ := ((h222_ (S 1092 0 - 1)) la_enter_33)
          have h515_ := (h222_ (g48 1092 0 - 1))
          have h516_ := (h224_ (S 1092 0))
          have h517_ := ((h224_ (S 1092 0 - 1)) la_enter_33)
          have h518_ := (h226_ (S 1092 0))
          have h519_ := (h228_ (S 1092 0))
          have h520_ := ((h228_ (S 1092 0 - 1)) la_enter_33)
          have h521_ := (h228_ (g48 1092 0 - 1))
          have e522_ : S 1100007 (S 1100023 (S 1100033 0)) = S 1100007 (S 1100023 (S 1100033 0 + 1)) := congrArg ((S 1100007)) (la_enter_18 h69_)
          have e523_ : S 1100007 (S 1100034 0) = S 1100007 (S 1100025 (S 1100033 0 + 1)) := congrArg ((S 1100007)) (la_enter_18 h70_)
          have e524_ : g48 57 (S 1092 0) = g48 57 (g48 1092 0 - 1) := congrArg ((g48 57)) (la_enter_37 h212_)
          have e525_ : g48 60 (S 1092 0) = g48 60 (g48 1092 0 - 1) := congrArg ((g48 60)) (la_enter_37 h212_)
          have e526_ : sm_dp (S 1100024) (S 1100023 (S 1100033 0)) = sm_dp (S 1100024) (S 1100023 (S 1100033 0 + 1)) := congrArg ((sm_dp (S 1100024))) (la_enter_18 h69_)
          have e527_ : S 1100023 (g48 57 (g48 1092 0 - 1)) = S 1100023 (S 30 (S 45 p1)) := congrArg ((S 1100023)) (la_enter_44 h221_ e524_)
          have h528_ := (h229_ (la_enter_45 h493_ e527_))
          exact (la_enter_53 h227_ e525_ h528_)
        refine ⟨?_, ?_⟩
        · skip
          obtain ⟨h529_, ⟨h530_, ⟨h531_, ⟨h532_, ⟨h533_, ⟨h534_, ⟨h535_, h536_⟩⟩⟩⟩⟩⟩⟩ := (((h75_ (S 45 p1)) (la_enter_17 h83_)) h91_)
          obtain ⟨h537_, ⟨h538_, ⟨h539_, ⟨h540_, ⟨h541_, h542_⟩⟩⟩⟩⟩ := (((h77_ (S 45 p1)) (la_enter_17 h83_)) h91_)
          have h543_ := (h195_ (S 1092 0 - 1))
          have h544_ := (h197_ (S 1092 0 - 1))
          have h545_ := (h214_ (S 1092 0))
          have h546_ := ((h214_ (S 1092 0 - 1)) la_enter_33)
          have h547_ := (h216_ (S 1092 0))
          have h548_ := (h218_ (S 1092 0))
          have h549_ := ((h218_ (S 1092 0 - 1)) la_enter_33)
          have h550_ := (h220_ (S 1092 0))
          have h551_ := ((h220_ (S 1092 0 - 1)) la_enter_33)
          have h552_ := (h222_ (S 1092 0))
          have h553_ := ((h222_ (S 1092 0 - 1)) la_enter_33)
          have h554_ := (h222_ (g48 1092 0 - 1))
          have h555_ := (h224_ (S 1092 0))
          have h556_ := ((h224_ (S 1092 0 - 1)) la_enter_33)
          have h557_ := (h226_ (S 1092 0))
          have h558_ := (h228_ (S 1092 0))
          have h559_ := ((h228_ (S 1092 0 - 1)) la_enter_33)
          have e560_ : S 1100007 (S 1100023 (S 1100033 0)) = S 1100007 (S 1100023 (S 1100033 0 + 1)) := congrArg ((S 1100007)) (la_enter_18 h69_)
          have e561_ : S 1100007 (S 1100034 0) = S 1100007 (S 1100025 (S 1100033 0 + 1)) := congrArg ((S 1100007)) (la_enter_18 h70_)
          have e562_ : g48 57 (S 1092 0) = g48 57 (g48 1092 0 - 1) := congrArg ((g48 57)) (la_enter_37 h212_)
          have e563_ : sm_dp (S 1100024) (S 1100023 (S 1100033 0)) = sm_dp (S 1100024) (S 1100023 (S 1100033 0 + 1)) := congrArg ((sm_dp (S 1100024))) (la_enter_18 h69_)
          have e564_ : S 1100023 (g48 57 (g48 1092 0 - 1)) = S 1100023 (S 30 (S 45 p1)) := congrArg ((S 1100023)) (la_enter_44 h221_ e562_)
          have h565_ := (h229_ (la_enter_45 h532_ e564_))
          exact (sm_TC_0 (la_enter_45 h532_ e564_))
        refine ⟨?_, ?_⟩
        · skip
          obtain ⟨h566_, ⟨h567_, ⟨h568_, ⟨h569_, ⟨h570_, ⟨h571_, ⟨h572_, h573_⟩⟩⟩⟩⟩⟩⟩ := (((h75_ (S 45 p1)) (la_enter_17 h83_)) h91_)
          obtain ⟨h574_, ⟨h575_, ⟨h576_, ⟨h577_, ⟨h578_, h579_⟩⟩⟩⟩⟩ := (((h77_ (S 45 p1)) (la_enter_17 h83_)) h91_)
          have h580_ := (h195_ (S 1092 0 - 1))
          have h581_ := (h197_ (S 1092 0 - 1))
          have h582_ := (h214_ (S 1092 0))
          have h583_ := ((h214_ (S 1092 0 - 1)) la_enter_33)
          have h584_ := (h214_ (g48 1092 0 - 1))
          have h585_ := (h216_ (S 1092 0))
          have h586_ := (h216_ (g48 1092 0 - 1))
          have h587_ := (h218_ (S 1092 0))
          have h588_ := ((h218_ (S 1092 0 - 1)) la_enter_33)
          have h589_ := (h220_ (S 1092 0))
          have h590_ := ((h220_ (S 1092 0 - 1)) la_enter_33)
          have h591_ := (h222_ (S 1092 0))
          have h592_ := ((h222_ (S 1092 0 - 1)) la_enter_33)
          have h593_ := (h222_ (g48 1092 0 - 1))
          have h594_ := (h224_ (S 1092 0))
          have h595_ := ((h224_ (S 1092 0 - 1)) la_enter_33)
          have h596_ := (h226_ (S 1092 0))
          have h597_ := (h228_ (S 1092 0))
          have h598_ := ((h228_ (S 1092 0 - 1)) la_enter_33)
          have e599_ : S 1100007 (S 1100023 (S 1100033 0)) = S 1100007 (S 1100023 (S 1100033 0 + 1)) := congrArg ((S 1100007)) (la_enter_18 h69_)
          have e600_ : S 1100007 (S 1100034 0) = S 1100007 (S 1100025 (S 1100033 0 + 1)) := congrArg ((S 1100007)) (la_enter_18 h70_)
          have e601_ : g48 53 (S 1092 0) = g48 53 (g48 1092 0 - 1) := congrArg ((g48 53)) (la_enter_37 h212_)
          have e602_ : g48 54 (S 1092 0) = g48 54 (g48 1092 0 - 1) := congrArg ((g48 54)) (la_enter_37 h212_)
          have e603_ : g48 57 (S 1092 0) = g48 57 (g48 1092 0 - 1) := congrArg ((g48 57)) (la_enter_37 h212_)
          have e604_ : sm_dp (S 1100024) (S 1100023 (S 1100033 0)) = sm_dp (S 1100024) (S 1100023 (S 1100033 0 + 1)) := congrArg ((sm_dp (S 1100024))) (la_enter_18 h69_)
          exact (sm_LK_q h193_ (la_enter_44 h215_ e602_) (la_enter_44 h213_ e601_))
        refine ⟨?_, ?_⟩
        · skip
          obtain ⟨h605_, ⟨h606_, ⟨h607_, ⟨h608_, ⟨h609_, ⟨h610_, ⟨h611_, h612_⟩⟩⟩⟩⟩⟩⟩ := (((h75_ (S 45 p1)) (la_enter_17 h83_)) h91_)
          obtain ⟨h613_, ⟨h614_, ⟨h615_, ⟨h616_, ⟨h617_, h618_⟩⟩⟩⟩⟩ := (((h77_ (S 45 p1)) (la_enter_17 h83_)) h91_)
          have h619_ := (h195_ (S 1092 0 - 1))
          have h620_ := (h197_ (S 1092 0 - 1))
          have h621_ := (h214_ (S 1092 0))
          have h622_ := ((h214_ (S 1092 0 - 1)) la_enter_33)
          have h623_ := (h216_ (S 1092 0))
          have h624_ := (h218_ (S 1092 0))
          have h625_ := ((h218_ (S 1092 0 - 1)) la_enter_33)
          have h626_ := (h218_ (g48 1092 0 - 1))
          have h627_ := (h220_ (S 1092 0))
          have h628_ := ((h220_ (S 1092 0 - 1)) la_enter_33)
          have h629_ := (h220_ (g48 1092 0 - 1))
          have h630_ := (h222_ (S 1092 0))
          have h631_ := ((h222_ (S 1092 0 - 1)) la_enter_33)
          have h632_ := (h222_ (g48 1092 0 - 1))
          have h633_ := (h224_ (S 1092 0))
          have h634_ := ((h224_ (S 1092 0 - 1)) la_enter_33)
          have h635_ := (h226_ (S 1092 0))
          have h636_ := (h228_ (S 1092 0))
          have h637_ := ((h228_ (S 1092 0 - 1)) la_enter_33)
          have e638_ : S 1100007 (S 1100023 (S 1100033 0)) = S 1100007 (S 1100023 (S 1100033 0 + 1)) := congrArg ((S 1100007)) (la_enter_18 h69_)
          have e639_ : S 1100007 (S 1100034 0) = S 1100007 (S 1100025 (S 1100033 0 + 1)) := congrArg ((S 1100007)) (la_enter_18 h70_)
          have e640_ : g48 55 (S 1092 0) = g48 55 (g48 1092 0 - 1) := congrArg ((g48 55)) (la_enter_37 h212_)
          have e641_ : g48 56 (S 1092 0) = g48 56 (g48 1092 0 - 1) := congrArg ((g48 56)) (la_enter_37 h212_)
          have e642_ : g48 57 (S 1092 0) = g48 57 (g48 1092 0 - 1) := congrArg ((g48 57)) (la_enter_37 h212_)
          have e643_ : sm_dp (S 1100024) (S 1100023 (S 1100033 0)) = sm_dp (S 1100024) (S 1100023 (S 1100033 0 + 1)) := congrArg ((sm_dp (S 1100024))) (la_enter_18 h69_)
          exact (sm_VO_eq (sm_VO_m h84_ h125_ (Int.le_refl _) (sm_F1_le h126_ (Int.le_refl _))) (la_enter_44 h217_ e640_) (la_enter_44 h219_ e641_))
        refine ⟨?_, ?_⟩
        · skip
          obtain ⟨h644_, ⟨h645_, ⟨h646_, ⟨h647_, ⟨h648_, ⟨h649_, ⟨h650_, h651_⟩⟩⟩⟩⟩⟩⟩ := (((h75_ (S 45 p1)) (la_enter_17 h83_)) h91_)
          obtain ⟨h652_, ⟨h653_, ⟨h654_, ⟨h655_, ⟨h656_, h657_⟩⟩⟩⟩⟩ := (((h77_ (S 45 p1)) (la_enter_17 h83_)) h91_)
          have h658_ := (h195_ (S 1092 0 - 1))
          have h659_ := (h197_ (S 1092 0 - 1))
          have h660_ := (h214_ (S 1092 0))
          have h661_ := ((h214_ (S 1092 0 - 1)) la_enter_33)
          have h662_ := (h216_ (S 1092 0))
          have h663_ := (h218_ (S 1092 0))
          have h664_ := ((h218_ (S 1092 0 - 1)) la_enter_33)
          have h665_ := (h220_ (S 1092 0))
          have h666_ := ((h220_ (S 1092 0 - 1)) la_enter_33)
          have h667_ := (h222_ (S 1092 0))
          have h668_ := ((h222_ (S 1092 0 - 1)) la_enter_33)
          have h669_ := (h222_ (g48 1092 0 - 1))
          have h670_ := (h224_ (S 1092 0))
          have h671_ := ((h224_ (S 1092 0 - 1)) la_enter_33)
          have h672_ := (h226_ (S 1092 0))
          have h673_ := (h226_ (g48 1092 0 - 1))
          have h674_ := (h228_ (S 1092 0))
          have h675_ := ((h228_ (S 1092 0 - 1)) la_enter_33)
          have e676_ : S 1100007 (S 1100023 (S 1100033 0)) = S 1100007 (S 1100023 (S 1100033 0 + 1)) := congrArg ((S 1100007)) (la_enter_18 h69_)
          have e677_ : S 1100007 (S 1100034 0) = S 1100007 (S 1100025 (S 1100033 0 + 1)) := congrArg ((S 1100007)) (la_enter_18 h70_)
          have e678_ : g48 57 (S 1092 0) = g48 57 (g48 1092 0 - 1) := congrArg ((g48 57)) (la_enter_37 h212_)
          have e679_ : g48 59 (S 1092 0) = g48 59 (g48 1092 0 - 1) := congrArg ((g48 59)) (la_enter_37 h212_)
          have e680_ : sm_dp (S 1100024) (S 1100023 (S 1100033 0)) = sm_dp (S 1100024) (S 1100023 (S 1100033 0 + 1)) := congrArg ((sm_dp (S 1100024))) (la_enter_18 h69_)
          exact (sm_FW_q (sm_FW_m h85_ h125_ (sm_F1_le h126_ (Int.le_refl _))) (la_enter_44 h225_ e679_))
        refine ⟨(sm_FL_F (sm_FL_w h211_ (la_enter_54 h212_)) (sm_F1_le (sm_F1_ne h214_ (Int.le_refl _)) (la_enter_54 h212_)) (sm_F1_le (sm_F1_ne h216_ (Int.le_refl _)) (la_enter_54 h212_)) (sm_F1_le (sm_F1_ne h218_ (Int.le_refl _)) (la_enter_54 h212_)) (sm_F1_le (sm_F1_ne h220_ (Int.le_refl _)) (la_enter_54 h212_)) (sm_F1_le (sm_F1_ne h222_ (Int.le_refl _)) (la_enter_54 h212_)) (sm_F1_le (sm_F1_ne h224_ (Int.le_refl _)) (la_enter_54 h212_)) (sm_F1_le (sm_F1_ne h226_ (Int.le_refl _)) (la_enter_54 h212_)) (sm_F1_le (sm_F1_ne h228_ (Int.le_refl _)) (la_enter_54 h212_)) sm_F1_rf sm_F1_rf sm_F1_rf sm_F1_rf (Int.le_refl _) (Int.le_refl _) sm_F1_rf sm_F1_rf (sm_FL_dp (sm_FL_w h211_ (la_enter_54 h212_)) h28_)), ?_⟩
        refine ⟨?_, ?_⟩
        · skip
          obtain ⟨h681_, ⟨h682_, ⟨h683_, ⟨h684_, ⟨h685_, ⟨h686_, ⟨h687_, h688_⟩⟩⟩⟩⟩⟩⟩ := (((h75_ (S 45 p1)) (la_enter_17 h83_)) h91_)
          obtain ⟨h689_, ⟨h690_, ⟨h691_, ⟨h692_, ⟨h693_, h694_⟩⟩⟩⟩⟩ := (((h77_ (S 45 p1)) (la_enter_17 h83_)) h91_)
          have h695_ := (h195_ (S 1092 0 - 1))
          have h696_ := (h197_ (S 1092 0 - 1))
          have h697_ := (h214_ (S 1092 0))
          have h698_ := ((h214_ (S 1092 0 - 1)) la_enter_33)
          have h699_ := (h216_ (S 1092 0))
          have h700_ := (h218_ (S 1092 0))
          have h701_ := ((h218_ (S 1092 0 - 1)) la_enter_33)
          have h702_ := (h220_ (S 1092 0))
          have h703_ := ((h220_ (S 1092 0 - 1)) la_enter_33)
          have h704_ := (h222_ (S 1092 0))
          have h705_ := ((h222_ (S 1092 0 - 1)) la_enter_33)
          have h706_ := (h222_ (g48 1092 0 - 1))
          have h707_ := (h224_ (S 1092 0))
          have h708_ := ((h224_ (S 1092 0 - 1)) la_enter_33)
          have h709_ := (h224_ (g48 1092 0 - 1))
          have h710_ := (h226_ (S 1092 0))
          have h711_ := (h228_ (S 1092 0))
          have h712_ := ((h228_ (S 1092 0 - 1)) la_enter_33)
          have e713_ : S 1100007 (S 1100023 (S 1100033 0)) = S 1100007 (S 1100023 (S 1100033 0 + 1)) := congrArg ((S 1100007)) (la_enter_18 h69_)
          have e714_ : S 1100007 (S 1100034 0) = S 1100007 (S 1100025 (S 1100033 0 + 1)) := congrArg ((S 1100007)) (la_enter_18 h70_)
          have e715_ : g48 57 (S 1092 0) = g48 57 (g48 1092 0 - 1) := congrArg ((g48 57)) (la_enter_37 h212_)
          have e716_ : g48 58 (S 1092 0) = g48 58 (g48 1092 0 - 1) := congrArg ((g48 58)) (la_enter_37 h212_)
          have e717_ : sm_dp (S 1100024) (S 1100023 (S 1100033 0)) = sm_dp (S 1100024) (S 1100023 (S 1100033 0 + 1)) := congrArg ((sm_dp (S 1100024))) (la_enter_18 h69_)
          have e718_ : S 1100007 (g48 57 (g48 1092 0 - 1)) = S 1100007 (S 30 (S 45 p1)) := congrArg ((S 1100007)) (la_enter_44 h221_ e715_)
          have e719_ : S 1100023 (g48 57 (g48 1092 0 - 1)) = S 1100023 (S 30 (S 45 p1)) := congrArg ((S 1100023)) (la_enter_44 h221_ e715_)
          have h720_ := (h229_ (la_enter_45 h684_ e719_))
          exact (la_enter_55 h223_ h683_ e716_ e718_)
        obtain ⟨h721_, ⟨h722_, ⟨h723_, ⟨h724_, ⟨h725_, ⟨h726_, ⟨h727_, h728_⟩⟩⟩⟩⟩⟩⟩ := (((h75_ (S 45 p1)) (la_enter_17 h83_)) h91_)
        obtain ⟨h729_, ⟨h730_, ⟨h731_, ⟨h732_, ⟨h733_, h734_⟩⟩⟩⟩⟩ := (((h77_ (S 45 p1)) (la_enter_17 h83_)) h91_)
        have h735_ := (h195_ (S 1092 0 - 1))
        have h736_ := (h197_ (S 1092 0 - 1))
        have h737_ := (h214_ (S 1092 0))
        have h738_ := ((h214_ (S 1092 0 - 1)) la_enter_33)
        have h739_ := (h216_ (S 1092 0))
        have h740_ := (h218_ (S 1092 0))
        have h741_ := ((h218_ (S 1092 0 - 1)) la_enter_33)
        have h742_ := (h220_ (S 1092 0))
        have h743_ := ((h220_ (S 1092 0 - 1)) la_enter_33)
        have h744_ := (h222_ (S 1092 0))
        have h745_ := ((h222_ (S 1092 0 - 1)) la_enter_33)
        have h746_ := (h222_ (g48 1092 0 - 1))
        have h747_ := (h224_ (S 1092 0))
        have h748_ := ((h224_ (S 1092 0 - 1)) la_enter_33)
        have h749_ := (h224_ (g48 1092 0 - 1))
        have h750_ := (h226_ (S 1092 0))
        have h751_ := (h228_ (S 1092 0))
        have h752_ := ((h228_ (S 1092 0 - 1)) la_enter_33)
        have e753_ : S 1100007 (S 1100023 (S 1100033 0)) = S 1100007 (S 1100023 (S 1100033 0 + 1)) := congrArg ((S 1100007)) (la_enter_18 h69_)
        have e754_ : S 1100007 (S 1100034 0) = S 1100007 (S 1100025 (S 1100033 0 + 1)) := congrArg ((S 1100007)) (la_enter_18 h70_)
        have e755_ : g48 57 (S 1092 0) = g48 57 (g48 1092 0 - 1) := congrArg ((g48 57)) (la_enter_37 h212_)
        have e756_ : g48 58 (S 1092 0) = g48 58 (g48 1092 0 - 1) := congrArg ((g48 58)) (la_enter_37 h212_)
        have e757_ : sm_dp (S 1100024) (S 1100023 (S 1100033 0)) = sm_dp (S 1100024) (S 1100023 (S 1100033 0 + 1)) := congrArg ((sm_dp (S 1100024))) (la_enter_18 h69_)
        exact (sm_SK_0 (la_enter_56 h223_ e756_))
      refine ⟨(la_enter_57 h8_ h39_ h182_ h212_), ?_⟩
      refine ⟨h186_, ?_⟩
      obtain ⟨h758_, ⟨h759_, ⟨h760_, ⟨h761_, ⟨h762_, ⟨h763_, ⟨h764_, h765_⟩⟩⟩⟩⟩⟩⟩ := (((h75_ (S 45 p1)) (la_enter_17 h83_)) h91_)
      obtain ⟨h766_, ⟨h767_, ⟨h768_, ⟨h769_, ⟨h770_, h771_⟩⟩⟩⟩⟩ := (((h77_ (S 45 p1)) (la_enter_17 h83_)) h91_)
      have h772_ := (h195_ (S 1092 0 - 1))
      have h773_ := (h197_ (S 1092 0 - 1))
      have h774_ := (h214_ (S 1092 0))
      have h775_ := ((h214_ (S 1092 0 - 1)) la_enter_33)
      have h776_ := (h216_ (S 1092 0))
      have h777_ := (h218_ (S 1092 0))
      have h778_ := ((h218_ (S 1092 0 - 1)) la_enter_33)
      have h779_ := (h220_ (S 1092 0))
      have h780_ := ((h220_ (S 1092 0 - 1)) la_enter_33)
      have h781_ := (h222_ (S 1092 0))
      have h782_ := ((h222_ (S 1092 0 - 1)) la_enter_33)
      have h783_ := (h222_ (g48 1092 0 - 1))
      have h784_ := (h224_ (S 1092 0))
      have h785_ := ((h224_ (S 1092 0 - 1)) la_enter_33)
      have h786_ := (h226_ (S 1092 0))
      have h787_ := (h228_ (S 1092 0))
      have h788_ := ((h228_ (S 1092 0 - 1)) la_enter_33)
      have e789_ : S 1100007 (S 1100023 (S 1100033 0)) = S 1100007 (S 1100023 (S 1100033 0 + 1)) := congrArg ((S 1100007)) (la_enter_18 h69_)
      have e790_ : S 1100007 (S 1100034 0) = S 1100007 (S 1100025 (S 1100033 0 + 1)) := congrArg ((S 1100007)) (la_enter_18 h70_)
      have e791_ : g48 57 (S 1092 0) = g48 57 (g48 1092 0 - 1) := congrArg ((g48 57)) (la_enter_37 h212_)
      have e792_ : sm_dp (S 1100024) (S 1100023 (S 1100033 0)) = sm_dp (S 1100024) (S 1100023 (S 1100033 0 + 1)) := congrArg ((sm_dp (S 1100024))) (la_enter_18 h69_)
      exact (la_enter_58 h184_ h187_ h763_)
    intro h793_
    intro h794_
    have h795_ := (h794_ h76_)
    have h796_ := (h795_ h83_)
    have h797_ := (h796_ h91_)
    have h798_ := (h797_ h183_)
    obtain ⟨h799_, h800_⟩ := (h798_ (la_enter_59 h793_))
    refine ⟨?_, ?_⟩
    · skip
      refine ⟨(la_enter_60 h83_ h183_), ?_⟩
      obtain ⟨h801_, ⟨h802_, ⟨h803_, ⟨h804_, ⟨h805_, ⟨h806_, ⟨h807_, h808_⟩⟩⟩⟩⟩⟩⟩ := (((h75_ (S 45 p1)) (la_enter_17 h83_)) h91_)
      obtain ⟨h809_, ⟨h810_, ⟨h811_, ⟨h812_, ⟨h813_, h814_⟩⟩⟩⟩⟩ := (((h77_ (S 45 p1)) (la_enter_17 h83_)) h91_)
      have e815_ : S 1100007 (S 1100023 (S 1100033 0)) = S 1100007 (S 1100023 (S 1100033 0 + 1)) := congrArg ((S 1100007)) (la_enter_18 h69_)
      have e816_ : S 1100007 (S 1100034 0) = S 1100007 (S 1100025 (S 1100033 0 + 1)) := congrArg ((S 1100007)) (la_enter_18 h70_)
      have e817_ : sm_dp (S 1100024) (S 1100023 (S 1100033 0)) = sm_dp (S 1100024) (S 1100023 (S 1100033 0 + 1)) := congrArg ((sm_dp (S 1100024))) (la_enter_18 h69_)
      exact (la_enter_61 h32_ h91_ h793_ h806_)
    intro h818_
    intro x57
    intro h819_
    refine ⟨?_, ?_⟩
    · skip
      intro s59
      intro h820_
      intro h821_
      refine ⟨?_, ?_⟩
      · skip
        intro s61
        intro h822_
        intro h823_
        refine ⟨?_, ?_⟩
        · skip
          intro s63
          intro h824_
          rintro ⟨h825_, ⟨h826_, h827_⟩⟩
          refine ⟨?_, ?_⟩
          · skip
            intro h828_
            have h829_ := (h821_.resolve_right (la_enter_8 h828_))
            have h830_ := (h826_ h828_)
            have h831_ := (h827_ h828_)
            refine ⟨?_, ?_⟩
            · skip
              intro h832_
              have h833_ := (h823_.resolve_right (la_enter_8 h832_))
              have h834_ := (h831_ h832_)
              refine ⟨?_, ?_⟩
              · skip
                refine ⟨h170_, ?_⟩
                refine ⟨h171_, ?_⟩
                refine ⟨h172_, ?_⟩
                refine ⟨h173_, ?_⟩
                refine ⟨h174_, ?_⟩
                refine ⟨h115_, ?_⟩
                refine ⟨h116_, ?_⟩
                refine ⟨h177_, ?_⟩
                refine ⟨h178_, ?_⟩
                refine ⟨h179_, ?_⟩
                refine ⟨h122_, ?_⟩
                refine ⟨h123_, ?_⟩
                refine ⟨(la_enter_63 h799_ h819_), ?_⟩
                refine ⟨(la_enter_64 h36_ h800_ h819_), ?_⟩
                refine ⟨(sm_VO_i (la_enter_65 h834_) (la_enter_66 h834_) (la_enter_67 h25_) (la_enter_68 h24_ h150_ h834_)), ?_⟩
                refine ⟨(la_enter_69 h144_ h834_), ?_⟩
                obtain ⟨h835_, ⟨h836_, ⟨h837_, ⟨h838_, ⟨h839_, ⟨h840_, ⟨h841_, h842_⟩⟩⟩⟩⟩⟩⟩ := (((h75_ (S 45 p1)) (la_enter_17 h83_)) h91_)
                obtain ⟨h843_, ⟨h844_, ⟨h845_, ⟨h846_, ⟨h847_, h848_⟩⟩⟩⟩⟩ := (((h77_ (S 45 p1)) (la_enter_17 h83_)) h91_)
                have e849_ : S 1100007 (S 1100023 (S 1100033 0)) = S 1100007 (S 1100023 (S 1100033 0 + 1)) := congrArg ((S 1100007)) (la_enter_18 h69_)
                have e850_ : S 1100007 (S 1100034 0) = S 1100007 (S 1100025 (S 1100033 0 + 1)) := congrArg ((S 1100007)) (la_enter_18 h70_)
                have e851_ : sm_dp (S 1100024) (S 1100023 (S 1100033 0)) = sm_dp (S 1100024) (S 1100023 (S 1100033 0 + 1)) := congrArg ((sm_dp (S 1100024))) (la_enter_18 h69_)
                exact (la_enter_70 h78_ h187_ h793_ h840_)
              intro g66
              rintro ⟨h852_, ⟨h853_, ⟨h854_, ⟨h855_, ⟨h856_, ⟨h857_, ⟨h858_, ⟨h859_, ⟨h860_, ⟨h861_, ⟨h862_, ⟨h863_, ⟨h864_, ⟨h865_, ⟨h866_, ⟨h867_, h868_⟩⟩⟩⟩⟩⟩⟩⟩⟩⟩⟩⟩⟩⟩⟩⟩
              rintro ⟨h869_, h870_⟩
              refine ⟨?_, ?_⟩
              · skip
                intro h871_
                have h872_ := (h864_ h871_)
                refine ⟨(la_enter_71 h183_ h188_ h793_), ?_⟩
                refine ⟨⟨h852_, ⟨h853_, ⟨h854_, ⟨h855_, ⟨h856_, ⟨h115_, ⟨h116_, ⟨h859_, ⟨h860_, ⟨h861_, ⟨h180_, ⟨h121_, ⟨h871_, ⟨(la_enter_72 h183_), ⟨(la_enter_73 h793_), ⟨(sm_SJ_s h185_ h122_ h862_ (sm_HN_q h872_ h819_) la_enter_74), (la_enter_75 h186_ h187_ h865_ h866_)⟩⟩⟩⟩⟩⟩⟩⟩⟩⟩⟩⟩⟩⟩⟩⟩, ?_⟩
                exact la_enter_76
              intro h873_
              have h874_ : ¬ (g21 1084 0 < 3000) := fun q_ => (la_enter_78 h182_ (la_enter_77 h869_ h873_)) (h867_ q_)
              refine ⟨h852_, ?_⟩
              refine ⟨h853_, ?_⟩
              refine ⟨h854_, ?_⟩
              refine ⟨h855_, ?_⟩
              refine ⟨h856_, ?_⟩
              refine ⟨h115_, ?_⟩
              refine ⟨h116_, ?_⟩
              refine ⟨h859_, ?_⟩
              refine ⟨h860_, ?_⟩
              refine ⟨h861_, ?_⟩
              refine ⟨h180_, ?_⟩
              refine ⟨h121_, ?_⟩
              refine ⟨?_, ?_⟩
              · skip
                intro h875_
                refine ⟨h22_, ?_⟩
                exact h138_
              refine ⟨(la_enter_38 h24_ h150_), ?_⟩
              refine ⟨h25_, ?_⟩
              refine ⟨h26_, ?_⟩
              refine ⟨h27_, ?_⟩
              refine ⟨h36_, ?_⟩
              refine ⟨(la_enter_79 h7_ (la_enter_77 h869_ h873_)), ?_⟩
              refine ⟨(la_enter_17 h39_), ?_⟩
              refine ⟨h40_, ?_⟩
              refine ⟨la_enter_19, ?_⟩
              refine ⟨?_, ?_⟩
              · skip
                intro h876_
                exact (sm_LX_m h9_ h125_)
              refine ⟨?_, ?_⟩
              · skip
                intro h877_
                intro h878_
                refine ⟨h39_, ?_⟩
                refine ⟨h40_, ?_⟩
                refine ⟨(la_enter_80 h41_ h52_), ?_⟩
                refine ⟨(la_enter_81 h52_ h66_), ?_⟩
                refine ⟨?_, ?_⟩
                · skip
                  obtain ⟨h879_, ⟨h880_, ⟨h881_, ⟨h882_, ⟨h883_, ⟨h884_, ⟨h885_, h886_⟩⟩⟩⟩⟩⟩⟩ := (((h75_ (S 45 p1)) (la_enter_17 h83_)) h91_)
                  obtain ⟨h887_, ⟨h888_, ⟨h889_, ⟨h890_, ⟨h891_, h892_⟩⟩⟩⟩⟩ := (((h77_ (S 45 p1)) (la_enter_17 h83_)) h91_)
                  have e893_ : S 1100007 (S 1100023 (S 1100033 0)) = S 1100007 (S 1100023 (S 1100033 0 + 1)) := congrArg ((S 1100007)) (la_enter_18 h69_)
                  have e894_ : S 1100007 (S 1100034 0) = S 1100007 (S 1100025 (S 1100033 0 + 1)) := congrArg ((S 1100007)) (la_enter_18 h70_)
                  have e895_ : S 29 (S 57 (S 1092 0 - 1)) = S 29 (S 1100033 0) := congrArg ((S 29)) h52_
                  have e896_ : sm_dp (S 1100024) (S 1100023 (S 1100033 0)) = sm_dp (S 1100024) (S 1100023 (S 1100033 0 + 1)) := congrArg ((sm_dp (S 1100024))) (la_enter_18 h69_)
                  exact (la_enter_82 h43_ e895_)
                refine ⟨h44_, ?_⟩
                refine ⟨h45_, ?_⟩
                refine ⟨?_, ?_⟩
                · skip
                  obtain ⟨h897_, ⟨h898_, ⟨h899_, ⟨h900_, ⟨h901_, ⟨h902_, ⟨h903_, h904_⟩⟩⟩⟩⟩⟩⟩ := (((h75_ (S 45 p1)) (la_enter_17 h83_)) h91_)
                  obtain ⟨h905_, ⟨h906_, ⟨h907_, ⟨h908_, ⟨h909_, h910_⟩⟩⟩⟩⟩ := (((h77_ (S 45 p1)) (la_enter_17 h83_)) h91_)
                  have e911_ : S 1100007 (S 1100023 (S 1100033 0)) = S 1100007 (S 1100023 (S 1100033 0 + 1)) := congrArg ((S 1100007)) (la_enter_18 h69_)
                  have e912_ : S 1100007 (S 1100034 0) = S 1100007 (S 1100025 (S 1100033 0 + 1)) := congrArg ((S 1100007)) (la_enter_18 h70_)
                  have e913_ : S 1100023 (S 57 (S 1092 0 - 1)) = S 1100023 (S 1100033 0) := congrArg ((S 1100023)) h52_
                  have e914_ : sm_dp (S 1100024) (S 1100023 (S 1100033 0)) = sm_dp (S 1100024) (S 1100023 (S 1100033 0 + 1)) := congrArg ((sm_dp (S 1100024))) (la_enter_18 h69_)
                  have e915_ : sm_dp (S 1100024) (S 1100023 (S 57 (S 1092 0 - 1))) = sm_dp (S 1100024) (S 1100023 (S 1100033 0 + 1)) := congrArg ((sm_dp (S 1100024))) (la_enter_83 h69_ e913_)
                  have e916_ : sm_dp (S 1100024) (S 1100023 (S 57 (S 1092 0 - 1))) = sm_dp (S 1100024) (S 1100023 (S 1100033 0)) := congrArg ((sm_dp (S 1100024))) e913_
                  exact (la_enter_28 h46_ e916_)
                refine ⟨?_, ?_⟩
                · skip
                  obtain ⟨h917_, ⟨h918_, ⟨h919_, ⟨h920_, ⟨h921_, ⟨h922_, ⟨h923_, h924_⟩⟩⟩⟩⟩⟩⟩ := (((h75_ (S 45 p1)) (la_enter_17 h83_)) h91_)
                  obtain ⟨h925_, ⟨h926_, ⟨h927_, ⟨h928_, ⟨h929_, h930_⟩⟩⟩⟩⟩ := (((h77_ (S 45 p1)) (la_enter_17 h83_)) h91_)
                  have e931_ : S 1100007 (S 1100023 (S 1100033 0)) = S 1100007 (S 1100023 (S 1100033 0 + 1)) := congrArg ((S 1100007)) (la_enter_18 h69_)
                  have e932_ : S 1100007 (S 1100034 0) = S 1100007 (S 1100025 (S 1100033 0 + 1)) := congrArg ((S 1100007)) (la_enter_18 h70_)
                  have e933_ : S 1100023 (S 57 (S 1092 0 - 1)) = S 1100023 (S 1100033 0) := congrArg ((S 1100023)) h52_
                  have e934_ : sm_dp (S 1100024) (S 1100023 (S 1100033 0)) = sm_dp (S 1100024) (S 1100023 (S 1100033 0 + 1)) := congrArg ((sm_dp (S 1100024))) (la_enter_18 h69_)
                  exact (sm_TC_t h47_ (la_enter_18 e933_))
                refine ⟨(sm_LK_m h48_ h125_ (sm_F1_le h127_ (Int.le_refl _))), ?_⟩
                refine ⟨(sm_VO_m h49_ h125_ (Int.le_refl _) (sm_F1_le h126_ (Int.le_refl _))), ?_⟩
                refine ⟨(sm_FW_m h50_ h125_ (sm_F1_le h126_ (Int.le_refl _))), ?_⟩
                refine ⟨(sm_FL_F h51_ sm_F1_rf sm_F1_rf sm_F1_rf sm_F1_rf sm_F1_rf sm_F1_rf sm_F1_rf sm_F1_rf sm_F1_rf sm_F1_rf sm_F1_rf sm_F1_rf h125_ (Int.le_refl _) (sm_F1_le h127_ (Int.le_refl _)) (sm_F1_le h126_ (Int.le_refl _)) (sm_FL_dp h51_ h28_)), ?_⟩
                refine ⟨?_, ?_⟩
                · skip
                  obtain ⟨h935_, ⟨h936_, ⟨h937_, ⟨h938_, ⟨h939_, ⟨h940_, ⟨h941_, h942_⟩⟩⟩⟩⟩⟩⟩ := (((h75_ (S 45 p1)) (la_enter_17 h83_)) h91_)
                  obtain ⟨h943_, ⟨h944_, ⟨h945_, ⟨h946_, ⟨h947_, h948_⟩⟩⟩⟩⟩ := (((h77_ (S 45 p1)) (la_enter_17 h83_)) h91_)
                  have e949_ : S 1100007 (S 1100023 (S 1100033 0)) = S 1100007 (S 1100023 (S 1100033 0 + 1)) := congrArg ((S 1100007)) (la_enter_18 h69_)
                  have e950_ : S 1100007 (S 1100034 0) = S 1100007 (S 1100025 (S 1100033 0 + 1)) := congrArg ((S 1100007)) (la_enter_18 h70_)
                  have e951_ : S 1100007 (S 57 (S 1092 0 - 1)) = S 1100007 (S 1100033 0) := congrArg ((S 1100007)) h52_
                  have e952_ : sm_dp (S 1100024) (S 1100023 (S 1100033 0)) = sm_dp (S 1100024) (S 1100023 (S 1100033 0 + 1)) := congrArg ((sm_dp (S 1100024))) (la_enter_18 h69_)
                  exact (la_enter_28 h59_ e951_)
                obtain ⟨h953_, ⟨h954_, ⟨h955_, ⟨h956_, ⟨h957_, ⟨h958_, ⟨h959_, h960_⟩⟩⟩⟩⟩⟩⟩ := (((h75_ (S 45 p1)) (la_enter_17 h83_)) h91_)
                obtain ⟨h961_, ⟨h962_, ⟨h963_, ⟨h964_, ⟨h965_, h966_⟩⟩⟩⟩⟩ := (((h77_ (S 45 p1)) (la_enter_17 h83_)) h91_)
                have e967_ : S 1100007 (S 1100023 (S 1100033 0)) = S 1100007 (S 1100023 (S 1100033 0 + 1)) := congrArg ((S 1100007)) (la_enter_18 h69_)
                have e968_ : S 1100007 (S 1100034 0) = S 1100007 (S 1100025 (S 1100033 0 + 1)) := congrArg ((S 1100007)) (la_enter_18 h70_)
                have e969_ : S 1100025 (S 57 (S 1092 0 - 1)) = S 1100025 (S 1100033 0) := congrArg ((S 1100025)) h52_
                have e970_ : sm_dp (S 1100024) (S 1100023 (S 1100033 0)) = sm_dp (S 1100024) (S 1100023 (S 1100033 0 + 1)) := congrArg ((sm_dp (S 1100024))) (la_enter_18 h69_)
                exact (sm_SK_q (sm_SK_m h55_ h125_ (Int.le_refl _) (sm_F1_le h126_ (Int.le_refl _))) (la_enter_83 h60_ e969_) rfl rfl)
              refine ⟨(la_enter_85 h8_ h39_ (la_enter_77 h869_ h873_)), ?_⟩
              refine ⟨(la_enter_86 h186_ h865_), ?_⟩
              obtain ⟨h971_, ⟨h972_, ⟨h973_, ⟨h974_, ⟨h975_, ⟨h976_, ⟨h977_, h978_⟩⟩⟩⟩⟩⟩⟩ := (((h75_ (S 45 p1)) (la_enter_17 h83_)) h91_)
              obtain ⟨h979_, ⟨h980_, ⟨h981_, ⟨h982_, ⟨h983_, h984_⟩⟩⟩⟩⟩ := (((h77_ (S 45 p1)) (la_enter_17 h83_)) h91_)
              have e985_ : S 1100007 (S 1100023 (S 1100033 0)) = S 1100007 (S 1100023 (S 1100033 0 + 1)) := congrArg ((S 1100007)) (la_enter_18 h69_)
              have e986_ : S 1100007 (S 1100034 0) = S 1100007 (S 1100025 (S 1100033 0 + 1)) := congrArg ((S 1100007)) (la_enter_18 h70_)
              have e987_ : sm_dp (S 1100024) (S 1100023 (S 1100033 0)) = sm_dp (S 1100024) (S 1100023 (S 1100033 0 + 1)) := congrArg ((sm_dp (S 1100024))) (la_enter_18 h69_)
              exact (la_enter_87 h187_ h793_ h866_ h976_)
            intro h988_
            have h989_ := (h823_.resolve_left h988_)
            have h990_ := (h830_ h988_)
            refine ⟨?_, ?_⟩
            · skip
              refine ⟨h170_, ?_⟩
              refine ⟨h171_, ?_⟩
              refine ⟨h172_, ?_⟩
              refine ⟨h173_, ?_⟩
              refine ⟨h174_, ?_⟩
              refine ⟨h115_, ?_⟩
              refine ⟨h116_, ?_⟩
              refine ⟨h177_, ?_⟩
              refine ⟨h178_, ?_⟩
              refine ⟨h179_, ?_⟩
              refine ⟨h122_, ?_⟩
              refine ⟨h123_, ?_⟩
              refine ⟨(la_enter_63 h799_ h819_), ?_⟩
              refine ⟨(la_enter_64 h36_ h800_ h819_), ?_⟩
              refine ⟨(sm_VO_eq (sm_VO_m h96_ h125_ (Int.le_refl _) (sm_F1_le h126_ (Int.le_refl _))) h990_ rfl), ?_⟩
              refine ⟨(la_enter_89 h144_ h990_), ?_⟩
              obtain ⟨h991_, ⟨h992_, ⟨h993_, ⟨h994_, ⟨h995_, ⟨h996_, ⟨h997_, h998_⟩⟩⟩⟩⟩⟩⟩ := (((h75_ (S 45 p1)) (la_enter_17 h83_)) h91_)
              obtain ⟨h999_, ⟨h1000_, ⟨h1001_, ⟨h1002_, ⟨h1003_, h1004_⟩⟩⟩⟩⟩ := (((h77_ (S 45 p1)) (la_enter_17 h83_)) h91_)
              have e1005_ : S 1100007 (S 1100023 (S 1100033 0)) = S 1100007 (S 1100023 (S 1100033 0 + 1)) := congrArg ((S 1100007)) (la_enter_18 h69_)
              have e1006_ : S 1100007 (S 1100034 0) = S 1100007 (S 1100025 (S 1100033 0 + 1)) := congrArg ((S 1100007)) (la_enter_18 h70_)
              have e1007_ : sm_dp (S 1100024) (S 1100023 (S 1100033 0)) = sm_dp (S 1100024) (S 1100023 (S 1100033 0 + 1)) := congrArg ((sm_dp (S 1100024))) (la_enter_18 h69_)
              exact (la_enter_70 h78_ h187_ h793_ h996_)
            intro g75
            rintro ⟨h1008_, ⟨h1009_, ⟨h1010_, ⟨h1011_, ⟨h1012_, ⟨h1013_, ⟨h1014_, ⟨h1015_, ⟨h1016_, ⟨h1017_, ⟨h1018_, ⟨h1019_, ⟨h1020_, ⟨h1021_, ⟨h1022_, ⟨h1023_, h1024_⟩⟩⟩⟩⟩⟩⟩⟩⟩⟩⟩⟩⟩⟩⟩⟩
            rintro ⟨h1025_, h1026_⟩
            refine ⟨?_, ?_⟩
            · skip
              intro h1027_
              have h1028_ := (h1020_ h1027_)
              refine ⟨(la_enter_71 h183_ h188_ h793_), ?_⟩
              refine ⟨⟨h1008_, ⟨h1009_, ⟨h1010_, ⟨h1011_, ⟨h1012_, ⟨h115_, ⟨h116_, ⟨h1015_, ⟨h1016_, ⟨h1017_, ⟨h180_, ⟨h121_, ⟨h1027_, ⟨(la_enter_72 h183_), ⟨(la_enter_73 h793_), ⟨(sm_SJ_s h185_ h122_ h1018_ (sm_HN_q h1028_ h819_) la_enter_74), (la_enter_75 h186_ h187_ h1021_ h1022_)⟩⟩⟩⟩⟩⟩⟩⟩⟩⟩⟩⟩⟩⟩⟩⟩, ?_⟩
              exact la_enter_76
            intro h1029_
            have h1030_ : ¬ (g21 1084 0 < 3000) := fun q_ => (la_enter_78 h182_ (la_enter_77 h1025_ h1029_)) (h1023_ q_)
            refine ⟨h1008_, ?_⟩
            refine ⟨h1009_, ?_⟩
            refine ⟨h1010_, ?_⟩
            refine ⟨h1011_, ?_⟩
            refine ⟨h1012_, ?_⟩
            refine ⟨h115_, ?_⟩
            refine ⟨h116_, ?_⟩
            refine ⟨h1015_, ?_⟩
            refine ⟨h1016_, ?_⟩
            refine ⟨h1017_, ?_⟩
            refine ⟨h180_, ?_⟩
            refine ⟨h121_, ?_⟩
            refine ⟨?_, ?_⟩
            · skip
              intro h1031_
              refine ⟨h22_, ?_⟩
              exact h138_
            refine ⟨(la_enter_38 h24_ h150_), ?_⟩
            refine ⟨h25_, ?_⟩
            refine ⟨h26_, ?_⟩
            refine ⟨h27_, ?_⟩
            refine ⟨h36_, ?_⟩
            refine ⟨(la_enter_79 h7_ (la_enter_77 h1025_ h1029_)), ?_⟩
            refine ⟨(la_enter_17 h39_), ?_⟩
            refine ⟨h40_, ?_⟩
            refine ⟨la_enter_19, ?_⟩
            refine ⟨?_, ?_⟩
            · skip
              intro h1032_
              exact (sm_LX_m h9_ h125_)
            refine ⟨?_, ?_⟩
            · skip
              intro h1033_
              intro h1034_
              refine ⟨h39_, ?_⟩
              refine ⟨h40_, ?_⟩
              refine ⟨(la_enter_80 h41_ h52_), ?_⟩
              refine ⟨(la_enter_81 h52_ h66_), ?_⟩
              refine ⟨?_, ?_⟩
              · skip
                obtain ⟨h1035_, ⟨h1036_, ⟨h1037_, ⟨h1038_, ⟨h1039_, ⟨h1040_, ⟨h1041_, h1042_⟩⟩⟩⟩⟩⟩⟩ := (((h75_ (S 45 p1)) (la_enter_17 h83_)) h91_)
                obtain ⟨h1043_, ⟨h1044_, ⟨h1045_, ⟨h1046_, ⟨h1047_, h1048_⟩⟩⟩⟩⟩ := (((h77_ (S 45 p1)) (la_enter_17 h83_)) h91_)
                have e1049_ : S 1100007 (S 1100023 (S 1100033 0)) = S 1100007 (S 1100023 (S 1100033 0 + 1)) := congrArg ((S 1100007)) (la_enter_18 h69_)
                have e1050_ : S 1100007 (S 1100034 0) = S 1100007 (S 1100025 (S 1100033 0 + 1)) := congrArg ((S 1100007)) (la_enter_18 h70_)
                have e1051_ : S 29 (S 57 (S 1092 0 - 1)) = S 29 (S 1100033 0) := congrArg ((S 29)) h52_
                have e1052_ : sm_dp (S 1100024) (S 1100023 (S 1100033 0)) = sm_dp (S 1100024) (S 1100023 (S 1100033 0 + 1)) := congrArg ((sm_dp (S 1100024))) (la_enter_18 h69_)
                exact (la_enter_82 h43_ e1051_)
              refine ⟨h44_, ?_⟩
              refine ⟨h45_, ?_⟩
              refine ⟨?_, ?_⟩
              · skip
                obtain ⟨h1053_, ⟨h1054_, ⟨h1055_, ⟨h1056_, ⟨h1057_, ⟨h1058_, ⟨h1059_, h1060_⟩⟩⟩⟩⟩⟩⟩ := (((h75_ (S 45 p1)) (la_enter_17 h83_)) h91_)
                obtain ⟨h1061_, ⟨h1062_, ⟨h1063_, ⟨h1064_, ⟨h1065_, h1066_⟩⟩⟩⟩⟩ := (((h77_ (S 45 p1)) (la_enter_17 h83_)) h91_)
                have e1067_ : S 1100007 (S 1100023 (S 1100033 0)) = S 1100007 (S 1100023 (S 1100033 0 + 1)) := congrArg ((S 1100007)) (la_enter_18 h69_)
                have e1068_ : S 1100007 (S 1100034 0) = S 1100007 (S 1100025 (S 1100033 0 + 1)) := congrArg ((S 1100007)) (la_enter_18 h70_)
                have e1069_ : S 1100023 (S 57 (S 1092 0 - 1)) = S 1100023 (S 1100033 0) := congrArg ((S 1100023)) h52_
                have e1070_ : sm_dp (S 1100024) (S 1100023 (S 1100033 0)) = sm_dp (S 1100024) (S 1100023 (S 1100033 0 + 1)) := congrArg ((sm_dp (S 1100024))) (la_enter_18 h69_)
                have e1071_ : sm_dp (S 1100024) (S 1100023 (S 57 (S 1092 0 - 1))) = sm_dp (S 1100024) (S 1100023 (S 1100033 0 + 1)) := congrArg ((sm_dp (S 1100024))) (la_enter_83 h69_ e1069_)
                have e1072_ : sm_dp (S 1100024) (S 1100023 (S 57 (S 1092 0 - 1))) = sm_dp (S 1100024) (S 1100023 (S 1100033 0)) := congrArg ((sm_dp (S 1100024))) e1069_
                exact (la_enter_28 h46_ e1072_)
              refine ⟨?_, ?_⟩
              · skip
                obtain ⟨h1073_, ⟨h1074_, ⟨h1075_, ⟨h1076_, ⟨h1077_, ⟨h1078_, ⟨h1079_, h1080_⟩⟩⟩⟩⟩⟩⟩ := (((h75_ (S 45 p1)) (la_enter_17 h83_)) h91_)
                obtain ⟨h1081_, ⟨h1082_, ⟨h1083_, ⟨h1084_, ⟨h1085_, h1086_⟩⟩⟩⟩⟩ := (((h77_ (S 45 p1)) (la_enter_17 h83_)) h91_)
                have e1087_ : S 1100007 (S 1100023 (S 1100033 0)) = S 1100007 (S 1100023 (S 1100033 0 + 1)) := congrArg ((S 1100007)) (la_enter_18 h69_)
                have e1088_ : S 1100007 (S 1100034 0) = S 1100007 (S 1100025 (S 1100033 0 + 1)) := congrArg ((S 1100007)) (la_enter_18 h70_)
                have e1089_ : S 1100023 (S 57 (S 1092 0 - 1)) = S 1100023 (S 1100033 0) := congrArg ((S 1100023)) h52_
                have e1090_ : sm_dp (S 1100024) (S 1100023 (S 1100033 0)) = sm_dp (S 1100024) (S 1100023 (S 1100033 0 + 1)) := congrArg ((sm_dp (S 1100024))) (la_enter_18 h69_)
                exact (sm_TC_t h47_ (la_enter_18 e1089_))
              refine ⟨(sm_LK_m h48_ h125_ (sm_F1_le h127_ (Int.le_refl _))), ?_⟩
              refine ⟨(sm_VO_m h49_ h125_ (Int.le_refl _) (sm_F1_le h126_ (Int.le_refl _))), ?_⟩
              refine ⟨(sm_FW_m h50_ h125_ (sm_F1_le h126_ (Int.le_refl _))), ?_⟩
              refine ⟨(sm_FL_F h51_ sm_F1_rf sm_F1_rf sm_F1_rf sm_F1_rf sm_F1_rf sm_F1_rf sm_F1_rf sm_F1_rf sm_F1_rf sm_F1_rf sm_F1_rf sm_F1_rf h125_ (Int.le_refl _) (sm_F1_le h127_ (Int.le_refl _)) (sm_F1_le h126_ (Int.le_refl _)) (sm_FL_dp h51_ h28_)), ?_⟩
              refine ⟨?_, ?_⟩
              · skip
                obtain ⟨h1091_, ⟨h1092_, ⟨h1093_, ⟨h1094_, ⟨h1095_, ⟨h1096_, ⟨h1097_, h1098_⟩⟩⟩⟩⟩⟩⟩ := (((h75_ (S 45 p1)) (la_enter_17 h83_)) h91_)
                obtain ⟨h1099_, ⟨h1100_, ⟨h1101_, ⟨h1102_, ⟨h1103_, h1104_⟩⟩⟩⟩⟩ := (((h77_ (S 45 p1)) (la_enter_17 h83_)) h91_)
                have e1105_ : S 1100007 (S 1100023 (S 1100033 0)) = S 1100007 (S 1100023 (S 1100033 0 + 1)) := congrArg ((S 1100007)) (la_enter_18 h69_)
                have e1106_ : S 1100007 (S 1100034 0) = S 1100007 (S 1100025 (S 1100033 0 + 1)) := congrArg ((S 1100007)) (la_enter_18 h70_)
                have e1107_ : S 1100007 (S 57 (S 1092 0 - 1)) = S 1100007 (S 1100033 0) := congrArg ((S 1100007)) h52_
                have e1108_ : sm_dp (S 1100024) (S 1100023 (S 1100033 0)) = sm_dp (S 1100024) (S 1100023 (S 1100033 0 + 1)) := congrArg ((sm_dp (S 1100024))) (la_enter_18 h69_)
                exact (la_enter_28 h59_ e1107_)
              obtain ⟨h1109_, ⟨h1110_, ⟨h1111_, ⟨h1112_, ⟨h1113_, ⟨h1114_, ⟨h1115_, h1116_⟩⟩⟩⟩⟩⟩⟩ := (((h75_ (S 45 p1)) (la_enter_17 h83_)) h91_)
              obtain ⟨h1117_, ⟨h1118_, ⟨h1119_, ⟨h1120_, ⟨h1121_, h1122_⟩⟩⟩⟩⟩ := (((h77_ (S 45 p1)) (la_enter_17 h83_)) h91_)
              have e1123_ : S 1100007 (S 1100023 (S 1100033 0)) = S 1100007 (S 1100023 (S 1100033 0 + 1)) := congrArg ((S 1100007)) (la_enter_18 h69_)
              have e1124_ : S 1100007 (S 1100034 0) = S 1100007 (S 1100025 (S 1100033 0 + 1)) := congrArg ((S 1100007)) (la_enter_18 h70_)
              have e1125_ : S 1100025 (S 57 (S 1092 0 - 1)) = S 1100025 (S 1100033 0) := congrArg ((S 1100025)) h52_
              have e1126_ : sm_dp (S 1100024) (S 1100023 (S 1100033 0)) = sm_dp (S 1100024) (S 1100023 (S 1100033 0 + 1)) := congrArg ((sm_dp (S 1100024))) (la_enter_18 h69_)
              exact (sm_SK_q (sm_SK_m h55_ h125_ (Int.le_refl _) (sm_F1_le h126_ (Int.le_refl _))) (la_enter_83 h60_ e1125_) rfl rfl)
            refine ⟨(la_enter_85 h8_ h39_ (la_enter_77 h1025_ h1029_)), ?_⟩
            refine ⟨(la_enter_86 h186_ h1021_), ?_⟩
            obtain ⟨h1127_, ⟨h1128_, ⟨h1129_, ⟨h1130_, ⟨h1131_, ⟨h1132_, ⟨h1133_, h1134_⟩⟩⟩⟩⟩⟩⟩ := (((h75_ (S 45 p1)) (la_enter_17 h83_)) h91_)
            obtain ⟨h1135_, ⟨h1136_, ⟨h1137_, ⟨h1138_, ⟨h1139_, h1140_⟩⟩⟩⟩⟩ := (((h77_ (S 45 p1)) (la_enter_17 h83_)) h91_)
            have e1141_ : S 1100007 (S 1100023 (S 1100033 0)) = S 1100007 (S 1100023 (S 1100033 0 + 1)) := congrArg ((S 1100007)) (la_enter_18 h69_)
            have e1142_ : S 1100007 (S 1100034 0) = S 1100007 (S 1100025 (S 1100033 0 + 1)) := congrArg ((S 1100007)) (la_enter_18 h70_)
            have e1143_ : sm_dp (S 1100024) (S 1100023 (S 1100033 0)) = sm_dp (S 1100024) (S 1100023 (S 1100033 0 + 1)) := congrArg ((sm_dp (S 1100024))) (la_enter_18 h69_)
            exact (la_enter_87 h187_ h793_ h1022_ h1132_)
          intro h1144_
          have h1145_ := (h821_.resolve_left h1144_)
          obtain ⟨h1146_, h1147_⟩ := (h825_ h1144_)
          refine ⟨(la_enter_90 h39_ h62_ h64_ h73_ h74_ h79_ h183_), ?_⟩
          intro r88
          intro h1148_
          rintro ⟨h1149_, h1150_⟩
          intro h1151_
          have h1152_ := (h1151_ (sm_SK_m h55_ h125_ (Int.le_refl _) (sm_F1_le h126_ (Int.le_refl _))))
          have h1153_ := (h1152_ h29_)
          have h1154_ := (h1153_ h74_)
          have h1155_ := (h1154_ h183_)
          have h1156_ := (h1155_ h73_)
          have h1157_ := (h1156_ h64_)
          have h1158_ := (h1157_ h57_)
          have h1159_ := (h1158_ h58_)
          have h1160_ := (h1159_ h65_)
          have h1161_ := (h1160_ h1146_)
          have h1162_ := (h1161_ h1147_)
          have h1163_ := (h1162_ h1149_)
          have h1164_ := (h1163_ h1150_)
          refine ⟨?_, ?_⟩
          · skip
            refine ⟨h170_, ?_⟩
            refine ⟨h171_, ?_⟩
            refine ⟨h172_, ?_⟩
            refine ⟨h173_, ?_⟩
            refine ⟨h174_, ?_⟩
            refine ⟨h115_, ?_⟩
            refine ⟨h116_, ?_⟩
            refine ⟨h177_, ?_⟩
            refine ⟨h178_, ?_⟩
            refine ⟨h179_, ?_⟩
            refine ⟨h122_, ?_⟩
            refine ⟨h123_, ?_⟩
            refine ⟨(la_enter_63 h799_ h819_), ?_⟩
            refine ⟨(la_enter_64 h36_ h800_ h819_), ?_⟩
            refine ⟨h1164_, ?_⟩
            refine ⟨(la_enter_91 h144_), ?_⟩
            obtain ⟨h1165_, ⟨h1166_, ⟨h1167_, ⟨h1168_, ⟨h1169_, ⟨h1170_, ⟨h1171_, h1172_⟩⟩⟩⟩⟩⟩⟩ := (((h75_ (S 45 p1)) (la_enter_17 h83_)) h91_)
            obtain ⟨h1173_, ⟨h1174_, ⟨h1175_, ⟨h1176_, ⟨h1177_, h1178_⟩⟩⟩⟩⟩ := (((h77_ (S 45 p1)) (la_enter_17 h83_)) h91_)
            have e1179_ : S 1100007 (S 1100023 (S 1100033 0)) = S 1100007 (S 1100023 (S 1100033 0 + 1)) := congrArg ((S 1100007)) (la_enter_18 h69_)
            have e1180_ : S 1100007 (S 1100034 0) = S 1100007 (S 1100025 (S 1100033 0 + 1)) := congrArg ((S 1100007)) (la_enter_18 h70_)
            have e1181_ : sm_dp (S 1100024) (S 1100023 (S 1100033 0)) = sm_dp (S 1100024) (S 1100023 (S 1100033 0 + 1)) := congrArg ((sm_dp (S 1100024))) (la_enter_18 h69_)
            exact (la_enter_70 h78_ h187_ h793_ h1170_)
          intro g91
          rintro ⟨h1182_, ⟨h1183_, ⟨h1184_, ⟨h1185_, ⟨h1186_, ⟨h1187_, ⟨h1188_, ⟨h1189_, ⟨h1190_, ⟨h1191_, ⟨h1192_, ⟨h1193_, ⟨h1194_, ⟨h1195_, ⟨h1196_, ⟨h1197_, h1198_⟩⟩⟩⟩⟩⟩⟩⟩⟩⟩⟩⟩⟩⟩⟩⟩
          rintro ⟨h1199_, h1200_⟩
          refine ⟨?_, ?_⟩
          · skip
            intro h1201_
            have h1202_ := (h1194_ h1201_)
            refine ⟨(la_enter_71 h183_ h188_ h793_), ?_⟩
            refine ⟨⟨h1182_, ⟨h1183_, ⟨h1184_, ⟨h1185_, ⟨h1186_, ⟨h115_, ⟨h116_, ⟨h1189_, ⟨h1190_, ⟨h1191_, ⟨h180_, ⟨h121_, ⟨h1201_, ⟨(la_enter_72 h183_), ⟨(la_enter_73 h793_), ⟨(sm_SJ_s h185_ h122_ h1192_ (sm_HN_q h1202_ h819_) la_enter_74), (la_enter_75 h186_ h187_ h1195_ h1196_)⟩⟩⟩⟩⟩⟩⟩⟩⟩⟩⟩⟩⟩⟩⟩⟩, ?_⟩
            exact la_enter_76
          intro h1203_
          have h1204_ : ¬ (g21 1084 0 < 3000) := fun q_ => (la_enter_78 h182_ (la_enter_77 h1199_ h1203_)) (h1197_ q_)
          refine ⟨h1182_, ?_⟩
          refine ⟨h1183_, ?_⟩
          refine ⟨h1184_, ?_⟩
          refine ⟨h1185_, ?_⟩
          refine ⟨h1186_, ?_⟩
          refine ⟨h115_, ?_⟩
          refine ⟨h116_, ?_⟩
          refine ⟨h1189_, ?_⟩
          refine ⟨h1190_, ?_⟩
          refine ⟨h1191_, ?_⟩
          refine ⟨h180_, ?_⟩
          refine ⟨h121_, ?_⟩
          refine ⟨?_, ?_⟩
          · skip
            intro h1205_
            refine ⟨h22_, ?_⟩
            exact h138_
          refine ⟨(la_enter_38 h24_ h150_), ?_⟩
          refine ⟨h25_, ?_⟩
          refine ⟨h26_, ?_⟩
          refine ⟨h27_, ?_⟩
          refine ⟨h36_, ?_⟩
          refine ⟨(la_enter_79 h7_ (la_enter_77 h1199_ h1203_)), ?_⟩
          refine ⟨(la_enter_17 h39_), ?_⟩
          refine ⟨h40_, ?_⟩
          refine ⟨la_enter_19, ?_⟩
          refine ⟨?_, ?_⟩
          · skip
            intro h1206_
            exact (sm_LX_m h9_ h125_)
          refine ⟨?_, ?_⟩
          · skip
            intro h1207_
            intro h1208_
            refine ⟨h39_, ?_⟩
            refine ⟨h40_, ?_⟩
            refine ⟨(la_enter_80 h41_ h52_), ?_⟩
            refine ⟨(la_enter_81 h52_ h66_), ?_⟩
            refine ⟨?_, ?_⟩
            · skip
              obtain ⟨h1209_, ⟨h1210_, ⟨h1211_, ⟨h1212_, ⟨h1213_, ⟨h1214_, ⟨h1215_, h1216_⟩⟩⟩⟩⟩⟩⟩ := (((h75_ (S 45 p1)) (la_enter_17 h83_)) h91_)
              obtain ⟨h1217_, ⟨h1218_, ⟨h1219_, ⟨h1220_, ⟨h1221_, h1222_⟩⟩⟩⟩⟩ := (((h77_ (S 45 p1)) (la_enter_17 h83_)) h91_)
              have e1223_ : S 1100007 (S 1100023 (S 1100033 0)) = S 1100007 (S 1100023 (S 1100033 0 + 1)) := congrArg ((S 1100007)) (la_enter_18 h69_)
              have e1224_ : S 1100007 (S 1100034 0) = S 1100007 (S 1100025 (S 1100033 0 + 1)) := congrArg ((S 1100007)) (la_enter_18 h70_)
              have e1225_ : S 29 (S 57 (S 1092 0 - 1)) = S 29 (S 1100033 0) := congrArg ((S 29)) h52_
              have e1226_ : sm_dp (S 1100024) (S 1100023 (S 1100033 0)) = sm_dp (S 1100024) (S 1100023 (S 1100033 0 + 1)) := congrArg ((sm_dp (S 1100024))) (la_enter_18 h69_)
              exact (la_enter_82 h43_ e1225_)
            refine ⟨h44_, ?_⟩
            refine ⟨h45_, ?_⟩
            refine ⟨?_, ?_⟩
            · skip
              obtain ⟨h1227_, ⟨h1228_, ⟨h1229_, ⟨h1230_, ⟨h1231_, ⟨h1232_, ⟨h1233_, h1234_⟩⟩⟩⟩⟩⟩⟩ := (((h75_ (S 45 p1)) (la_enter_17 h83_)) h91_)
              obtain ⟨h1235_, ⟨h1236_, ⟨h1237_, ⟨h1238_, ⟨h1239_, h1240_⟩⟩⟩⟩⟩ := (((h77_ (S 45 p1)) (la_enter_17 h83_)) h91_)
              have e1241_ : S 1100007 (S 1100023 (S 1100033 0)) = S 1100007 (S 1100023 (S 1100033 0 + 1)) := congrArg ((S 1100007)) (la_enter_18 h69_)
              have e1242_ : S 1100007 (S 1100034 0) = S 1100007 (S 1100025 (S 1100033 0 + 1)) := congrArg ((S 1100007)) (la_enter_18 h70_)
              have e1243_ : S 1100023 (S 57 (S 1092 0 - 1)) = S 1100023 (S 1100033 0) := congrArg ((S 1100023)) h52_
              have e1244_ : sm_dp (S 1100024) (S 1100023 (S 1100033 0)) = sm_dp (S 1100024) (S 1100023 (S 1100033 0 + 1)) := congrArg ((sm_dp (S 1100024))) (la_enter_18 h69_)
              have e1245_ : sm_dp (S 1100024) (S 1100023 (S 57 (S 1092 0 - 1))) = sm_dp (S 1100024) (S 1100023 (S 1100033 0 + 1)) := congrArg ((sm_dp (S 1100024))) (la_enter_83 h69_ e1243_)
              have e1246_ : sm_dp (S 1100024) (S 1100023 (S 57 (S 1092 0 - 1))) = sm_dp (S 1100024) (S 1100023 (S 1100033 0)) := congrArg ((sm_dp (S 1100024))) e1243_
              exact (la_enter_28 h46_ e1246_)
            refine ⟨?_, ?_⟩
            · skip
              obtain ⟨h1247_, ⟨h1248_, ⟨h1249_, ⟨h1250_, ⟨h1251_, ⟨h1252_, ⟨h1253_, h1254_⟩⟩⟩⟩⟩⟩⟩ := (((h75_ (S 45 p1)) (la_enter_17 h83_)) h91_)
              obtain ⟨h1255_, ⟨h1256_, ⟨h1257_, ⟨h1258_, ⟨h1259_, h1260_⟩⟩⟩⟩⟩ := (((h77_ (S 45 p1)) (la_enter_17 h83_)) h91_)
              have e1261_ : S 1100007 (S 1100023 (S 1100033 0)) = S 1100007 (S 1100023 (S 1100033 0 + 1)) := congrArg ((S 1100007)) (la_enter_18 h69_)
              have e1262_ : S 1100007 (S 1100034 0) = S 1100007 (S 1100025 (S 1100033 0 + 1)) := congrArg ((S 1100007)) (la_enter_18 h70_)
              have e1263_ : S 1100023 (S 57 (S 1092 0 - 1)) = S 1100023 (S 1100033 0) := congrArg ((S 1100023)) h52_
              have e1264_ : sm_dp (S 1100024) (S 1100023 (S 1100033 0)) = sm_dp (S 1100024) (S 1100023 (S 1100033 0 + 1)) := congrArg ((sm_dp (S 1100024))) (la_enter_18 h69_)
              exact (sm_TC_t h47_ (la_enter_18 e1263_))
            refine ⟨(sm_LK_m h48_ h125_ (sm_F1_le h127_ (Int.le_refl _))), ?_⟩
            refine ⟨(sm_VO_m h49_ h125_ (Int.le_refl _) (sm_F1_le h126_ (Int.le_refl _))), ?_⟩
            refine ⟨(sm_FW_m h50_ h125_ (sm_F1_le h126_ (Int.le_refl _))), ?_⟩
            refine ⟨(sm_FL_F h51_ sm_F1_rf sm_F1_rf sm_F1_rf sm_F1_rf sm_F1_rf sm_F1_rf sm_F1_rf sm_F1_rf sm_F1_rf sm_F1_rf sm_F1_rf sm_F1_rf h125_ (Int.le_refl _) (sm_F1_le h127_ (Int.le_refl _)) (sm_F1_le h126_ (Int.le_refl _)) (sm_FL_dp h51_ h28_)), ?_⟩
            refine ⟨?_, ?_⟩
            · skip
              obtain ⟨h1265_, ⟨h1266_, ⟨h1267_, ⟨h1268_, ⟨h1269_, ⟨h1270_, ⟨h1271_, h1272_⟩⟩⟩⟩⟩⟩⟩ := (((h75_ (S 45 p1)) (la_enter_17 h83_)) h91_)
              obtain ⟨h1273_, ⟨h1274_, ⟨h1275_, ⟨h1276_, ⟨h1277_, h1278_⟩⟩⟩⟩⟩ := (((h77_ (S 45 p1)) (la_enter_17 h83_)) h91_)
              have e1279_ : S 1100007 (S 1100023 (S 1100033 0)) = S 1100007 (S 1100023 (S 1100033 0 + 1)) := congrArg ((S 1100007)) (la_enter_18 h69_)
              have e1280_ : S 1100007 (S 1100034 0) = S 1100007 (S 1100025 (S 1100033 0 + 1)) := congrArg ((S 1100007)) (la_enter_18 h70_)
              have e1281_ : S 1100007 (S 57 (S 1092 0 - 1)) = S 1100007 (S 1100033 0) := congrArg ((S 1100007)) h52_
              have e1282_ : sm_dp (S 1100024) (S 1100023 (S 1100033 0)) = sm_dp (S 1100024) (S 1100023 (S 1100033 0 + 1)) := congrArg ((sm_dp (S 1100024))) (la_enter_18 h69_)
              exact (la_enter_28 h59_ e1281_)
            obtain ⟨h1283_, ⟨h1284_, ⟨h1285_, ⟨h1286_, ⟨h1287_, ⟨h1288_, ⟨h1289_, h1290_⟩⟩⟩⟩⟩⟩⟩ := (((h75_ (S 45 p1)) (la_enter_17 h83_)) h91_)
            obtain ⟨h1291_, ⟨h1292_, ⟨h1293_, ⟨h1294_, ⟨h1295_, h1296_⟩⟩⟩⟩⟩ := (((h77_ (S 45 p1)) (la_enter_17 h83_)) h91_)
            have e1297_ : S 1100007 (S 1100023 (S 1100033 0)) = S 1100007 (S 1100023 (S 1100033 0 + 1)) := congrArg ((S 1100007)) (la_enter_18 h69_)
            have e1298_ : S 1100007 (S 1100034 0) = S 1100007 (S 1100025 (S 1100033 0 + 1)) := congrArg ((S 1100007)) (la_enter_18 h70_)
            have e1299_ : S 1100025 (S 57 (S 1092 0 - 1)) = S 1100025 (S 1100033 0) := congrArg ((S 1100025)) h52_
            have e1300_ : sm_dp (S 1100024) (S 1100023 (S 1100033 0)) = sm_dp (S 1100024) (S 1100023 (S 1100033 0 + 1)) := congrArg ((sm_dp (S 1100024))) (la_enter_18 h69_)
            exact (sm_SK_q (sm_SK_m h55_ h125_ (Int.le_refl _) (sm_F1_le h126_ (Int.le_refl _))) (la_enter_83 h60_ e1299_) rfl rfl)
          refine ⟨(la_enter_85 h8_ h39_ (la_enter_77 h1199_ h1203_)), ?_⟩
          refine ⟨(la_enter_86 h186_ h1195_), ?_⟩
          obtain ⟨h1301_, ⟨h1302_, ⟨h1303_, ⟨h1304_, ⟨h1305_, ⟨h1306_, ⟨h1307_, h1308_⟩⟩⟩⟩⟩⟩⟩ := (((h75_ (S 45 p1)) (la_enter_17 h83_)) h91_)
          obtain ⟨h1309_, ⟨h1310_, ⟨h1311_, ⟨h1312_, ⟨h1313_, h1314_⟩⟩⟩⟩⟩ := (((h77_ (S 45 p1)) (la_enter_17 h83_)) h91_)
          have e1315_ : S 1100007 (S 1100023 (S 1100033 0)) = S 1100007 (S 1100023 (S 1100033 0 + 1)) := congrArg ((S 1100007)) (la_enter_18 h69_)
          have e1316_ : S 1100007 (S 1100034 0) = S 1100007 (S 1100025 (S 1100033 0 + 1)) := congrArg ((S 1100007)) (la_enter_18 h70_)
          have e1317_ : sm_dp (S 1100024) (S 1100023 (S 1100033 0)) = sm_dp (S 1100024) (S 1100023 (S 1100033 0 + 1)) := congrArg ((sm_dp (S 1100024))) (la_enter_18 h69_)
          exact (la_enter_87 h187_ h793_ h1196_ h1306_)
        refine ⟨la_enter_92, ?_⟩
        intro h1318_
        have h1319_ := (h821_.resolve_left h1318_)
        refine ⟨(la_enter_90 h39_ h62_ h64_ h73_ h74_ h79_ h183_), ?_⟩
        intro r105
        intro h1320_
        rintro ⟨h1321_, h1322_⟩
        refine ⟨(la_enter_93 h1319_ h1321_ h1322_), ?_⟩
        refine ⟨(la_enter_94 h1319_), ?_⟩
        intro h1323_
        intro h1324_
        have h1325_ := (h823_.resolve_right (la_enter_8 h1324_))
        obtain ⟨h1326_, ⟨h1327_, ⟨h1328_, ⟨h1329_, ⟨h1330_, ⟨h1331_, ⟨h1332_, h1333_⟩⟩⟩⟩⟩⟩⟩ := (((h75_ (S 45 p1)) (la_enter_17 h83_)) h91_)
        obtain ⟨h1334_, ⟨h1335_, ⟨h1336_, ⟨h1337_, ⟨h1338_, h1339_⟩⟩⟩⟩⟩ := (((h77_ (S 45 p1)) (la_enter_17 h83_)) h91_)
        have e1340_ : S 1100007 (S 1100023 (S 1100033 0)) = S 1100007 (S 1100023 (S 1100033 0 + 1)) := congrArg ((S 1100007)) (la_enter_18 h69_)
        have e1341_ : S 1100007 (S 1100034 0) = S 1100007 (S 1100025 (S 1100033 0 + 1)) := congrArg ((S 1100007)) (la_enter_18 h70_)
        have e1342_ : sm_dp (S 1100024) (S 1100023 (S 1100033 0)) = sm_dp (S 1100024) (S 1100023 (S 1100033 0 + 1)) := congrArg ((sm_dp (S 1100024))) (la_enter_18 h69_)
        exact ((la_enter_95 (la_enter_77 (la_enter_88 h1319_) h1318_) h1323_)).elim
      refine ⟨la_enter_96, ?_⟩
      intro h1343_
      have h1344_ := (h821_.resolve_right (la_enter_97 h1343_))
      rintro ⟨h1345_, h1346_⟩
      refine ⟨la_enter_96, ?_⟩
      intro h1347_
      intro h1348_
      refine ⟨la_enter_98, ?_⟩
      intro h1349_
      exact la_enter_99
    intro h1350_
    refine ⟨la_enter_100, ?_⟩
    intro h1351_
    exact la_enter_99
  intro h1352_
  have h1353_ := (h133_ (la_enter_101 h140_ (la_enter_77 h139_ h1352_)))
  have h1354_ := (h1353_ h7_)
  have h1355_ := (h132_ h1354_)
  refine ⟨h110_, ?_⟩
  refine ⟨h11_, ?_⟩
  refine ⟨h112_, ?_⟩
  refine ⟨h113_, ?_⟩
  refine ⟨h114_, ?_⟩
  refine ⟨h115_, ?_⟩
  refine ⟨h116_, ?_⟩
  refine ⟨h17_, ?_⟩
  refine ⟨h18_, ?_⟩
  refine ⟨h19_, ?_⟩
  refine ⟨h120_, ?_⟩
  refine ⟨h121_, ?_⟩
  refine ⟨?_, ?_⟩
  · skip
    intro h1356_
    obtain ⟨h1357_, h1358_⟩ := ((sm_VO_e h49_).2.2.1 (la_enter_102 (la_enter_77 h139_ h1352_) h1356_))
    obtain ⟨h1359_, ⟨h1360_, h1361_⟩⟩ := ((sm_VO_e h49_).2.2.2 (la_enter_103 (sm_VO_e h49_).2.1 (la_enter_77 h139_ h1352_) h1356_))
    obtain ⟨h1362_, h1363_⟩ := ((sm_VO_e h84_).2.2.1 (la_enter_102 (la_enter_77 h139_ h1352_) h1356_))
    obtain ⟨h1364_, ⟨h1365_, h1366_⟩⟩ := ((sm_VO_e h84_).2.2.2 (la_enter_103 (sm_VO_e h84_).2.1 (la_enter_77 h139_ h1352_) h1356_))
    obtain ⟨h1367_, h1368_⟩ := (h135_ (la_enter_104 (la_enter_77 h139_ h1352_) h1356_))
    refine ⟨h22_, ?_⟩
    exact h138_
  refine ⟨(la_enter_105 h24_ h125_), ?_⟩
  refine ⟨h25_, ?_⟩
  refine ⟨h26_, ?_⟩
  refine ⟨h27_, ?_⟩
  refine ⟨h36_, ?_⟩
  refine ⟨h124_, ?_⟩
  refine ⟨(la_enter_17 h39_), ?_⟩
  refine ⟨h40_, ?_⟩
  refine ⟨la_enter_19, ?_⟩
  refine ⟨?_, ?_⟩
  · skip
    intro h1369_
    exact (sm_LX_m h9_ h125_)
  refine ⟨?_, ?_⟩
  · skip
    intro h1370_
    obtain ⟨h1371_, h1372_⟩ := ((sm_VO_e h49_).2.2.1 (la_enter_102 (la_enter_77 h139_ h1352_) h1370_))
    obtain ⟨h1373_, ⟨h1374_, h1375_⟩⟩ := ((sm_VO_e h49_).2.2.2 (la_enter_103 (sm_VO_e h49_).2.1 (la_enter_77 h139_ h1352_) h1370_))
    obtain ⟨h1376_, h1377_⟩ := ((sm_VO_e h84_).2.2.1 (la_enter_102 (la_enter_77 h139_ h1352_) h1370_))
    obtain ⟨h1378_, ⟨h1379_, h1380_⟩⟩ := ((sm_VO_e h84_).2.2.2 (la_enter_103 (sm_VO_e h84_).2.1 (la_enter_77 h139_ h1352_) h1370_))
    obtain ⟨h1381_, h1382_⟩ := (h135_ (la_enter_104 (la_enter_77 h139_ h1352_) h1370_))
    intro h1383_
    refine ⟨h39_, ?_⟩
    refine ⟨h40_, ?_⟩
    refine ⟨(la_enter_80 h41_ h52_), ?_⟩
    refine ⟨(la_enter_81 h52_ h66_), ?_⟩
    refine ⟨?_, ?_⟩
    · skip
      have e1384_ : S 1100007 (S 1100023 (S 1100033 0)) = S 1100007 (S 1100023 (S 1100033 0 + 1)) := congrArg ((S 1100007)) (la_enter_18 h69_)
      have e1385_ : S 1100007 (S 1100034 0) = S 1100007 (S 1100025 (S 1100033 0 + 1)) := congrArg ((S 1100007)) (la_enter_18 h70_)
      have e1386_ : S 29 (S 57 (S 1092 0 - 1)) = S 29 (S 1100033 0) := congrArg ((S 29)) h52_
      have e1387_ : S 44 p1 = S 44 (S 56 (S 1092 0 - 1)) := congrArg ((S 44)) (la_enter_106 h1354_ h1382_)
      have e1388_ : S 44 p3 = S 44 (S 56 (S 1092 0 - 1)) := congrArg ((S 44)) (la_enter_106 h1354_ h1382_)
      have e1389_ : S 44 p3 = S 44 p1 := congrArg ((S 44)) (la_enter_106 h1354_ h1382_)
      have e1390_ : sm_dp (S 1100024) (S 1100023 (S 1100033 0)) = sm_dp (S 1100024) (S 1100023 (S 1100033 0 + 1)) := congrArg ((sm_dp (S 1100024))) (la_enter_18 h69_)
      exact (la_enter_82 h43_ e1386_)
    refine ⟨h44_, ?_⟩
    refine ⟨h45_, ?_⟩
    refine ⟨?_, ?_⟩
    · skip
      have e1391_ : S 1100007 (S 1100023 (S 1100033 0)) = S 1100007 (S 1100023 (S 1100033 0 + 1)) := congrArg ((S 1100007)) (la_enter_18 h69_)
      have e1392_ : S 1100007 (S 1100034 0) = S 1100007 (S 1100025 (S 1100033 0 + 1)) := congrArg ((S 1100007)) (la_enter_18 h70_)
      have e1393_ : S 1100023 (S 57 (S 1092 0 - 1)) = S 1100023 (S 1100033 0) := congrArg ((S 1100023)) h52_
      have e1394_ : S 44 p1 = S 44 (S 56 (S 1092 0 - 1)) := congrArg ((S 44)) (la_enter_106 h1354_ h1382_)
      have e1395_ : S 44 p3 = S 44 (S 56 (S 1092 0 - 1)) := congrArg ((S 44)) (la_enter_106 h1354_ h1382_)
      have e1396_ : S 44 p3 = S 44 p1 := congrArg ((S 44)) (la_enter_106 h1354_ h1382_)
      have e1397_ : sm_dp (S 1100024) (S 1100023 (S 1100033 0)) = sm_dp (S 1100024) (S 1100023 (S 1100033 0 + 1)) := congrArg ((sm_dp (S 1100024))) (la_enter_18 h69_)
      have e1398_ : sm_dp (S 1100024) (S 1100023 (S 57 (S 1092 0 - 1))) = sm_dp (S 1100024) (S 1100023 (S 1100033 0 + 1)) := congrArg ((sm_dp (S 1100024))) (la_enter_83 h69_ e1393_)
      have e1399_ : sm_dp (S 1100024) (S 1100023 (S 57 (S 1092 0 - 1))) = sm_dp (S 1100024) (S 1100023 (S 1100033 0)) := congrArg ((sm_dp (S 1100024))) e1393_
      exact (la_enter_28 h46_ e1399_)
    refine ⟨?_, ?_⟩
    · skip
      have e1400_ : S 1100007 (S 1100023 (S 1100033 0)) = S 1100007 (S 1100023 (S 1100033 0 + 1)) := congrArg ((S 1100007)) (la_enter_18 h69_)
      have e1401_ : S 1100007 (S 1100034 0) = S 1100007 (S 1100025 (S 1100033 0 + 1)) := congrArg ((S 1100007)) (la_enter_18 h70_)
      have e1402_ : S 1100023 (S 57 (S 1092 0 - 1)) = S 1100023 (S 1100033 0) := congrArg ((S 1100023)) h52_
      have e1403_ : S 44 p1 = S 44 (S 56 (S 1092 0 - 1)) := congrArg ((S 44)) (la_enter_106 h1354_ h1382_)
      have e1404_ : S 44 p3 = S 44 (S 56 (S 1092 0 - 1)) := congrArg ((S 44)) (la_enter_106 h1354_ h1382_)
      have e1405_ : S 44 p3 = S 44 p1 := congrArg ((S 44)) (la_enter_106 h1354_ h1382_)
      have e1406_ : sm_dp (S 1100024) (S 1100023 (S 1100033 0)) = sm_dp (S 1100024) (S 1100023 (S 1100033 0 + 1)) := congrArg ((sm_dp (S 1100024))) (la_enter_18 h69_)
      exact (sm_TC_t h47_ (la_enter_18 e1402_))
    refine ⟨(sm_LK_m h48_ h125_ (sm_F1_le h127_ (Int.le_refl _))), ?_⟩
    refine ⟨(sm_VO_m h49_ h125_ (Int.le_refl _) (sm_F1_le h126_ (Int.le_refl _))), ?_⟩
    refine ⟨(sm_FW_m h50_ h125_ (sm_F1_le h126_ (Int.le_refl _))), ?_⟩
    refine ⟨(sm_FL_F h51_ sm_F1_rf sm_F1_rf sm_F1_rf sm_F1_rf sm_F1_rf sm_F1_rf sm_F1_rf sm_F1_rf sm_F1_rf sm_F1_rf sm_F1_rf sm_F1_rf h125_ (Int.le_refl _) (sm_F1_le h127_ (Int.le_refl _)) (sm_F1_le h126_ (Int.le_refl _)) (sm_FL_dp h51_ h28_)), ?_⟩
    refine ⟨?_, ?_⟩
    · skip
      have e1407_ : S 1100007 (S 1100023 (S 1100033 0)) = S 1100007 (S 1100023 (S 1100033 0 + 1)) := congrArg ((S 1100007)) (la_enter_18 h69_)
      have e1408_ : S 1100007 (S 1100034 0) = S 1100007 (S 1100025 (S 1100033 0 + 1)) := congrArg ((S 1100007)) (la_enter_18 h70_)
      have e1409_ : S 1100007 (S 57 (S 1092 0 - 1)) = S 1100007 (S 1100033 0) := congrArg ((S 1100007)) h52_
      have e1410_ : S 44 p1 = S 44 (S 56 (S 1092 0 - 1)) := congrArg ((S 44)) (la_enter_106 h1354_ h1382_)
      have e1411_ : S 44 p3 = S 44 (S 56 (S 1092 0 - 1)) := congrArg ((S 44)) (la_enter_106 h1354_ h1382_)
      have e1412_ : S 44 p3 = S 44 p1 := congrArg ((S 44)) (la_enter_106 h1354_ h1382_)
      have e1413_ : sm_dp (S 1100024) (S 1100023 (S 1100033 0)) = sm_dp (S 1100024) (S 1100023 (S 1100033 0 + 1)) := congrArg ((sm_dp (S 1100024))) (la_enter_18 h69_)
      exact (la_enter_28 h59_ e1409_)
    have e1414_ : S 1100007 (S 1100023 (S 1100033 0)) = S 1100007 (S 1100023 (S 1100033 0 + 1)) := congrArg ((S 1100007)) (la_enter_18 h69_)
    have e1415_ : S 1100007 (S 1100034 0) = S 1100007 (S 1100025 (S 1100033 0 + 1)) := congrArg ((S 1100007)) (la_enter_18 h70_)
    have e1416_ : S 1100025 (S 57 (S 1092 0 - 1)) = S 1100025 (S 1100033 0) := congrArg ((S 1100025)) h52_
    have e1417_ : S 44 p1 = S 44 (S 56 (S 1092 0 - 1)) := congrArg ((S 44)) (la_enter_106 h1354_ h1382_)
    have e1418_ : S 44 p3 = S 44 (S 56 (S 1092 0 - 1)) := congrArg ((S 44)) (la_enter_106 h1354_ h1382_)
    have e1419_ : S 44 p3 = S 44 p1 := congrArg ((S 44)) (la_enter_106 h1354_ h1382_)
    have e1420_ : sm_dp (S 1100024) (S 1100023 (S 1100033 0)) = sm_dp (S 1100024) (S 1100023 (S 1100033 0 + 1)) := congrArg ((sm_dp (S 1100024))) (la_enter_18 h69_)
    exact (sm_SK_q (sm_SK_m h55_ h125_ (Int.le_refl _) (sm_F1_le h126_ (Int.le_refl _))) (la_enter_83 h60_ e1416_) rfl rfl)
  refine ⟨(la_enter_85 h8_ h39_ (la_enter_77 h139_ h1352_)), ?_⟩
  refine ⟨la_enter_19, ?_⟩
  exact la_enter_109
set_option maxRecDepth 8000 in
set_option maxHeartbeats 2000000 in
theorem t_enter : ∀ (p1 : Int) (p2 : Int) (p3 : Int) (p4 : Int) (p5 : Int) (S : sv_S), sm_ok S → sv_R p1 → sv_R p2 → sv_R p3 → sv_R p4 → sv_R p5 → ((S 1075 0) = 0 ∧ (S 1073 0) = 1 ∧ sm_LX (S 58) (S 63) (S 64) (S 1092 0) (S 1076 0) ∧ sm_PL (S 1100020) (S 51) (S 52) (S 46) (S 47) (S 1076 0) (S 1086 0) ∧ sm_FR (S 1100020) (S 52) (S 1100021) (S 1100022) (3000 - (S 1084 0)) (S 1085 0) ∧ sm_PV (S 1100020) (S 48) (S 49) (S 50) (S 44) (S 1076 0) (S 1007 0) ∧ sm_AL (S 1100020) (S 48) (S 49) (S 50) (S 44) (S 1076 0) (S 1100032 0) ∧ sm_SV (S 1100020) (S 48) (S 1100029) (S 32) (S 33) (S 1076 0) (S 1032 0) ∧ 0 ≤ (S 1076 0) ∧ (S 1076 0) ≤ 300 ∧ 0 ≤ (S 1084 0) ∧ (S 1084 0) ≤ 3000 ∧ 0 ≤ (S 1086 0) ∧ sm_SC (S 1100029) (S 44) (S 45) (S 43) (S 21) (S 1076 0) (S 1032 0) ∧ sm_PO (S 42) (S 1076 0) ∧ (S 1100032 0) = -1 ∧ sm_FO (S 44) (S 45) (S 1076 0) ∧ 23 ≤ (S 1076 0) ∧ 31 ≤ (S 1007 0) ∧ (S 1007 0) ≤ 400 ∧ sm_LN (S 4) 400 (S 1007 0) ∧ sm_CT (S 26) (S 27) (S 28) (S 29) (S 1100007) (S 1100023) (S 1100024) (S 1100025) (S 21) (S 1046 0) (S 1032 0) (S 1008 0) (S 1055 0) ∧ sm_LS (S 26) (S 1100007) (S 1100025) (S 1046 0) ∧ sm_CL (S 1100007) (S 1100023) (S 1100025) (S 1046 0) ∧ 1 ≤ (S 1032 0) ∧ (S 1032 0) ≤ 11 ∧ 0 ≤ (S 1046 0) ∧ (S 1046 0) ≤ 600 ∧ 31 ≤ (S 1008 0) ∧ (S 1008 0) ≤ (S 1007 0) ∧ 0 ≤ (S 1055 0) ∧ (S 1055 0) ≤ 19 ∧ 1 ≤ (S 1092 0) ∧ (S 1092 0) ≤ 24 ∧ 0 ≤ (S 1100033 0) ∧ (S 1100033 0) < (S 1046 0) ∧ (S 29 (S 1100033 0)) = (S 53 ((S 1092 0) - 1)) ∧ 0 ≤ (S 53 ((S 1092 0) - 1)) ∧ (S 53 ((S 1092 0) - 1)) < (S 1032 0) ∧ (S 60 ((S 1092 0) - 1)) = sm_dp (S 1100024) (S 1100023 (S 1100033 0)) ∧ sm_TC (S 61) (S 62) (S 27) (S 1100007) (S 1100023) (S 1100024) (40 * ((S 1092 0) - 1)) (S 1100023 (S 1100033 0)) ∧ sm_LK (S 1100029) (S 1076 0) (S 54 ((S 1092 0) - 1)) (S 53 ((S 1092 0) - 1)) ∧ sm_VO (S 44) (S 1076 0) (S 1007 0) ((S 55 ((S 1092 0) - 1))) ((S 56 ((S 1092 0) - 1))) ∧ sm_FW (S 44) (S 1076 0) (S 59 ((S 1092 0) - 1)) ∧ sm_FL (S 53) (S 54) (S 55) (S 56) (S 57) (S 58) (S 59) (S 60) (S 61) (S 62) (S 63) (S 64) (S 27) (S 29) (S 1100007) (S 1100023) (S 1100024) (S 1100025) (S 26) (S 1100029) (S 44) (S 1046 0) (S 1032 0) (S 1076 0) (S 1007 0) (((S 1092 0) - 1)) ∧ (S 57 ((S 1092 0) - 1)) = (S 1100033 0) ∧ 0 ≤ (S 58 ((S 1092 0) - 1)) ∧ (S 58 ((S 1092 0) - 1)) ≤ 400 ∧ sm_SK (S 63) (S 64) (S 44) (S 1100007) (S 1100025) (S 1076 0) (S 1007 0) (400 * ((S 1092 0) - 1)) ((S 58 ((S 1092 0) - 1))) ((S 1100034 0)) ∧ -1 ≤ (S 1100034 0) ∧ (S 1100034 0) < (S 1046 0) ∧ (0 ≤ (S 1100034 0) → (S 26 (S 1100034 0)) = 29) ∧ (S 58 ((S 1092 0) - 1)) = (S 1100007 (S 1100033 0)) ∧ (S 1100034 0) = (S 1100025 (S 1100033 0)) ∧ (0 ≤ (S 1100023 (S 1100033 0)) → (S 1100007 (S 1100023 (S 1100033 0))) ≤ (S 58 ((S 1092 0) - 1))) ∧ (S 58 ((S 1092 0) - 1)) ≤ 396 ∧ 1 ≤ p4 ∧ p4 ≤ (S 58 ((S 1092 0) - 1)) ∧ (0 ≤ (S 1100034 0) → (S 1100007 (S 1100034 0)) ≤ (S 58 ((S 1092 0) - 1)) - p4) ∧ (S 1100033 0) + 1 < (S 1046 0) ∧ (S 29 ((S 1100033 0) + 1)) = (S 29 (S 1100033 0)) ∧ (S 1100007 ((S 1100033 0) + 1)) = (S 58 ((S 1092 0) - 1)) + 1 - p4 ∧ (S 1100023 ((S 1100033 0) + 1)) = (S 1100023 (S 1100033 0)) ∧ (S 1100025 ((S 1100033 0) + 1)) = (S 1100034 0) ∧ (0 ≤ (S 1100023 (S 1100033 0)) → (S 1100007 (S 1100023 (S 1100033 0))) ≤ (S 58 ((S 1092 0) - 1)) - p4) ∧ 0 ≤ (S 1115 0) ∧ (S 1115 0) ≤ p4 - 1 ∧ (S 1114 0) + (S 1115 0) = (400 * ((S 1092 0) - 1) + (S 58 ((S 1092 0) - 1))) ∧ (∀ g : Int, 0 ≤ g → g < (S 1032 0) → 0 ≤ (S 30 g) ∧ (S 30 g) < (S 1046 0) ∧ (S 1100007 (S 30 g)) = 0 ∧ (S 1100023 (S 30 g)) = -1 ∧ 0 ≤ (S 33 g) ∧ (S 33 g) ≤ 100 ∧ 0 ≤ (S 20 g) ∧ (S 20 g) ≤ 8) ∧ sm_VN (S 32) (S 33) (S 1032 0) (S 1008 0) ∧ (∀ f : Int, 0 ≤ f → f < (S 1032 0) → 0 ≤ (S 30 f) ∧ (S 30 f) < (S 1046 0) ∧ (S 29 (S 30 f)) = f ∧ (S 1100007 (S 30 f)) = 0 ∧ (S 1100023 (S 30 f)) = -1 ∧ (S 1100025 (S 30 f)) = -1) ∧ (S 1086 0) ≤ 1900000000 ∧ (S 1092 0) ≤ 23 ∧ 0 ≤ p1 ∧ p1 < (S 1076 0) ∧ (S 44 p1) = 1 ∧ 1 ≤ (S 45 p1) ∧ sm_VO (S 44) (S 1076 0) (S 1007 0) (p2) (p3) ∧ sm_FW (S 44) (S 1076 0) p5) → sv_T sm_XS sm_cs sm_L sm_sh 2 (q_enter p1 p2 p3 p4 p5 S) 183 0 (lv_args 0 [.ref 0, sv_I p1, sv_I p2, sv_I p3, sv_I p4, sv_I p5]) [] S := by
  intro p1 p2 p3 p4 p5 S hok hp1 hp2 hp3 hp4 hp5 hpre
  have h := f_enter p1 p2 p3 p4 p5 S hok hp1 hp2 hp3 hp4 hp5 hpre
  have hM := sm_h183
  show sv_T sm_XS sm_cs sm_L sm_sh 2 (q_enter p1 p2 p3 p4 p5 S) 183 0 [(0, .ref 0), (1, sv_I p1), (2, sv_I p2), (3, sv_I p3), (4, sv_I p4), (5, sv_I p5)] [] S
  have k1 : (sm_SC (S 1100029) (S 44) (S 45) (S 43) (S 21) (S 1076 0) (S 1032 0) → 0 ≤ p1 → p1 < (S 1076 0) → (S 44 p1) = 1 → 1 ≤ (S 45 p1) → (S 45 p1) < (S 1032 0) ∧ sm_LK (S 1100029) (S 1076 0) (S 43 p1) (S 21 (S 45 p1))) := fun h a b d e => (h _ a b).1 d e
  have h := h k1
  have k2 : (0 ≤ p1 → p1 < (S 1076 0) → ¬ (S 44 p1) = 3 → sm_VO (S 44) (S 1076 0) (S 1007 0) (7) (p1)) := fun a b e => sm_VO_7 a b e
  have h := h k2
  have k3 : ((S 1100023 ((S 1100033 0) + 1)) = (S 1100023 (S 1100033 0)) → sm_dp (S 1100024) (S 1100023 ((S 1100033 0) + 1)) = sm_dp (S 1100024) (S 1100023 (S 1100033 0))) := fun e => congrArg _ e
  have h := h k3
  have k4 : ((S 1100025 ((S 1100033 0) + 1)) = (S 1100034 0) → (0 ≤ (S 1100034 0) → (S 1100007 (S 1100034 0)) ≤ (S 58 ((S 1092 0) - 1)) - p4) → (0 ≤ (S 1100025 ((S 1100033 0) + 1)) → (S 1100007 (S 1100025 ((S 1100033 0) + 1))) ≤ (S 58 ((S 1092 0) - 1)) - p4)) := fun e f => e ▸ f
  have h := h k4
  have k5 : ((S 1100023 ((S 1100033 0) + 1)) = (S 1100023 (S 1100033 0)) → (0 ≤ (S 1100023 (S 1100033 0)) → (S 1100007 (S 1100023 (S 1100033 0))) ≤ (S 58 ((S 1092 0) - 1)) - p4) → (0 ≤ (S 1100023 ((S 1100033 0) + 1)) → (S 1100007 (S 1100023 ((S 1100033 0) + 1))) ≤ (S 58 ((S 1092 0) - 1)) - p4)) := fun e f => e ▸ f
  have h := h k5
  refine sv_aload_n hM dX12_enter_0 rfl rfl ?_
  refine sv_getA hM dX12_enter_1 sm_fl_146 (sm_a0 _) sm_k81 rfl ?_
  refine sv_iload_n hM dX12_enter_4 rfl rfl ?_
  obtain ⟨o6, h⟩ := h
  have k7 : sv_R (S 45 p1) := sm_okI hok sm_r45 p1
  have h := h k7
  refine sv_iald hM dX12_enter_5 (sm_a45 _) (by decide) o6.1 o6.2 rfl (x := (S 45 p1)) rfl ?_
  refine sv_istore hM dX12_enter_6 (by decide) rfl ?_
  show sv_T sm_XS sm_cs sm_L sm_sh 2 (q_enter p1 p2 p3 p4 p5 S) 183 8 [(0, .ref 0), (1, sv_I p1), (2, sv_I p2), (3, sv_I p3), (4, sv_I p4), (5, sv_I p5), (6, sv_I (S 45 p1))] [] S
  refine sv_aload_n hM dX12_enter_8 rfl rfl ?_
  refine sv_iconst (d := (-1 : Int)) hM dX12_enter_9 rfl rfl ?_
  refine sv_bipush (d := (29 : Int)) hM dX12_enter_10 rfl rfl ?_
  refine sv_bipush (d := (6 : Int)) hM dX12_enter_12 rfl rfl ?_
  refine sv_iload hM dX12_enter_14 rfl rfl ?_
  refine sv_iconst (d := (1 : Int)) hM dX12_enter_16 rfl rfl ?_
  refine sv_isub hM dX12_enter_17 rfl ?_
  refine sv_imul hM dX12_enter_18 rfl ?_
  refine sv_iadd hM dX12_enter_19 rfl ?_
  refine sv_iconst (d := (3 : Int)) hM dX12_enter_20 rfl rfl ?_
  obtain ⟨o8, h⟩ := h
  obtain ⟨o9, h⟩ := h
  refine sv_callV hM dX12_enter_21 sm_iv_858 (by decide) (sm_a0 _) rfl rfl (Nat.le_of_ble_eq_true rfl) sm_h139 (Nat.le_of_ble_eq_true rfl) (Nat.le_of_ble_eq_true rfl) (F' := 0) (Nat.le_of_ble_eq_true rfl) rfl (t_newObject (-1 : Int) ((29 : Int) + ((6 : Int) * ((S 45 p1) - (1 : Int)))) (3 : Int) S hok (⟨by decide, by decide⟩ : sv_R (-1 : Int)) o8 (⟨by decide, by decide⟩ : sv_R (3 : Int)) o9) (fun v S1 hq => ?_)
  obtain ⟨r14, rfl, hr14, ok11, md12, hpo13⟩ := hq
  obtain ⟨g10, rfl⟩ : ∃ g, S1 = sv_sts S [1076, 41, 42, 43, 44, 45, 46, 47, 1075, 1100029] g := ⟨_, md12.eq⟩
  show sv_T sm_XS sm_cs sm_L sm_sh 2 (q_enter p1 p2 p3 p4 p5 S) 183 24 [(0, .ref 0), (1, sv_I p1), (2, sv_I p2), (3, sv_I p3), (4, sv_I p4), (5, sv_I p5), (6, sv_I (S 45 p1))] [sv_I r14] (sv_sts S [1076, 41, 42, 43, 44, 45, 46, 47, 1075, 1100029] g10)
  have md15 : sv_mod [1076, 41, 42, 43, 44, 45, 46, 47, 1075, 1100029, 1084, 1085, 48, 1086, 51, 52, 49, 50, 1100020, 1100021, 1100022, 58, 63, 64, 57, 1092, 53, 54, 55, 56, 59, 60] S (sv_sts S [1076, 41, 42, 43, 44, 45, 46, 47, 1075, 1100029] g10) := sv_mod.sts sv_mod.rf (by decide)
  have h := h r14 hr14 g10 hpo13
  refine sv_istore hM dX12_enter_24 (by decide) rfl ?_
  show sv_T sm_XS sm_cs sm_L sm_sh 2 (q_enter p1 p2 p3 p4 p5 S) 183 26 [(0, .ref 0), (1, sv_I p1), (2, sv_I p2), (3, sv_I p3), (4, sv_I p4), (5, sv_I p5), (6, sv_I (S 45 p1)), (7, sv_I r14)] [] (sv_sts S [1076, 41, 42, 43, 44, 45, 46, 47, 1075, 1100029] g10)
  refine sv_aload_n hM dX12_enter_26 rfl rfl ?_
  have k16 : (0 ≤ (g10 1075 0) ∧ (g10 1075 0) ≤ 1) := sm_okZ ok11 sm_r1075 0
  have h := h k16
  refine sv_getI hM dX12_enter_27 sm_fl_794 (sm_a0 _) sm_k75 rfl (x := (g10 1075 0)) rfl ?_
  refine sv_cond_eq hM dX12_enter_30 (sv_R01 k16) (t := 34) rfl rfl (fun hc => ?_) (fun hc => ?_)
  · have h := h.1 (hc)
    refine sv_aload_n hM dX12_enter_34 rfl rfl ?_
    refine sv_getA hM dX12_enter_35 sm_fl_140 (sm_a0 _) sm_k79 rfl ?_
    refine sv_iload hM dX12_enter_38 rfl rfl ?_
    refine sv_aload_n hM dX12_enter_40 rfl rfl ?_
    refine sv_getA hM dX12_enter_41 sm_fl_140 (sm_a0 _) sm_k79 rfl ?_
    refine sv_iload_n hM dX12_enter_44 rfl rfl ?_
    have k17 : sv_R (g10 43 p1) := sm_okI ok11 sm_r43 p1
    have h := h k17
    refine sv_iald hM dX12_enter_45 (sm_a43 _) (by decide) o6.1 o6.2 rfl (x := (g10 43 p1)) rfl ?_
    obtain ⟨o18, h⟩ := h
    refine sv_iast sm_X hM dX12_enter_46 (sm_a43 _) (by decide) o18.1 o18.2 rfl ?_
    have ok19 : sm_ok (sv_up (sv_sts S [1076, 41, 42, 43, 44, 45, 46, 47, 1075, 1100029] g10) 43 r14 (g10 43 p1)) := sm_upI ok11 sm_r43 k17
    have md20 : sv_mod [1076, 41, 42, 43, 44, 45, 46, 47, 1075, 1100029, 1084, 1085, 48, 1086, 51, 52, 49, 50, 1100020, 1100021, 1100022, 58, 63, 64, 57, 1092, 53, 54, 55, 56, 59, 60] S (sv_up (sv_sts S [1076, 41, 42, 43, 44, 45, 46, 47, 1075, 1100029] g10) 43 r14 (g10 43 p1)) := sv_mod.up md15 (by decide)
    refine sv_iconst (d := (0 : Int)) hM dX12_enter_47 rfl rfl ?_
    refine sv_istore hM dX12_enter_48 (by decide) rfl ?_
    show sv_T sm_XS sm_cs sm_L sm_sh 2 (q_enter p1 p2 p3 p4 p5 S) 183 50 [(0, .ref 0), (1, sv_I p1), (2, sv_I p2), (3, sv_I p3), (4, sv_I p4), (5, sv_I p5), (6, sv_I (S 45 p1)), (7, sv_I r14), (8, sv_I (0 : Int))] [] (sv_up (sv_sts S [1076, 41, 42, 43, 44, 45, 46, 47, 1075, 1100029] g10) 43 r14 (g10 43 p1))
    obtain ⟨hin24, h⟩ := h
    have hJ : ∀ a : Int × sv_S, (sv_R a.1 ∧ sm_ok (sv_sts (sv_up (sv_sts S [1076, 41, 42, 43, 44, 45, 46, 47, 1075, 1100029] g10) 43 r14 (g10 43 p1)) [1084, 1085, 48, 1086, 51, 52, 46, 47, 49, 50, 1075, 1100020, 1100021, 1100022] a.2) ∧ (sm_PL (a.2 1100020) (a.2 51) (a.2 52) (a.2 46) (a.2 47) (g10 1076 0) (a.2 1086 0) ∧ sm_FR (a.2 1100020) (a.2 52) (a.2 1100021) (a.2 1100022) (3000 - (a.2 1084 0)) (a.2 1085 0) ∧ sm_PV (a.2 1100020) (a.2 48) (a.2 49) (a.2 50) (g10 44) (g10 1076 0) (S 1007 0) ∧ sm_AL (a.2 1100020) (a.2 48) (a.2 49) (a.2 50) (g10 44) (g10 1076 0) (S 1100032 0) ∧ sm_SV (a.2 1100020) (a.2 48) (g10 1100029) (S 32) (S 33) (g10 1076 0) (S 1032 0) ∧ 0 ≤ (g10 1076 0) ∧ (g10 1076 0) ≤ 300 ∧ 0 ≤ (a.2 1084 0) ∧ (a.2 1084 0) ≤ 3000 ∧ 0 ≤ (a.2 1086 0) ∧ sm_SC (g10 1100029) (g10 44) (g10 45) (fun i' : Int => if i' = r14 then (g10 43 p1) else (g10 43) i') (S 21) (g10 1076 0) (S 1032 0) ∧ sm_PO (g10 42) (g10 1076 0) ∧ (a.2 1075 0) = 0 ∧ 0 ≤ a.1 ∧ a.1 ≤ (S 33 (S 45 p1)) ∧ sm_SJ (a.2 1100020) (a.2 48) (S 32) r14 (S 45 p1) a.1 ∧ (S 1086 0) ≤ (a.2 1086 0) ∧ (a.2 1086 0) ≤ (S 1086 0) + a.1)) → sv_T sm_XS sm_cs sm_L sm_sh 2 (q_enter p1 p2 p3 p4 p5 S) 183 50 [(0, .ref 0), (1, sv_I p1), (2, sv_I p2), (3, sv_I p3), (4, sv_I p4), (5, sv_I p5), (6, sv_I (S 45 p1)), (7, sv_I r14), (8, sv_I a.1)] [] (sv_sts (sv_up (sv_sts S [1076, 41, 42, 43, 44, 45, 46, 47, 1075, 1100029] g10) 43 r14 (g10 43 p1)) [1084, 1085, 48, 1086, 51, 52, 46, 47, 49, 50, 1075, 1100020, 1100021, 1100022] a.2) := by
      refine sv_loop (α := Int × sv_S) (fun a => sv_R a.1 ∧ sm_ok (sv_sts (sv_up (sv_sts S [1076, 41, 42, 43, 44, 45, 46, 47, 1075, 1100029] g10) 43 r14 (g10 43 p1)) [1084, 1085, 48, 1086, 51, 52, 46, 47, 49, 50, 1075, 1100020, 1100021, 1100022] a.2) ∧ (sm_PL (a.2 1100020) (a.2 51) (a.2 52) (a.2 46) (a.2 47) (g10 1076 0) (a.2 1086 0) ∧ sm_FR (a.2 1100020) (a.2 52) (a.2 1100021) (a.2 1100022) (3000 - (a.2 1084 0)) (a.2 1085 0) ∧ sm_PV (a.2 1100020) (a.2 48) (a.2 49) (a.2 50) (g10 44) (g10 1076 0) (S 1007 0) ∧ sm_AL (a.2 1100020) (a.2 48) (a.2 49) (a.2 50) (g10 44) (g10 1076 0) (S 1100032 0) ∧ sm_SV (a.2 1100020) (a.2 48) (g10 1100029) (S 32) (S 33) (g10 1076 0) (S 1032 0) ∧ 0 ≤ (g10 1076 0) ∧ (g10 1076 0) ≤ 300 ∧ 0 ≤ (a.2 1084 0) ∧ (a.2 1084 0) ≤ 3000 ∧ 0 ≤ (a.2 1086 0) ∧ sm_SC (g10 1100029) (g10 44) (g10 45) (fun i' : Int => if i' = r14 then (g10 43 p1) else (g10 43) i') (S 21) (g10 1076 0) (S 1032 0) ∧ sm_PO (g10 42) (g10 1076 0) ∧ (a.2 1075 0) = 0 ∧ 0 ≤ a.1 ∧ a.1 ≤ (S 33 (S 45 p1)) ∧ sm_SJ (a.2 1100020) (a.2 48) (S 32) r14 (S 45 p1) a.1 ∧ (S 1086 0) ≤ (a.2 1086 0) ∧ (a.2 1086 0) ≤ (S 1086 0) + a.1)) (fun a => (S 33 (S 45 p1)) - a.1) (fun a => sv_T sm_XS sm_cs sm_L sm_sh 2 (q_enter p1 p2 p3 p4 p5 S) 183 50 [(0, .ref 0), (1, sv_I p1), (2, sv_I p2), (3, sv_I p3), (4, sv_I p4), (5, sv_I p5), (6, sv_I (S 45 p1)), (7, sv_I r14), (8, sv_I a.1)] [] (sv_sts (sv_up (sv_sts S [1076, 41, 42, 43, 44, 45, 46, 47, 1075, 1100029] g10) 43 r14 (g10 43 p1)) [1084, 1085, 48, 1086, 51, 52, 46, 47, 49, 50, 1075, 1100020, 1100021, 1100022] a.2)) (fun a q => (h a.1 q.1 a.2 q.2.2).1) (fun a q ih23 => ?_)
      obtain ⟨l8_22, g21⟩ := a
      obtain ⟨hl8_22, ok25, hin24i⟩ := q
      have h := (h l8_22 hl8_22 g21 hin24i).2
      show sv_T sm_XS sm_cs sm_L sm_sh 2 (q_enter p1 p2 p3 p4 p5 S) 183 50 [(0, .ref 0), (1, sv_I p1), (2, sv_I p2), (3, sv_I p3), (4, sv_I p4), (5, sv_I p5), (6, sv_I (S 45 p1)), (7, sv_I r14), (8, sv_I l8_22)] [] (sv_sts (sv_up (sv_sts S [1076, 41, 42, 43, 44, 45, 46, 47, 1075, 1100029] g10) 43 r14 (g10 43 p1)) [1084, 1085, 48, 1086, 51, 52, 46, 47, 49, 50, 1075, 1100020, 1100021, 1100022] g21)
      have md26 : sv_mod [1076, 41, 42, 43, 44, 45, 46, 47, 1075, 1100029, 1084, 1085, 48, 1086, 51, 52, 49, 50, 1100020, 1100021, 1100022, 58, 63, 64, 57, 1092, 53, 54, 55, 56, 59, 60] S (sv_sts (sv_up (sv_sts S [1076, 41, 42, 43, 44, 45, 46, 47, 1075, 1100029] g10) 43 r14 (g10 43 p1)) [1084, 1085, 48, 1086, 51, 52, 46, 47, 49, 50, 1075, 1100020, 1100021, 1100022] g21) := sv_mod.sts md20 (by decide)
      have md27 : sv_mod [1084, 1085, 48, 1086, 51, 52, 46, 47, 49, 50, 1075, 1100020, 1100021, 1100022] (sv_up (sv_sts S [1076, 41, 42, 43, 44, 45, 46, 47, 1075, 1100029] g10) 43 r14 (g10 43 p1)) (sv_sts (sv_up (sv_sts S [1076, 41, 42, 43, 44, 45, 46, 47, 1075, 1100029] g10) 43 r14 (g10 43 p1)) [1084, 1085, 48, 1086, 51, 52, 46, 47, 49, 50, 1075, 1100020, 1100021, 1100022] g21) := sv_mod.sts sv_mod.rf (by decide)
      refine sv_iload hM dX12_enter_50 rfl rfl ?_
      refine sv_aload_n hM dX12_enter_52 rfl rfl ?_
      refine sv_getA hM dX12_enter_53 sm_fl_110 (sm_a0 _) sm_k58 rfl ?_
      refine sv_iload hM dX12_enter_56 rfl rfl ?_
      obtain ⟨o28, h⟩ := h
      have k29 : sv_R (S 33 (S 45 p1)) := sm_okI ok25 sm_r33 (S 45 p1)
      have h := h k29
      refine sv_iald hM dX12_enter_58 (sm_a33 _) (by decide) o28.1 o28.2 rfl (x := (S 33 (S 45 p1))) rfl ?_
      refine sv_icmp_ge hM dX12_enter_59 hl8_22 k29 (t := 205) rfl rfl (fun hc => ?_) (fun hc => ?_)
      · have h := h.1 (hc)
        obtain ⟨o30, h⟩ := h
        refine sv_ghost sm_X 1100029 r14 ((S 45 p1)) (by decide) ?_
        have ok31 : sm_ok (sv_up (sv_sts (sv_up (sv_sts S [1076, 41, 42, 43, 44, 45, 46, 47, 1075, 1100029] g10) 43 r14 (g10 43 p1)) [1084, 1085, 48, 1086, 51, 52, 46, 47, 49, 50, 1075, 1100020, 1100021, 1100022] g21) 1100029 r14 ((S 45 p1))) := sm_upI ok25 sm_r1100029 o30
        have md32 : sv_mod [1076, 41, 42, 43, 44, 45, 46, 47, 1075, 1100029, 1084, 1085, 48, 1086, 51, 52, 49, 50, 1100020, 1100021, 1100022, 58, 63, 64, 57, 1092, 53, 54, 55, 56, 59, 60] S (sv_up (sv_sts (sv_up (sv_sts S [1076, 41, 42, 43, 44, 45, 46, 47, 1075, 1100029] g10) 43 r14 (g10 43 p1)) [1084, 1085, 48, 1086, 51, 52, 46, 47, 49, 50, 1075, 1100020, 1100021, 1100022] g21) 1100029 r14 ((S 45 p1))) := sv_mod.up md26 (by decide)
        have k33 : (0 ≤ r14 → r14 < (g10 1076 0) → 1 ≤ (S 45 p1) → sm_LK (fun i' : Int => if i' = r14 then ((S 45 p1)) else (g10 1100029) i') (g10 1076 0) r14 (S 45 p1)) := fun a b d => Or.inr ⟨d, a, b, if_pos rfl⟩
        have h := h k33
        refine sv_aload_n hM dX12_enter_205 rfl rfl ?_
        refine sv_iload hM dX12_enter_206 rfl rfl ?_
        obtain ⟨o34, h⟩ := h
        refine sv_callV hM dX12_enter_208 sm_iv_882 (by decide) (sm_a0 _) rfl rfl (Nat.le_of_ble_eq_true rfl) sm_h153 (Nat.le_of_ble_eq_true rfl) (Nat.le_of_ble_eq_true rfl) (F' := 0) (Nat.le_of_ble_eq_true rfl) rfl (t_drop p4 (sv_up (sv_sts (sv_up (sv_sts S [1076, 41, 42, 43, 44, 45, 46, 47, 1075, 1100029] g10) 43 r14 (g10 43 p1)) [1084, 1085, 48, 1086, 51, 52, 46, 47, 49, 50, 1075, 1100020, 1100021, 1100022] g21) 1100029 r14 ((S 45 p1))) ok31 hp4 o34) (fun v S1 hq => ?_)
        obtain ⟨rfl, ok36, md37, hpo38⟩ := hq
        obtain ⟨g35, rfl⟩ : ∃ g, S1 = sv_sts (sv_up (sv_sts (sv_up (sv_sts S [1076, 41, 42, 43, 44, 45, 46, 47, 1075, 1100029] g10) 43 r14 (g10 43 p1)) [1084, 1085, 48, 1086, 51, 52, 46, 47, 49, 50, 1075, 1100020, 1100021, 1100022] g21) 1100029 r14 ((S 45 p1))) [58] g := ⟨_, md37.eq⟩
        show sv_T sm_XS sm_cs sm_L sm_sh 2 (q_enter p1 p2 p3 p4 p5 S) 183 211 [(0, .ref 0), (1, sv_I p1), (2, sv_I p2), (3, sv_I p3), (4, sv_I p4), (5, sv_I p5), (6, sv_I (S 45 p1)), (7, sv_I r14), (8, sv_I l8_22)] [] (sv_sts (sv_up (sv_sts (sv_up (sv_sts S [1076, 41, 42, 43, 44, 45, 46, 47, 1075, 1100029] g10) 43 r14 (g10 43 p1)) [1084, 1085, 48, 1086, 51, 52, 46, 47, 49, 50, 1075, 1100020, 1100021, 1100022] g21) 1100029 r14 ((S 45 p1))) [58] g35)
        have md39 : sv_mod [1076, 41, 42, 43, 44, 45, 46, 47, 1075, 1100029, 1084, 1085, 48, 1086, 51, 52, 49, 50, 1100020, 1100021, 1100022, 58, 63, 64, 57, 1092, 53, 54, 55, 56, 59, 60] S (sv_sts (sv_up (sv_sts (sv_up (sv_sts S [1076, 41, 42, 43, 44, 45, 46, 47, 1075, 1100029] g10) 43 r14 (g10 43 p1)) [1084, 1085, 48, 1086, 51, 52, 46, 47, 49, 50, 1075, 1100020, 1100021, 1100022] g21) 1100029 r14 ((S 45 p1))) [58] g35) := sv_mod.sts md32 (by decide)
        have h := h g35 hpo38
        refine sv_aload_n hM dX12_enter_211 rfl rfl ?_
        obtain ⟨o40, h⟩ := h
        refine sv_callV hM dX12_enter_212 sm_iv_888 (by decide) (sm_a0 _) rfl rfl (Nat.le_of_ble_eq_true rfl) sm_h154 (Nat.le_of_ble_eq_true rfl) (Nat.le_of_ble_eq_true rfl) (F' := 0) (Nat.le_of_ble_eq_true rfl) rfl (t_goOn  (sv_sts (sv_up (sv_sts (sv_up (sv_sts S [1076, 41, 42, 43, 44, 45, 46, 47, 1075, 1100029] g10) 43 r14 (g10 43 p1)) [1084, 1085, 48, 1086, 51, 52, 46, 47, 49, 50, 1075, 1100020, 1100021, 1100022] g21) 1100029 r14 ((S 45 p1))) [58] g35) ok36 o40) (fun v S1 hq => ?_)
        obtain ⟨rfl, ok42, md43, hpo44⟩ := hq
        obtain ⟨g41, rfl⟩ : ∃ g, S1 = sv_sts (sv_sts (sv_up (sv_sts (sv_up (sv_sts S [1076, 41, 42, 43, 44, 45, 46, 47, 1075, 1100029] g10) 43 r14 (g10 43 p1)) [1084, 1085, 48, 1086, 51, 52, 46, 47, 49, 50, 1075, 1100020, 1100021, 1100022] g21) 1100029 r14 ((S 45 p1))) [58] g35) [57] g := ⟨_, md43.eq⟩
        show sv_T sm_XS sm_cs sm_L sm_sh 2 (q_enter p1 p2 p3 p4 p5 S) 183 215 [(0, .ref 0), (1, sv_I p1), (2, sv_I p2), (3, sv_I p3), (4, sv_I p4), (5, sv_I p5), (6, sv_I (S 45 p1)), (7, sv_I r14), (8, sv_I l8_22)] [] (sv_sts (sv_sts (sv_up (sv_sts (sv_up (sv_sts S [1076, 41, 42, 43, 44, 45, 46, 47, 1075, 1100029] g10) 43 r14 (g10 43 p1)) [1084, 1085, 48, 1086, 51, 52, 46, 47, 49, 50, 1075, 1100020, 1100021, 1100022] g21) 1100029 r14 ((S 45 p1))) [58] g35) [57] g41)
        have md45 : sv_mod [1076, 41, 42, 43, 44, 45, 46, 47, 1075, 1100029, 1084, 1085, 48, 1086, 51, 52, 49, 50, 1100020, 1100021, 1100022, 58, 63, 64, 57, 1092, 53, 54, 55, 56, 59, 60] S (sv_sts (sv_sts (sv_up (sv_sts (sv_up (sv_sts S [1076, 41, 42, 43, 44, 45, 46, 47, 1075, 1100029] g10) 43 r14 (g10 43 p1)) [1084, 1085, 48, 1086, 51, 52, 46, 47, 49, 50, 1075, 1100020, 1100021, 1100022] g21) 1100029 r14 ((S 45 p1))) [58] g35) [57] g41) := sv_mod.sts md39 (by decide)
        have h := h g41 hpo44
        have k46 : (sm_CT (S 26) (S 27) (S 28) (S 29) (S 1100007) (S 1100023) (S 1100024) (S 1100025) (S 21) (S 1046 0) (S 1032 0) (S 1008 0) (S 1055 0) → sm_FL (S 53) (S 54) (S 55) (S 56) (g41 57) (g35 58) (S 59) (S 60) (S 61) (S 62) (S 63) (S 64) (S 27) (S 29) (S 1100007) (S 1100023) (S 1100024) (S 1100025) (S 26) (fun i' : Int => if i' = r14 then ((S 45 p1)) else (g10 1100029) i') (g10 44) (S 1046 0) (S 1032 0) (g10 1076 0) (S 1007 0) (((S 1092 0) - 1)) → (g41 57 ((S 1092 0) - 1)) = ((S 1100033 0) + 1) → 0 ≤ (S 53 ((S 1092 0) - 1)) ∧ (S 53 ((S 1092 0) - 1)) < (S 1032 0) ∧ 0 ≤ ((S 1100033 0) + 1) ∧ ((S 1100033 0) + 1) < (S 1046 0) ∧ (S 29 ((S 1100033 0) + 1)) = (S 53 ((S 1092 0) - 1)) ∧ (g35 58 ((S 1092 0) - 1)) = (S 1100007 ((S 1100033 0) + 1)) - 1 ∧ 0 ≤ (g35 58 ((S 1092 0) - 1)) ∧ (g35 58 ((S 1092 0) - 1)) ≤ 396 → (S 60 ((S 1092 0) - 1)) = sm_dp (S 1100024) (S 1100023 ((S 1100033 0) + 1)) → sm_TC (S 61) (S 62) (S 27) (S 1100007) (S 1100023) (S 1100024) (40 * ((S 1092 0) - 1)) (S 1100023 ((S 1100033 0) + 1)) → sm_SK (S 63) (S 64) (g10 44) (S 1100007) (S 1100025) (g10 1076 0) (S 1007 0) (400 * ((S 1092 0) - 1)) ((g35 58 ((S 1092 0) - 1))) ((S 1100025 ((S 1100033 0) + 1))) → (0 ≤ (S 1100025 ((S 1100033 0) + 1)) → (S 1100007 (S 1100025 ((S 1100033 0) + 1))) ≤ (S 58 ((S 1092 0) - 1)) - p4) → (0 ≤ (S 1100023 ((S 1100033 0) + 1)) → (S 1100007 (S 1100023 ((S 1100033 0) + 1))) ≤ (S 58 ((S 1092 0) - 1)) - p4) → (g35 58 ((S 1092 0) - 1)) = (S 58 ((S 1092 0) - 1)) - p4 → sm_LK (fun i' : Int => if i' = r14 then ((S 45 p1)) else (g10 1100029) i') (g10 1076 0) (S 54 ((S 1092 0) - 1)) (S 53 ((S 1092 0) - 1)) → sm_VO (g10 44) (g10 1076 0) (S 1007 0) ((S 55 ((S 1092 0) - 1))) ((S 56 ((S 1092 0) - 1))) → sm_FW (g10 44) (g10 1076 0) (S 59 ((S 1092 0) - 1)) → sm_FL (S 53) (S 54) (S 55) (S 56) (g41 57) (g35 58) (S 59) (S 60) (S 61) (S 62) (S 63) (S 64) (S 27) (S 29) (S 1100007) (S 1100023) (S 1100024) (S 1100025) (S 26) (fun i' : Int => if i' = r14 then ((S 45 p1)) else (g10 1100029) i') (g10 44) (S 1046 0) (S 1032 0) (g10 1076 0) (S 1007 0) ((S 1092 0))) := fun c w hp e1 e2 e3 e4 e5 e6 eh e7 e8 e9 => sm_FL_push c w e1 e2 e3 rfl e4 rfl rfl (fun z => by have := e5 z; omega) (fun z => by have := e6 z; omega) e7 e8 e9 (by omega) hp
        have h := h k46
        refine sv_aload_n hM dX12_enter_215 rfl rfl ?_
        refine sv_iload hM dX12_enter_216 rfl rfl ?_
        refine sv_iload hM dX12_enter_218 rfl rfl ?_
        refine sv_iload_n hM dX12_enter_220 rfl rfl ?_
        refine sv_iload_n hM dX12_enter_221 rfl rfl ?_
        refine sv_iload hM dX12_enter_222 rfl rfl ?_
        obtain ⟨o47, h⟩ := h
        refine sv_callV hM dX12_enter_224 sm_iv_875 (by decide) (sm_a0 _) rfl rfl (Nat.le_of_ble_eq_true rfl) sm_h148 (Nat.le_of_ble_eq_true rfl) (Nat.le_of_ble_eq_true rfl) (F' := 0) (Nat.le_of_ble_eq_true rfl) rfl (t_enterFrame (S 45 p1) r14 p2 p3 p5 (sv_sts (sv_sts (sv_up (sv_sts (sv_up (sv_sts S [1076, 41, 42, 43, 44, 45, 46, 47, 1075, 1100029] g10) 43 r14 (g10 43 p1)) [1084, 1085, 48, 1086, 51, 52, 46, 47, 49, 50, 1075, 1100020, 1100021, 1100022] g21) 1100029 r14 ((S 45 p1))) [58] g35) [57] g41) ok42 k7 hr14 hp2 hp3 hp5 o47) (fun v S1 hq => ?_)
        obtain ⟨rfl, ok49, md50, hpo51⟩ := hq
        obtain ⟨g48, rfl⟩ : ∃ g, S1 = sv_sts (sv_sts (sv_sts (sv_up (sv_sts (sv_up (sv_sts S [1076, 41, 42, 43, 44, 45, 46, 47, 1075, 1100029] g10) 43 r14 (g10 43 p1)) [1084, 1085, 48, 1086, 51, 52, 46, 47, 49, 50, 1075, 1100020, 1100021, 1100022] g21) 1100029 r14 ((S 45 p1))) [58] g35) [57] g41) [1092, 53, 54, 55, 56, 57, 58, 59, 60] g := ⟨_, md50.eq⟩
        show sv_T sm_XS sm_cs sm_L sm_sh 2 (q_enter p1 p2 p3 p4 p5 S) 183 227 [(0, .ref 0), (1, sv_I p1), (2, sv_I p2), (3, sv_I p3), (4, sv_I p4), (5, sv_I p5), (6, sv_I (S 45 p1)), (7, sv_I r14), (8, sv_I l8_22)] [] (sv_sts (sv_sts (sv_sts (sv_up (sv_sts (sv_up (sv_sts S [1076, 41, 42, 43, 44, 45, 46, 47, 1075, 1100029] g10) 43 r14 (g10 43 p1)) [1084, 1085, 48, 1086, 51, 52, 46, 47, 49, 50, 1075, 1100020, 1100021, 1100022] g21) 1100029 r14 ((S 45 p1))) [58] g35) [57] g41) [1092, 53, 54, 55, 56, 57, 58, 59, 60] g48)
        have md52 : sv_mod [1076, 41, 42, 43, 44, 45, 46, 47, 1075, 1100029, 1084, 1085, 48, 1086, 51, 52, 49, 50, 1100020, 1100021, 1100022, 58, 63, 64, 57, 1092, 53, 54, 55, 56, 59, 60] S (sv_sts (sv_sts (sv_sts (sv_up (sv_sts (sv_up (sv_sts S [1076, 41, 42, 43, 44, 45, 46, 47, 1075, 1100029] g10) 43 r14 (g10 43 p1)) [1084, 1085, 48, 1086, 51, 52, 46, 47, 49, 50, 1075, 1100020, 1100021, 1100022] g21) 1100029 r14 ((S 45 p1))) [58] g35) [57] g41) [1092, 53, 54, 55, 56, 57, 58, 59, 60] g48) := sv_mod.sts md45 (by decide)
        have h := h g48 hpo51
        have k53 : ((S 1100023 (g48 57 ((g48 1092 0) - 1))) < 0 → sm_dp (S 1100024) (S 1100023 (g48 57 ((g48 1092 0) - 1))) = 0) := sm_dp_n
        have h := h k53
        exact sv_vret hM dX12_enter_227 rfl ⟨rfl, ok49, md52, h⟩
      · have h := h.2 (hc)
        have k54 : (sm_VN (S 32) (S 33) (S 1032 0) (S 1008 0) → 1 ≤ (S 45 p1) → (S 45 p1) < (S 1032 0) → 0 ≤ l8_22 → l8_22 < (S 33 (S 45 p1)) → 0 ≤ (S 32 (100 * (S 45 p1) + l8_22)) ∧ (S 32 (100 * (S 45 p1) + l8_22)) < (S 1008 0)) := fun h a b d e => sm_VN_at h _ _ a b d e
        have h := h k54
        refine sv_aload_n hM dX12_enter_62 rfl rfl ?_
        refine sv_getA hM dX12_enter_63 sm_fl_107 (sm_a0 _) sm_k57 rfl ?_
        refine sv_bipush (d := (100 : Int)) hM dX12_enter_66 rfl rfl ?_
        refine sv_iload hM dX12_enter_68 rfl rfl ?_
        refine sv_imul hM dX12_enter_70 rfl ?_
        refine sv_iload hM dX12_enter_71 rfl rfl ?_
        refine sv_iadd hM dX12_enter_73 rfl ?_
        obtain ⟨o55, h⟩ := h
        have k56 : sv_R (S 32 (((100 : Int) * (S 45 p1)) + l8_22)) := sm_okI ok25 sm_r32 (((100 : Int) * (S 45 p1)) + l8_22)
        have h := h k56
        refine sv_iald hM dX12_enter_74 (sm_a32 _) (by decide) o55.1 o55.2 rfl (x := (S 32 (((100 : Int) * (S 45 p1)) + l8_22))) rfl ?_
        obtain ⟨x57, e58⟩ : ∃ x : Int, (S 32 (((100 : Int) * (S 45 p1)) + l8_22)) = x := ⟨_, rfl⟩
        have h := h x57 e58
        have e58r : sv_R x57 := e58 ▸ k56
        refine sv_nameI e58 ?_
        refine sv_istore hM dX12_enter_75 (by decide) rfl ?_
        show sv_T sm_XS sm_cs sm_L sm_sh 2 (q_enter p1 p2 p3 p4 p5 S) 183 77 [(0, .ref 0), (1, sv_I p1), (2, sv_I p2), (3, sv_I p3), (4, sv_I p4), (5, sv_I p5), (6, sv_I (S 45 p1)), (7, sv_I r14), (8, sv_I l8_22), (9, sv_I x57)] [] (sv_sts (sv_up (sv_sts S [1076, 41, 42, 43, 44, 45, 46, 47, 1075, 1100029] g10) 43 r14 (g10 43 p1)) [1084, 1085, 48, 1086, 51, 52, 46, 47, 49, 50, 1075, 1100020, 1100021, 1100022] g21)
        have J109 : ∀ s59 : Int, sv_R s59 → (s59 = 0 ∨ s59 = 1) → sv_T sm_XS sm_cs sm_L sm_sh 2 (q_enter p1 p2 p3 p4 p5 S) 183 94 [(0, .ref 0), (1, sv_I p1), (2, sv_I p2), (3, sv_I p3), (4, sv_I p4), (5, sv_I p5), (6, sv_I (S 45 p1)), (7, sv_I r14), (8, sv_I l8_22), (9, sv_I x57)] [sv_I s59] (sv_sts (sv_up (sv_sts S [1076, 41, 42, 43, 44, 45, 46, 47, 1075, 1100029] g10) 43 r14 (g10 43 p1)) [1084, 1085, 48, 1086, 51, 52, 46, 47, 49, 50, 1075, 1100020, 1100021, 1100022] g21) := by
          intro s59 hs59 hin60
          have h := h.1 s59 hs59 hin60
          refine sv_istore hM dX12_enter_94 (by decide) rfl ?_
          show sv_T sm_XS sm_cs sm_L sm_sh 2 (q_enter p1 p2 p3 p4 p5 S) 183 96 [(0, .ref 0), (1, sv_I p1), (2, sv_I p2), (3, sv_I p3), (4, sv_I p4), (5, sv_I p5), (6, sv_I (S 45 p1)), (7, sv_I r14), (8, sv_I l8_22), (9, sv_I x57), (10, sv_I s59)] [] (sv_sts (sv_up (sv_sts S [1076, 41, 42, 43, 44, 45, 46, 47, 1075, 1100029] g10) 43 r14 (g10 43 p1)) [1084, 1085, 48, 1086, 51, 52, 46, 47, 49, 50, 1075, 1100020, 1100021, 1100022] g21)
          have J106 : ∀ s61 : Int, sv_R s61 → (s61 = 0 ∨ s61 = 1) → sv_T sm_XS sm_cs sm_L sm_sh 2 (q_enter p1 p2 p3 p4 p5 S) 183 128 [(0, .ref 0), (1, sv_I p1), (2, sv_I p2), (3, sv_I p3), (4, sv_I p4), (5, sv_I p5), (6, sv_I (S 45 p1)), (7, sv_I r14), (8, sv_I l8_22), (9, sv_I x57), (10, sv_I s59)] [sv_I s61] (sv_sts (sv_up (sv_sts S [1076, 41, 42, 43, 44, 45, 46, 47, 1075, 1100029] g10) 43 r14 (g10 43 p1)) [1084, 1085, 48, 1086, 51, 52, 46, 47, 49, 50, 1075, 1100020, 1100021, 1100022] g21) := by
            intro s61 hs61 hin62
            have h := h.1 s61 hs61 hin62
            refine sv_istore hM dX12_enter_128 (by decide) rfl ?_
            show sv_T sm_XS sm_cs sm_L sm_sh 2 (q_enter p1 p2 p3 p4 p5 S) 183 130 [(0, .ref 0), (1, sv_I p1), (2, sv_I p2), (3, sv_I p3), (4, sv_I p4), (5, sv_I p5), (6, sv_I (S 45 p1)), (7, sv_I r14), (8, sv_I l8_22), (9, sv_I x57), (10, sv_I s59), (11, sv_I s61)] [] (sv_sts (sv_up (sv_sts S [1076, 41, 42, 43, 44, 45, 46, 47, 1075, 1100029] g10) 43 r14 (g10 43 p1)) [1084, 1085, 48, 1086, 51, 52, 46, 47, 49, 50, 1075, 1100020, 1100021, 1100022] g21)
            have J99 : ∀ s63 : Int, sv_R s63 → ((¬ s59 = 0 → (l8_22 < (S 1115 0) → s63 = (S 63 ((S 1114 0) + l8_22))) ∧ (¬ l8_22 < (S 1115 0) → s63 = 0)) ∧ (s59 = 0 → ¬ s61 = 0 → s63 = 7) ∧ (s59 = 0 → s61 = 0 → s63 = 0)) → sv_T sm_XS sm_cs sm_L sm_sh 2 (q_enter p1 p2 p3 p4 p5 S) 183 155 [(0, .ref 0), (1, sv_I p1), (2, sv_I p2), (3, sv_I p3), (4, sv_I p4), (5, sv_I p5), (6, sv_I (S 45 p1)), (7, sv_I r14), (8, sv_I l8_22), (9, sv_I x57), (10, sv_I s59), (11, sv_I s61)] [sv_I s63] (sv_sts (sv_up (sv_sts S [1076, 41, 42, 43, 44, 45, 46, 47, 1075, 1100029] g10) 43 r14 (g10 43 p1)) [1084, 1085, 48, 1086, 51, 52, 46, 47, 49, 50, 1075, 1100020, 1100021, 1100022] g21) := by
              intro s63 hs63 hin64
              have h := h.1 s63 hs63 hin64
              refine sv_istore hM dX12_enter_155 (by decide) rfl ?_
              show sv_T sm_XS sm_cs sm_L sm_sh 2 (q_enter p1 p2 p3 p4 p5 S) 183 157 [(0, .ref 0), (1, sv_I p1), (2, sv_I p2), (3, sv_I p3), (4, sv_I p4), (5, sv_I p5), (6, sv_I (S 45 p1)), (7, sv_I r14), (8, sv_I l8_22), (9, sv_I x57), (10, sv_I s59), (11, sv_I s61), (12, sv_I s63)] [] (sv_sts (sv_up (sv_sts S [1076, 41, 42, 43, 44, 45, 46, 47, 1075, 1100029] g10) 43 r14 (g10 43 p1)) [1084, 1085, 48, 1086, 51, 52, 46, 47, 49, 50, 1075, 1100020, 1100021, 1100022] g21)
              refine sv_aload_n hM dX12_enter_157 rfl rfl ?_
              refine sv_iload hM dX12_enter_158 rfl rfl ?_
              refine sv_iload hM dX12_enter_160 rfl rfl ?_
              refine sv_iload hM dX12_enter_162 rfl rfl ?_
              refine sv_iload hM dX12_enter_164 rfl rfl ?_
              refine sv_cond_eq hM dX12_enter_166 hs59 (t := 178) rfl rfl (fun hc => ?_) (fun hc => ?_)
              · have h := h.1 (hc)
                refine sv_iload hM dX12_enter_178 rfl rfl ?_
                refine sv_cond_eq hM dX12_enter_180 hs61 (t := 187) rfl rfl (fun hc => ?_) (fun hc => ?_)
                · have h := h.1 (hc)
                  refine sv_iconst (d := (0 : Int)) hM dX12_enter_187 rfl rfl ?_
                  obtain ⟨o65, h⟩ := h
                  refine sv_callV hM dX12_enter_188 sm_iv_870 (by decide) (sm_a0 _) rfl rfl (Nat.le_of_ble_eq_true rfl) sm_h141 (Nat.le_of_ble_eq_true rfl) (Nat.le_of_ble_eq_true rfl) (F' := 1) (Nat.le_of_ble_eq_true rfl) rfl (t_set_ r14 x57 s63 (0 : Int) (sv_sts (sv_up (sv_sts S [1076, 41, 42, 43, 44, 45, 46, 47, 1075, 1100029] g10) 43 r14 (g10 43 p1)) [1084, 1085, 48, 1086, 51, 52, 46, 47, 49, 50, 1075, 1100020, 1100021, 1100022] g21) ok25 hr14 e58r hs63 (⟨by decide, by decide⟩ : sv_R (0 : Int)) o65) (fun v S1 hq => ?_)
                  obtain ⟨rfl, ok67, md68, hpo69⟩ := hq
                  obtain ⟨g66, rfl⟩ : ∃ g, S1 = sv_sts (sv_sts (sv_up (sv_sts S [1076, 41, 42, 43, 44, 45, 46, 47, 1075, 1100029] g10) 43 r14 (g10 43 p1)) [1084, 1085, 48, 1086, 51, 52, 46, 47, 49, 50, 1075, 1100020, 1100021, 1100022] g21) [1084, 1085, 48, 1086, 51, 52, 46, 47, 49, 50, 1075, 1100020, 1100021, 1100022] g := ⟨_, md68.eq⟩
                  show sv_T sm_XS sm_cs sm_L sm_sh 2 (q_enter p1 p2 p3 p4 p5 S) 183 191 [(0, .ref 0), (1, sv_I p1), (2, sv_I p2), (3, sv_I p3), (4, sv_I p4), (5, sv_I p5), (6, sv_I (S 45 p1)), (7, sv_I r14), (8, sv_I l8_22), (9, sv_I x57), (10, sv_I s59), (11, sv_I s61), (12, sv_I s63)] [] (sv_sts (sv_sts (sv_up (sv_sts S [1076, 41, 42, 43, 44, 45, 46, 47, 1075, 1100029] g10) 43 r14 (g10 43 p1)) [1084, 1085, 48, 1086, 51, 52, 46, 47, 49, 50, 1075, 1100020, 1100021, 1100022] g21) [1084, 1085, 48, 1086, 51, 52, 46, 47, 49, 50, 1075, 1100020, 1100021, 1100022] g66)
                  have md70 : sv_mod [1076, 41, 42, 43, 44, 45, 46, 47, 1075, 1100029, 1084, 1085, 48, 1086, 51, 52, 49, 50, 1100020, 1100021, 1100022, 58, 63, 64, 57, 1092, 53, 54, 55, 56, 59, 60] S (sv_sts (sv_sts (sv_up (sv_sts S [1076, 41, 42, 43, 44, 45, 46, 47, 1075, 1100029] g10) 43 r14 (g10 43 p1)) [1084, 1085, 48, 1086, 51, 52, 46, 47, 49, 50, 1075, 1100020, 1100021, 1100022] g21) [1084, 1085, 48, 1086, 51, 52, 46, 47, 49, 50, 1075, 1100020, 1100021, 1100022] g66) := sv_mod.sts md26 (by decide)
                  have md71 : sv_mod [1084, 1085, 48, 1086, 51, 52, 46, 47, 49, 50, 1075, 1100020, 1100021, 1100022] (sv_up (sv_sts S [1076, 41, 42, 43, 44, 45, 46, 47, 1075, 1100029] g10) 43 r14 (g10 43 p1)) (sv_sts (sv_sts (sv_up (sv_sts S [1076, 41, 42, 43, 44, 45, 46, 47, 1075, 1100029] g10) 43 r14 (g10 43 p1)) [1084, 1085, 48, 1086, 51, 52, 46, 47, 49, 50, 1075, 1100020, 1100021, 1100022] g21) [1084, 1085, 48, 1086, 51, 52, 46, 47, 49, 50, 1075, 1100020, 1100021, 1100022] g66) := sv_mod.sts md27 (by decide)
                  have h := h g66 hpo69
                  refine sv_aload_n hM dX12_enter_191 rfl rfl ?_
                  have k72 : (0 ≤ (g66 1075 0) ∧ (g66 1075 0) ≤ 1) := sm_okZ ok67 sm_r1075 0
                  have h := h k72
                  refine sv_getI hM dX12_enter_192 sm_fl_794 (sm_a0 _) sm_k75 rfl (x := (g66 1075 0)) rfl ?_
                  refine sv_cond_eq hM dX12_enter_195 (sv_R01 k72) (t := 199) rfl rfl (fun hc => ?_) (fun hc => ?_)
                  · have h := h.1 (hc)
                    refine sv_iinc (d := (1 : Int)) hM dX12_enter_199 rfl (by decide) rfl rfl ?_
                    show sv_T sm_XS sm_cs sm_L sm_sh 2 (q_enter p1 p2 p3 p4 p5 S) 183 202 [(0, .ref 0), (1, sv_I p1), (2, sv_I p2), (3, sv_I p3), (4, sv_I p4), (5, sv_I p5), (6, sv_I (S 45 p1)), (7, sv_I r14), (8, sv_I (l8_22 + (1 : Int))), (9, sv_I x57), (10, sv_I s59), (11, sv_I s61), (12, sv_I s63)] [] (sv_sts (sv_sts (sv_up (sv_sts S [1076, 41, 42, 43, 44, 45, 46, 47, 1075, 1100029] g10) 43 r14 (g10 43 p1)) [1084, 1085, 48, 1086, 51, 52, 46, 47, 49, 50, 1075, 1100020, 1100021, 1100022] g21) [1084, 1085, 48, 1086, 51, 52, 46, 47, 49, 50, 1075, 1100020, 1100021, 1100022] g66)
                    refine sv_goto hM dX12_enter_202 (pc' := 50) rfl ?_
                    obtain ⟨o73, h⟩ := h
                    have eS := sv_mod.eq md71
                    have hb := ih23 ((l8_22 + (1 : Int)), (sv_sts (sv_sts (sv_up (sv_sts S [1076, 41, 42, 43, 44, 45, 46, 47, 1075, 1100029] g10) 43 r14 (g10 43 p1)) [1084, 1085, 48, 1086, 51, 52, 46, 47, 49, 50, 1075, 1100020, 1100021, 1100022] g21) [1084, 1085, 48, 1086, 51, 52, 46, 47, 49, 50, 1075, 1100020, 1100021, 1100022] g66)) ⟨o73, (by rw [← eS]; exact ok67), h.1⟩ h.2
                    have hb : sv_T sm_XS sm_cs sm_L sm_sh 2 (q_enter p1 p2 p3 p4 p5 S) 183 50 [(0, .ref 0), (1, sv_I p1), (2, sv_I p2), (3, sv_I p3), (4, sv_I p4), (5, sv_I p5), (6, sv_I (S 45 p1)), (7, sv_I r14), (8, sv_I (l8_22 + (1 : Int)))] [] (sv_sts (sv_sts (sv_up (sv_sts S [1076, 41, 42, 43, 44, 45, 46, 47, 1075, 1100029] g10) 43 r14 (g10 43 p1)) [1084, 1085, 48, 1086, 51, 52, 46, 47, 49, 50, 1075, 1100020, 1100021, 1100022] g21) [1084, 1085, 48, 1086, 51, 52, 46, 47, 49, 50, 1075, 1100020, 1100021, 1100022] g66) := Eq.mpr (congrArg (fun Z => sv_T sm_XS sm_cs sm_L sm_sh 2 (q_enter p1 p2 p3 p4 p5 S) 183 50 [(0, .ref 0), (1, sv_I p1), (2, sv_I p2), (3, sv_I p3), (4, sv_I p4), (5, sv_I p5), (6, sv_I (S 45 p1)), (7, sv_I r14), (8, sv_I (l8_22 + (1 : Int)))] [] Z) eS) hb
                    exact sv_less (lv := [(0, .ref 0), (1, sv_I p1), (2, sv_I p2), (3, sv_I p3), (4, sv_I p4), (5, sv_I p5), (6, sv_I (S 45 p1)), (7, sv_I r14), (8, sv_I (l8_22 + (1 : Int)))]) (sv_Sub_cons rfl (sv_Sub_cons rfl (sv_Sub_cons rfl (sv_Sub_cons rfl (sv_Sub_cons rfl (sv_Sub_cons rfl (sv_Sub_cons rfl (sv_Sub_cons rfl (sv_Sub_cons rfl sv_Sub_nil))))))))) hb
                  · have h := h.2 (hc)
                    exact sv_vret hM dX12_enter_198 rfl ⟨rfl, ok67, md70, h⟩
                · have h := h.2 (hc)
                  refine sv_iload_n hM dX12_enter_183 rfl rfl ?_
                  refine sv_goto hM dX12_enter_184 (pc' := 188) rfl ?_
                  obtain ⟨o74, h⟩ := h
                  refine sv_callV hM dX12_enter_188 sm_iv_870 (by decide) (sm_a0 _) rfl rfl (Nat.le_of_ble_eq_true rfl) sm_h141 (Nat.le_of_ble_eq_true rfl) (Nat.le_of_ble_eq_true rfl) (F' := 1) (Nat.le_of_ble_eq_true rfl) rfl (t_set_ r14 x57 s63 p1 (sv_sts (sv_up (sv_sts S [1076, 41, 42, 43, 44, 45, 46, 47, 1075, 1100029] g10) 43 r14 (g10 43 p1)) [1084, 1085, 48, 1086, 51, 52, 46, 47, 49, 50, 1075, 1100020, 1100021, 1100022] g21) ok25 hr14 e58r hs63 hp1 o74) (fun v S1 hq => ?_)
                  obtain ⟨rfl, ok76, md77, hpo78⟩ := hq
                  obtain ⟨g75, rfl⟩ : ∃ g, S1 = sv_sts (sv_sts (sv_up (sv_sts S [1076, 41, 42, 43, 44, 45, 46, 47, 1075, 1100029] g10) 43 r14 (g10 43 p1)) [1084, 1085, 48, 1086, 51, 52, 46, 47, 49, 50, 1075, 1100020, 1100021, 1100022] g21) [1084, 1085, 48, 1086, 51, 52, 46, 47, 49, 50, 1075, 1100020, 1100021, 1100022] g := ⟨_, md77.eq⟩
                  show sv_T sm_XS sm_cs sm_L sm_sh 2 (q_enter p1 p2 p3 p4 p5 S) 183 191 [(0, .ref 0), (1, sv_I p1), (2, sv_I p2), (3, sv_I p3), (4, sv_I p4), (5, sv_I p5), (6, sv_I (S 45 p1)), (7, sv_I r14), (8, sv_I l8_22), (9, sv_I x57), (10, sv_I s59), (11, sv_I s61), (12, sv_I s63)] [] (sv_sts (sv_sts (sv_up (sv_sts S [1076, 41, 42, 43, 44, 45, 46, 47, 1075, 1100029] g10) 43 r14 (g10 43 p1)) [1084, 1085, 48, 1086, 51, 52, 46, 47, 49, 50, 1075, 1100020, 1100021, 1100022] g21) [1084, 1085, 48, 1086, 51, 52, 46, 47, 49, 50, 1075, 1100020, 1100021, 1100022] g75)
                  have md79 : sv_mod [1076, 41, 42, 43, 44, 45, 46, 47, 1075, 1100029, 1084, 1085, 48, 1086, 51, 52, 49, 50, 1100020, 1100021, 1100022, 58, 63, 64, 57, 1092, 53, 54, 55, 56, 59, 60] S (sv_sts (sv_sts (sv_up (sv_sts S [1076, 41, 42, 43, 44, 45, 46, 47, 1075, 1100029] g10) 43 r14 (g10 43 p1)) [1084, 1085, 48, 1086, 51, 52, 46, 47, 49, 50, 1075, 1100020, 1100021, 1100022] g21) [1084, 1085, 48, 1086, 51, 52, 46, 47, 49, 50, 1075, 1100020, 1100021, 1100022] g75) := sv_mod.sts md26 (by decide)
                  have md80 : sv_mod [1084, 1085, 48, 1086, 51, 52, 46, 47, 49, 50, 1075, 1100020, 1100021, 1100022] (sv_up (sv_sts S [1076, 41, 42, 43, 44, 45, 46, 47, 1075, 1100029] g10) 43 r14 (g10 43 p1)) (sv_sts (sv_sts (sv_up (sv_sts S [1076, 41, 42, 43, 44, 45, 46, 47, 1075, 1100029] g10) 43 r14 (g10 43 p1)) [1084, 1085, 48, 1086, 51, 52, 46, 47, 49, 50, 1075, 1100020, 1100021, 1100022] g21) [1084, 1085, 48, 1086, 51, 52, 46, 47, 49, 50, 1075, 1100020, 1100021, 1100022] g75) := sv_mod.sts md27 (by decide)
                  have h := h g75 hpo78
                  refine sv_aload_n hM dX12_enter_191 rfl rfl ?_
                  have k81 : (0 ≤ (g75 1075 0) ∧ (g75 1075 0) ≤ 1) := sm_okZ ok76 sm_r1075 0
                  have h := h k81
                  refine sv_getI hM dX12_enter_192 sm_fl_794 (sm_a0 _) sm_k75 rfl (x := (g75 1075 0)) rfl ?_
                  refine sv_cond_eq hM dX12_enter_195 (sv_R01 k81) (t := 199) rfl rfl (fun hc => ?_) (fun hc => ?_)
                  · have h := h.1 (hc)
                    refine sv_iinc (d := (1 : Int)) hM dX12_enter_199 rfl (by decide) rfl rfl ?_
                    show sv_T sm_XS sm_cs sm_L sm_sh 2 (q_enter p1 p2 p3 p4 p5 S) 183 202 [(0, .ref 0), (1, sv_I p1), (2, sv_I p2), (3, sv_I p3), (4, sv_I p4), (5, sv_I p5), (6, sv_I (S 45 p1)), (7, sv_I r14), (8, sv_I (l8_22 + (1 : Int))), (9, sv_I x57), (10, sv_I s59), (11, sv_I s61), (12, sv_I s63)] [] (sv_sts (sv_sts (sv_up (sv_sts S [1076, 41, 42, 43, 44, 45, 46, 47, 1075, 1100029] g10) 43 r14 (g10 43 p1)) [1084, 1085, 48, 1086, 51, 52, 46, 47, 49, 50, 1075, 1100020, 1100021, 1100022] g21) [1084, 1085, 48, 1086, 51, 52, 46, 47, 49, 50, 1075, 1100020, 1100021, 1100022] g75)
                    refine sv_goto hM dX12_enter_202 (pc' := 50) rfl ?_
                    obtain ⟨o82, h⟩ := h
                    have eS := sv_mod.eq md80
                    have hb := ih23 ((l8_22 + (1 : Int)), (sv_sts (sv_sts (sv_up (sv_sts S [1076, 41, 42, 43, 44, 45, 46, 47, 1075, 1100029] g10) 43 r14 (g10 43 p1)) [1084, 1085, 48, 1086, 51, 52, 46, 47, 49, 50, 1075, 1100020, 1100021, 1100022] g21) [1084, 1085, 48, 1086, 51, 52, 46, 47, 49, 50, 1075, 1100020, 1100021, 1100022] g75)) ⟨o82, (by rw [← eS]; exact ok76), h.1⟩ h.2
                    have hb : sv_T sm_XS sm_cs sm_L sm_sh 2 (q_enter p1 p2 p3 p4 p5 S) 183 50 [(0, .ref 0), (1, sv_I p1), (2, sv_I p2), (3, sv_I p3), (4, sv_I p4), (5, sv_I p5), (6, sv_I (S 45 p1)), (7, sv_I r14), (8, sv_I (l8_22 + (1 : Int)))] [] (sv_sts (sv_sts (sv_up (sv_sts S [1076, 41, 42, 43, 44, 45, 46, 47, 1075, 1100029] g10) 43 r14 (g10 43 p1)) [1084, 1085, 48, 1086, 51, 52, 46, 47, 49, 50, 1075, 1100020, 1100021, 1100022] g21) [1084, 1085, 48, 1086, 51, 52, 46, 47, 49, 50, 1075, 1100020, 1100021, 1100022] g75) := Eq.mpr (congrArg (fun Z => sv_T sm_XS sm_cs sm_L sm_sh 2 (q_enter p1 p2 p3 p4 p5 S) 183 50 [(0, .ref 0), (1, sv_I p1), (2, sv_I p2), (3, sv_I p3), (4, sv_I p4), (5, sv_I p5), (6, sv_I (S 45 p1)), (7, sv_I r14), (8, sv_I (l8_22 + (1 : Int)))] [] Z) eS) hb
                    exact sv_less (lv := [(0, .ref 0), (1, sv_I p1), (2, sv_I p2), (3, sv_I p3), (4, sv_I p4), (5, sv_I p5), (6, sv_I (S 45 p1)), (7, sv_I r14), (8, sv_I (l8_22 + (1 : Int)))]) (sv_Sub_cons rfl (sv_Sub_cons rfl (sv_Sub_cons rfl (sv_Sub_cons rfl (sv_Sub_cons rfl (sv_Sub_cons rfl (sv_Sub_cons rfl (sv_Sub_cons rfl (sv_Sub_cons rfl sv_Sub_nil))))))))) hb
                  · have h := h.2 (hc)
                    exact sv_vret hM dX12_enter_198 rfl ⟨rfl, ok76, md79, h⟩
              · have h := h.2 (hc)
                refine sv_aload_n hM dX12_enter_169 rfl rfl ?_
                refine sv_iload hM dX12_enter_170 rfl rfl ?_
                obtain ⟨o83, h⟩ := h
                refine sv_callV hM dX12_enter_172 sm_iv_1017 (by decide) (sm_a0 _) rfl rfl (Nat.le_of_ble_eq_true rfl) sm_h179 (Nat.le_of_ble_eq_true rfl) (Nat.le_of_ble_eq_true rfl) (F' := 0) (Nat.le_of_ble_eq_true rfl) rfl (t_argument l8_22 (sv_sts (sv_up (sv_sts S [1076, 41, 42, 43, 44, 45, 46, 47, 1075, 1100029] g10) 43 r14 (g10 43 p1)) [1084, 1085, 48, 1086, 51, 52, 46, 47, 49, 50, 1075, 1100020, 1100021, 1100022] g21) ok25 hl8_22 o83) (fun v S1 hq => ?_)
                obtain ⟨r88, rfl, hr88, ok85, md86, hpo87⟩ := hq
                obtain rfl : (sv_sts (sv_up (sv_sts S [1076, 41, 42, 43, 44, 45, 46, 47, 1075, 1100029] g10) 43 r14 (g10 43 p1)) [1084, 1085, 48, 1086, 51, 52, 46, 47, 49, 50, 1075, 1100020, 1100021, 1100022] g21) = S1 := (funext fun j => md86 j (by intro q; cases q)).symm
                show sv_T sm_XS sm_cs sm_L sm_sh 2 (q_enter p1 p2 p3 p4 p5 S) 183 175 [(0, .ref 0), (1, sv_I p1), (2, sv_I p2), (3, sv_I p3), (4, sv_I p4), (5, sv_I p5), (6, sv_I (S 45 p1)), (7, sv_I r14), (8, sv_I l8_22), (9, sv_I x57), (10, sv_I s59), (11, sv_I s61), (12, sv_I s63)] [sv_I r88, sv_I s63, sv_I x57, sv_I r14, .ref 0] (sv_sts (sv_up (sv_sts S [1076, 41, 42, 43, 44, 45, 46, 47, 1075, 1100029] g10) 43 r14 (g10 43 p1)) [1084, 1085, 48, 1086, 51, 52, 46, 47, 49, 50, 1075, 1100020, 1100021, 1100022] g21)
                have h := h r88 hr88 hpo87
                have k89 : (sm_SK (S 63) (S 64) (g10 44) (S 1100007) (S 1100025) (g10 1076 0) (S 1007 0) (400 * ((S 1092 0) - 1)) ((S 58 ((S 1092 0) - 1))) ((S 1100034 0)) → sm_LS (S 26) (S 1100007) (S 1100025) (S 1046 0) → (S 1114 0) + (S 1115 0) = 400 * ((S 1092 0) - 1) + (S 58 ((S 1092 0) - 1)) → 0 ≤ l8_22 → (S 1115 0) ≤ p4 - 1 → p4 ≤ (S 58 ((S 1092 0) - 1)) → (S 1100034 0) < (S 1046 0) → (0 ≤ (S 1100034 0) → (S 26 (S 1100034 0)) = 29) → (0 ≤ (S 1100034 0) → (S 1100007 (S 1100034 0)) ≤ (S 58 ((S 1092 0) - 1)) - p4) → (l8_22 < (S 1115 0) → s63 = (S 63 ((S 1114 0) + l8_22))) → (¬ l8_22 < (S 1115 0) → s63 = 0) → (l8_22 < (S 1115 0) → r88 = (S 64 ((S 1114 0) + l8_22))) → (¬ l8_22 < (S 1115 0) → r88 = 0) → sm_VO (g10 44) (g10 1076 0) (S 1007 0) (s63) (r88)) := fun k l e a d g q o w s63 x57 v1 v2 => sm_SK_argv k l e a d g q o w s63 x57 v1 v2
                have h := h k89
                refine sv_goto hM dX12_enter_175 (pc' := 188) rfl ?_
                obtain ⟨o90, h⟩ := h
                refine sv_callV hM dX12_enter_188 sm_iv_870 (by decide) (sm_a0 _) rfl rfl (Nat.le_of_ble_eq_true rfl) sm_h141 (Nat.le_of_ble_eq_true rfl) (Nat.le_of_ble_eq_true rfl) (F' := 1) (Nat.le_of_ble_eq_true rfl) rfl (t_set_ r14 x57 s63 r88 (sv_sts (sv_up (sv_sts S [1076, 41, 42, 43, 44, 45, 46, 47, 1075, 1100029] g10) 43 r14 (g10 43 p1)) [1084, 1085, 48, 1086, 51, 52, 46, 47, 49, 50, 1075, 1100020, 1100021, 1100022] g21) ok85 hr14 e58r hs63 hr88 o90) (fun v S1 hq => ?_)
                obtain ⟨rfl, ok92, md93, hpo94⟩ := hq
                obtain ⟨g91, rfl⟩ : ∃ g, S1 = sv_sts (sv_sts (sv_up (sv_sts S [1076, 41, 42, 43, 44, 45, 46, 47, 1075, 1100029] g10) 43 r14 (g10 43 p1)) [1084, 1085, 48, 1086, 51, 52, 46, 47, 49, 50, 1075, 1100020, 1100021, 1100022] g21) [1084, 1085, 48, 1086, 51, 52, 46, 47, 49, 50, 1075, 1100020, 1100021, 1100022] g := ⟨_, md93.eq⟩
                show sv_T sm_XS sm_cs sm_L sm_sh 2 (q_enter p1 p2 p3 p4 p5 S) 183 191 [(0, .ref 0), (1, sv_I p1), (2, sv_I p2), (3, sv_I p3), (4, sv_I p4), (5, sv_I p5), (6, sv_I (S 45 p1)), (7, sv_I r14), (8, sv_I l8_22), (9, sv_I x57), (10, sv_I s59), (11, sv_I s61), (12, sv_I s63)] [] (sv_sts (sv_sts (sv_up (sv_sts S [1076, 41, 42, 43, 44, 45, 46, 47, 1075, 1100029] g10) 43 r14 (g10 43 p1)) [1084, 1085, 48, 1086, 51, 52, 46, 47, 49, 50, 1075, 1100020, 1100021, 1100022] g21) [1084, 1085, 48, 1086, 51, 52, 46, 47, 49, 50, 1075, 1100020, 1100021, 1100022] g91)
                have md95 : sv_mod [1076, 41, 42, 43, 44, 45, 46, 47, 1075, 1100029, 1084, 1085, 48, 1086, 51, 52, 49, 50, 1100020, 1100021, 1100022, 58, 63, 64, 57, 1092, 53, 54, 55, 56, 59, 60] S (sv_sts (sv_sts (sv_up (sv_sts S [1076, 41, 42, 43, 44, 45, 46, 47, 1075, 1100029] g10) 43 r14 (g10 43 p1)) [1084, 1085, 48, 1086, 51, 52, 46, 47, 49, 50, 1075, 1100020, 1100021, 1100022] g21) [1084, 1085, 48, 1086, 51, 52, 46, 47, 49, 50, 1075, 1100020, 1100021, 1100022] g91) := sv_mod.sts md26 (by decide)
                have md96 : sv_mod [1084, 1085, 48, 1086, 51, 52, 46, 47, 49, 50, 1075, 1100020, 1100021, 1100022] (sv_up (sv_sts S [1076, 41, 42, 43, 44, 45, 46, 47, 1075, 1100029] g10) 43 r14 (g10 43 p1)) (sv_sts (sv_sts (sv_up (sv_sts S [1076, 41, 42, 43, 44, 45, 46, 47, 1075, 1100029] g10) 43 r14 (g10 43 p1)) [1084, 1085, 48, 1086, 51, 52, 46, 47, 49, 50, 1075, 1100020, 1100021, 1100022] g21) [1084, 1085, 48, 1086, 51, 52, 46, 47, 49, 50, 1075, 1100020, 1100021, 1100022] g91) := sv_mod.sts md27 (by decide)
                have h := h g91 hpo94
                refine sv_aload_n hM dX12_enter_191 rfl rfl ?_
                have k97 : (0 ≤ (g91 1075 0) ∧ (g91 1075 0) ≤ 1) := sm_okZ ok92 sm_r1075 0
                have h := h k97
                refine sv_getI hM dX12_enter_192 sm_fl_794 (sm_a0 _) sm_k75 rfl (x := (g91 1075 0)) rfl ?_
                refine sv_cond_eq hM dX12_enter_195 (sv_R01 k97) (t := 199) rfl rfl (fun hc => ?_) (fun hc => ?_)
                · have h := h.1 (hc)
                  refine sv_iinc (d := (1 : Int)) hM dX12_enter_199 rfl (by decide) rfl rfl ?_
                  show sv_T sm_XS sm_cs sm_L sm_sh 2 (q_enter p1 p2 p3 p4 p5 S) 183 202 [(0, .ref 0), (1, sv_I p1), (2, sv_I p2), (3, sv_I p3), (4, sv_I p4), (5, sv_I p5), (6, sv_I (S 45 p1)), (7, sv_I r14), (8, sv_I (l8_22 + (1 : Int))), (9, sv_I x57), (10, sv_I s59), (11, sv_I s61), (12, sv_I s63)] [] (sv_sts (sv_sts (sv_up (sv_sts S [1076, 41, 42, 43, 44, 45, 46, 47, 1075, 1100029] g10) 43 r14 (g10 43 p1)) [1084, 1085, 48, 1086, 51, 52, 46, 47, 49, 50, 1075, 1100020, 1100021, 1100022] g21) [1084, 1085, 48, 1086, 51, 52, 46, 47, 49, 50, 1075, 1100020, 1100021, 1100022] g91)
                  refine sv_goto hM dX12_enter_202 (pc' := 50) rfl ?_
                  obtain ⟨o98, h⟩ := h
                  have eS := sv_mod.eq md96
                  have hb := ih23 ((l8_22 + (1 : Int)), (sv_sts (sv_sts (sv_up (sv_sts S [1076, 41, 42, 43, 44, 45, 46, 47, 1075, 1100029] g10) 43 r14 (g10 43 p1)) [1084, 1085, 48, 1086, 51, 52, 46, 47, 49, 50, 1075, 1100020, 1100021, 1100022] g21) [1084, 1085, 48, 1086, 51, 52, 46, 47, 49, 50, 1075, 1100020, 1100021, 1100022] g91)) ⟨o98, (by rw [← eS]; exact ok92), h.1⟩ h.2
                  have hb : sv_T sm_XS sm_cs sm_L sm_sh 2 (q_enter p1 p2 p3 p4 p5 S) 183 50 [(0, .ref 0), (1, sv_I p1), (2, sv_I p2), (3, sv_I p3), (4, sv_I p4), (5, sv_I p5), (6, sv_I (S 45 p1)), (7, sv_I r14), (8, sv_I (l8_22 + (1 : Int)))] [] (sv_sts (sv_sts (sv_up (sv_sts S [1076, 41, 42, 43, 44, 45, 46, 47, 1075, 1100029] g10) 43 r14 (g10 43 p1)) [1084, 1085, 48, 1086, 51, 52, 46, 47, 49, 50, 1075, 1100020, 1100021, 1100022] g21) [1084, 1085, 48, 1086, 51, 52, 46, 47, 49, 50, 1075, 1100020, 1100021, 1100022] g91) := Eq.mpr (congrArg (fun Z => sv_T sm_XS sm_cs sm_L sm_sh 2 (q_enter p1 p2 p3 p4 p5 S) 183 50 [(0, .ref 0), (1, sv_I p1), (2, sv_I p2), (3, sv_I p3), (4, sv_I p4), (5, sv_I p5), (6, sv_I (S 45 p1)), (7, sv_I r14), (8, sv_I (l8_22 + (1 : Int)))] [] Z) eS) hb
                  exact sv_less (lv := [(0, .ref 0), (1, sv_I p1), (2, sv_I p2), (3, sv_I p3), (4, sv_I p4), (5, sv_I p5), (6, sv_I (S 45 p1)), (7, sv_I r14), (8, sv_I (l8_22 + (1 : Int)))]) (sv_Sub_cons rfl (sv_Sub_cons rfl (sv_Sub_cons rfl (sv_Sub_cons rfl (sv_Sub_cons rfl (sv_Sub_cons rfl (sv_Sub_cons rfl (sv_Sub_cons rfl (sv_Sub_cons rfl sv_Sub_nil))))))))) hb
                · have h := h.2 (hc)
                  exact sv_vret hM dX12_enter_198 rfl ⟨rfl, ok92, md95, h⟩
            have h := h.2
            refine sv_iload hM dX12_enter_130 rfl rfl ?_
            refine sv_cond_eq hM dX12_enter_132 hs59 (t := 144) rfl rfl (fun hc => ?_) (fun hc => ?_)
            · have h := h.1 (hc)
              refine sv_iload hM dX12_enter_144 rfl rfl ?_
              refine sv_cond_eq hM dX12_enter_146 hs61 (t := 154) rfl rfl (fun hc => ?_) (fun hc => ?_)
              · have h := h.1 (hc)
                refine sv_iconst (d := (0 : Int)) hM dX12_enter_154 rfl rfl ?_
                have hb := J99 (0 : Int) (⟨by decide, by decide⟩ : sv_R (0 : Int)) h
                exact sv_less (lv := [(0, .ref 0), (1, sv_I p1), (2, sv_I p2), (3, sv_I p3), (4, sv_I p4), (5, sv_I p5), (6, sv_I (S 45 p1)), (7, sv_I r14), (8, sv_I l8_22), (9, sv_I x57), (10, sv_I s59), (11, sv_I s61)]) (sv_Sub_cons rfl (sv_Sub_cons rfl (sv_Sub_cons rfl (sv_Sub_cons rfl (sv_Sub_cons rfl (sv_Sub_cons rfl (sv_Sub_cons rfl (sv_Sub_cons rfl (sv_Sub_cons rfl (sv_Sub_cons rfl (sv_Sub_cons rfl (sv_Sub_cons rfl sv_Sub_nil)))))))))))) hb
              · have h := h.2 (hc)
                refine sv_bipush (d := (7 : Int)) hM dX12_enter_149 rfl rfl ?_
                refine sv_goto hM dX12_enter_151 (pc' := 155) rfl ?_
                have hb := J99 (7 : Int) (⟨by decide, by decide⟩ : sv_R (7 : Int)) h
                exact sv_less (lv := [(0, .ref 0), (1, sv_I p1), (2, sv_I p2), (3, sv_I p3), (4, sv_I p4), (5, sv_I p5), (6, sv_I (S 45 p1)), (7, sv_I r14), (8, sv_I l8_22), (9, sv_I x57), (10, sv_I s59), (11, sv_I s61)]) (sv_Sub_cons rfl (sv_Sub_cons rfl (sv_Sub_cons rfl (sv_Sub_cons rfl (sv_Sub_cons rfl (sv_Sub_cons rfl (sv_Sub_cons rfl (sv_Sub_cons rfl (sv_Sub_cons rfl (sv_Sub_cons rfl (sv_Sub_cons rfl (sv_Sub_cons rfl sv_Sub_nil)))))))))))) hb
            · have h := h.2 (hc)
              refine sv_aload_n hM dX12_enter_135 rfl rfl ?_
              refine sv_iload hM dX12_enter_136 rfl rfl ?_
              obtain ⟨o100, h⟩ := h
              refine sv_callV hM dX12_enter_138 sm_iv_1014 (by decide) (sm_a0 _) rfl rfl (Nat.le_of_ble_eq_true rfl) sm_h178 (Nat.le_of_ble_eq_true rfl) (Nat.le_of_ble_eq_true rfl) (F' := 0) (Nat.le_of_ble_eq_true rfl) rfl (t_argumentSort l8_22 (sv_sts (sv_up (sv_sts S [1076, 41, 42, 43, 44, 45, 46, 47, 1075, 1100029] g10) 43 r14 (g10 43 p1)) [1084, 1085, 48, 1086, 51, 52, 46, 47, 49, 50, 1075, 1100020, 1100021, 1100022] g21) ok25 hl8_22 o100) (fun v S1 hq => ?_)
              obtain ⟨r105, rfl, hr105, ok102, md103, hpo104⟩ := hq
              obtain rfl : (sv_sts (sv_up (sv_sts S [1076, 41, 42, 43, 44, 45, 46, 47, 1075, 1100029] g10) 43 r14 (g10 43 p1)) [1084, 1085, 48, 1086, 51, 52, 46, 47, 49, 50, 1075, 1100020, 1100021, 1100022] g21) = S1 := (funext fun j => md103 j (by intro q; cases q)).symm
              show sv_T sm_XS sm_cs sm_L sm_sh 2 (q_enter p1 p2 p3 p4 p5 S) 183 141 [(0, .ref 0), (1, sv_I p1), (2, sv_I p2), (3, sv_I p3), (4, sv_I p4), (5, sv_I p5), (6, sv_I (S 45 p1)), (7, sv_I r14), (8, sv_I l8_22), (9, sv_I x57), (10, sv_I s59), (11, sv_I s61)] [sv_I r105] (sv_sts (sv_up (sv_sts S [1076, 41, 42, 43, 44, 45, 46, 47, 1075, 1100029] g10) 43 r14 (g10 43 p1)) [1084, 1085, 48, 1086, 51, 52, 46, 47, 49, 50, 1075, 1100020, 1100021, 1100022] g21)
              have h := h r105 hr105 hpo104
              refine sv_goto hM dX12_enter_141 (pc' := 155) rfl ?_
              have hb := J99 r105 hr105 h
              exact sv_less (lv := [(0, .ref 0), (1, sv_I p1), (2, sv_I p2), (3, sv_I p3), (4, sv_I p4), (5, sv_I p5), (6, sv_I (S 45 p1)), (7, sv_I r14), (8, sv_I l8_22), (9, sv_I x57), (10, sv_I s59), (11, sv_I s61)]) (sv_Sub_cons rfl (sv_Sub_cons rfl (sv_Sub_cons rfl (sv_Sub_cons rfl (sv_Sub_cons rfl (sv_Sub_cons rfl (sv_Sub_cons rfl (sv_Sub_cons rfl (sv_Sub_cons rfl (sv_Sub_cons rfl (sv_Sub_cons rfl (sv_Sub_cons rfl sv_Sub_nil)))))))))))) hb
          have h := h.2
          refine sv_iload hM dX12_enter_96 rfl rfl ?_
          refine sv_cond_ne hM dX12_enter_98 hs59 (t := 127) rfl rfl (fun hc => ?_) (fun hc => ?_)
          · have h := h.1 (hc)
            refine sv_iconst (d := (0 : Int)) hM dX12_enter_127 rfl rfl ?_
            have hb := J106 (0 : Int) (⟨by decide, by decide⟩ : sv_R (0 : Int)) h
            exact sv_less (lv := [(0, .ref 0), (1, sv_I p1), (2, sv_I p2), (3, sv_I p3), (4, sv_I p4), (5, sv_I p5), (6, sv_I (S 45 p1)), (7, sv_I r14), (8, sv_I l8_22), (9, sv_I x57), (10, sv_I s59)]) (sv_Sub_cons rfl (sv_Sub_cons rfl (sv_Sub_cons rfl (sv_Sub_cons rfl (sv_Sub_cons rfl (sv_Sub_cons rfl (sv_Sub_cons rfl (sv_Sub_cons rfl (sv_Sub_cons rfl (sv_Sub_cons rfl (sv_Sub_cons rfl sv_Sub_nil))))))))))) hb
          · have h := h.2 (hc)
            refine sv_aload_n hM dX12_enter_101 rfl rfl ?_
            refine sv_getA hM dX12_enter_102 sm_fl_65 (sm_a0 _) sm_k34 rfl ?_
            refine sv_iload hM dX12_enter_105 rfl rfl ?_
            have k107 : (0 ≤ (S 18 (S 45 p1)) ∧ (S 18 (S 45 p1)) ≤ 1) := sm_okZ ok25 sm_r18 (S 45 p1)
            have h := h k107
            refine sv_zald hM dX12_enter_107 (sm_a18 _) (by decide) o28.1 o28.2 rfl (x := (S 18 (S 45 p1))) rfl ?_
            refine sv_cond_ne hM dX12_enter_108 (sv_R01 k107) (t := 127) rfl rfl (fun hc => ?_) (fun hc => ?_)
            · have h := h.1 (hc)
              refine sv_iconst (d := (0 : Int)) hM dX12_enter_127 rfl rfl ?_
              have hb := J106 (0 : Int) (⟨by decide, by decide⟩ : sv_R (0 : Int)) h
              exact sv_less (lv := [(0, .ref 0), (1, sv_I p1), (2, sv_I p2), (3, sv_I p3), (4, sv_I p4), (5, sv_I p5), (6, sv_I (S 45 p1)), (7, sv_I r14), (8, sv_I l8_22), (9, sv_I x57), (10, sv_I s59)]) (sv_Sub_cons rfl (sv_Sub_cons rfl (sv_Sub_cons rfl (sv_Sub_cons rfl (sv_Sub_cons rfl (sv_Sub_cons rfl (sv_Sub_cons rfl (sv_Sub_cons rfl (sv_Sub_cons rfl (sv_Sub_cons rfl (sv_Sub_cons rfl sv_Sub_nil))))))))))) hb
            · have h := h.2 (hc)
              refine sv_iload hM dX12_enter_111 rfl rfl ?_
              refine sv_aload_n hM dX12_enter_113 rfl rfl ?_
              refine sv_getA hM dX12_enter_114 sm_fl_62 (sm_a0 _) sm_k33 rfl ?_
              refine sv_iload hM dX12_enter_117 rfl rfl ?_
              have k108 : sv_R (S 17 (S 45 p1)) := sm_okI ok25 sm_r17 (S 45 p1)
              have h := h k108
              refine sv_iald hM dX12_enter_119 (sm_a17 _) (by decide) o28.1 o28.2 rfl (x := (S 17 (S 45 p1))) rfl ?_
              refine sv_icmp_ne hM dX12_enter_120 e58r k108 (t := 127) rfl rfl (fun hc => ?_) (fun hc => ?_)
              · have h := h.1 (hc)
                refine sv_iconst (d := (0 : Int)) hM dX12_enter_127 rfl rfl ?_
                have hb := J106 (0 : Int) (⟨by decide, by decide⟩ : sv_R (0 : Int)) h
                exact sv_less (lv := [(0, .ref 0), (1, sv_I p1), (2, sv_I p2), (3, sv_I p3), (4, sv_I p4), (5, sv_I p5), (6, sv_I (S 45 p1)), (7, sv_I r14), (8, sv_I l8_22), (9, sv_I x57), (10, sv_I s59)]) (sv_Sub_cons rfl (sv_Sub_cons rfl (sv_Sub_cons rfl (sv_Sub_cons rfl (sv_Sub_cons rfl (sv_Sub_cons rfl (sv_Sub_cons rfl (sv_Sub_cons rfl (sv_Sub_cons rfl (sv_Sub_cons rfl (sv_Sub_cons rfl sv_Sub_nil))))))))))) hb
              · have h := h.2 (hc)
                refine sv_iconst (d := (1 : Int)) hM dX12_enter_123 rfl rfl ?_
                refine sv_goto hM dX12_enter_124 (pc' := 128) rfl ?_
                have hb := J106 (1 : Int) (⟨by decide, by decide⟩ : sv_R (1 : Int)) h
                exact sv_less (lv := [(0, .ref 0), (1, sv_I p1), (2, sv_I p2), (3, sv_I p3), (4, sv_I p4), (5, sv_I p5), (6, sv_I (S 45 p1)), (7, sv_I r14), (8, sv_I l8_22), (9, sv_I x57), (10, sv_I s59)]) (sv_Sub_cons rfl (sv_Sub_cons rfl (sv_Sub_cons rfl (sv_Sub_cons rfl (sv_Sub_cons rfl (sv_Sub_cons rfl (sv_Sub_cons rfl (sv_Sub_cons rfl (sv_Sub_cons rfl (sv_Sub_cons rfl (sv_Sub_cons rfl sv_Sub_nil))))))))))) hb
        have h := h.2
        refine sv_iload hM dX12_enter_77 rfl rfl ?_
        refine sv_aload_n hM dX12_enter_79 rfl rfl ?_
        refine sv_getA hM dX12_enter_80 sm_fl_71 (sm_a0 _) sm_k36 rfl ?_
        refine sv_iload hM dX12_enter_83 rfl rfl ?_
        have k110 : sv_R (S 20 (S 45 p1)) := sm_okI ok25 sm_r20 (S 45 p1)
        have h := h k110
        refine sv_iald hM dX12_enter_85 (sm_a20 _) (by decide) o28.1 o28.2 rfl (x := (S 20 (S 45 p1))) rfl ?_
        refine sv_icmp_ge hM dX12_enter_86 hl8_22 k110 (t := 93) rfl rfl (fun hc => ?_) (fun hc => ?_)
        · have h := h.1 (hc)
          refine sv_iconst (d := (0 : Int)) hM dX12_enter_93 rfl rfl ?_
          have hb := J109 (0 : Int) (⟨by decide, by decide⟩ : sv_R (0 : Int)) h
          exact sv_less (lv := [(0, .ref 0), (1, sv_I p1), (2, sv_I p2), (3, sv_I p3), (4, sv_I p4), (5, sv_I p5), (6, sv_I (S 45 p1)), (7, sv_I r14), (8, sv_I l8_22), (9, sv_I x57)]) (sv_Sub_cons rfl (sv_Sub_cons rfl (sv_Sub_cons rfl (sv_Sub_cons rfl (sv_Sub_cons rfl (sv_Sub_cons rfl (sv_Sub_cons rfl (sv_Sub_cons rfl (sv_Sub_cons rfl (sv_Sub_cons rfl sv_Sub_nil)))))))))) hb
        · have h := h.2 (hc)
          refine sv_iconst (d := (1 : Int)) hM dX12_enter_89 rfl rfl ?_
          refine sv_goto hM dX12_enter_90 (pc' := 94) rfl ?_
          have hb := J109 (1 : Int) (⟨by decide, by decide⟩ : sv_R (1 : Int)) h
          exact sv_less (lv := [(0, .ref 0), (1, sv_I p1), (2, sv_I p2), (3, sv_I p3), (4, sv_I p4), (5, sv_I p5), (6, sv_I (S 45 p1)), (7, sv_I r14), (8, sv_I l8_22), (9, sv_I x57)]) (sv_Sub_cons rfl (sv_Sub_cons rfl (sv_Sub_cons rfl (sv_Sub_cons rfl (sv_Sub_cons rfl (sv_Sub_cons rfl (sv_Sub_cons rfl (sv_Sub_cons rfl (sv_Sub_cons rfl (sv_Sub_cons rfl sv_Sub_nil)))))))))) hb
    have eS := sv_mod.eq (sv_mod.rf (l := [1084, 1085, 48, 1086, 51, 52, 46, 47, 49, 50, 1075, 1100020, 1100021, 1100022]) (S := (sv_up (sv_sts S [1076, 41, 42, 43, 44, 45, 46, 47, 1075, 1100029] g10) 43 r14 (g10 43 p1))))
    have hb := hJ ((0 : Int), (sv_up (sv_sts S [1076, 41, 42, 43, 44, 45, 46, 47, 1075, 1100029] g10) 43 r14 (g10 43 p1))) ⟨(⟨by decide, by decide⟩ : sv_R (0 : Int)), (by rw [← eS]; exact ok19), hin24⟩
    have hb : sv_T sm_XS sm_cs sm_L sm_sh 2 (q_enter p1 p2 p3 p4 p5 S) 183 50 [(0, .ref 0), (1, sv_I p1), (2, sv_I p2), (3, sv_I p3), (4, sv_I p4), (5, sv_I p5), (6, sv_I (S 45 p1)), (7, sv_I r14), (8, sv_I (0 : Int))] [] (sv_up (sv_sts S [1076, 41, 42, 43, 44, 45, 46, 47, 1075, 1100029] g10) 43 r14 (g10 43 p1)) := Eq.mpr (congrArg (fun Z => sv_T sm_XS sm_cs sm_L sm_sh 2 (q_enter p1 p2 p3 p4 p5 S) 183 50 [(0, .ref 0), (1, sv_I p1), (2, sv_I p2), (3, sv_I p3), (4, sv_I p4), (5, sv_I p5), (6, sv_I (S 45 p1)), (7, sv_I r14), (8, sv_I (0 : Int))] [] Z) eS) hb
    exact hb
  · have h := h.2 (hc)
    exact sv_vret hM dX12_enter_33 rfl ⟨rfl, ok11, md15, h⟩
