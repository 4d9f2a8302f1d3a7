theorem dX12_solve_0 : decode cX12_solve 0 = .ok (.aload_n 0, 1) := by decide +kernel
theorem dX12_solve_1 : decode cX12_solve 1 = .ok (.aload_n 0, 1) := by decide +kernel
theorem dX12_solve_2 : decode cX12_solve 2 = .ok (.getfield 770, 3) := by decide +kernel
theorem dX12_solve_5 : decode cX12_solve 5 = .ok (.ifCond .eq 7, 3) := by decide +kernel
theorem dX12_solve_8 : decode cX12_solve 8 = .ok (.iconst 0, 1) := by decide +kernel
theorem dX12_solve_9 : decode cX12_solve 9 = .ok (.goto 4, 3) := by decide +kernel
theorem dX12_solve_12 : decode cX12_solve 12 = .ok (.iconst 1, 1) := by decide +kernel
theorem dX12_solve_13 : decode cX12_solve 13 = .ok (.putfield 289, 3) := by decide +kernel
theorem dX12_solve_16 : decode cX12_solve 16 = .ok (.aload_n 0, 1) := by decide +kernel
theorem dX12_solve_17 : decode cX12_solve 17 = .ok (.getfield 289, 3) := by decide +kernel
theorem dX12_solve_20 : decode cX12_solve 20 = .ok (.ifCond .le 5, 3) := by decide +kernel
theorem dX12_solve_23 : decode cX12_solve 23 = .ok (.iconst 0, 1) := by decide +kernel
theorem dX12_solve_24 : decode cX12_solve 24 = .ok (.ireturn, 1) := by decide +kernel
theorem dX12_solve_25 : decode cX12_solve 25 = .ok (.aload_n 0, 1) := by decide +kernel
theorem dX12_solve_26 : decode cX12_solve 26 = .ok (.getfield 776, 3) := by decide +kernel
theorem dX12_solve_29 : decode cX12_solve 29 = .ok (.ifCond .eq 8, 3) := by decide +kernel
theorem dX12_solve_32 : decode cX12_solve 32 = .ok (.aload_n 0, 1) := by decide +kernel
theorem dX12_solve_33 : decode cX12_solve 33 = .ok (.getfield 1034, 3) := by decide +kernel
theorem dX12_solve_36 : decode cX12_solve 36 = .ok (.ireturn, 1) := by decide +kernel
theorem dX12_solve_37 : decode cX12_solve 37 = .ok (.aload_n 0, 1) := by decide +kernel
theorem dX12_solve_38 : decode cX12_solve 38 = .ok (.invokevirtual 1373, 3) := by decide +kernel
theorem dX12_solve_41 : decode cX12_solve 41 = .ok (.aload_n 0, 1) := by decide +kernel
theorem dX12_solve_42 : decode cX12_solve 42 = .ok (.aload_n 0, 1) := by decide +kernel
theorem dX12_solve_43 : decode cX12_solve 43 = .ok (.getfield 606, 3) := by decide +kernel
theorem dX12_solve_46 : decode cX12_solve 46 = .ok (.iconst 2, 1) := by decide +kernel
theorem dX12_solve_47 : decode cX12_solve 47 = .ok (.aload_n 0, 1) := by decide +kernel
theorem dX12_solve_48 : decode cX12_solve 48 = .ok (.getfield 527, 3) := by decide +kernel
theorem dX12_solve_51 : decode cX12_solve 51 = .ok (.imul, 1) := by decide +kernel
theorem dX12_solve_52 : decode cX12_solve 52 = .ok (.iadd, 1) := by decide +kernel
theorem dX12_solve_53 : decode cX12_solve 53 = .ok (.putfield 1376, 3) := by decide +kernel
theorem dX12_solve_56 : decode cX12_solve 56 = .ok (.iconst 0, 1) := by decide +kernel
theorem dX12_solve_57 : decode cX12_solve 57 = .ok (.istore_n 1, 1) := by decide +kernel
theorem dX12_solve_58 : decode cX12_solve 58 = .ok (.iload_n 1, 1) := by decide +kernel
theorem dX12_solve_59 : decode cX12_solve 59 = .ok (.aload_n 0, 1) := by decide +kernel
theorem dX12_solve_60 : decode cX12_solve 60 = .ok (.getfield 1376, 3) := by decide +kernel
theorem dX12_solve_63 : decode cX12_solve 63 = .ok (.if_icmp .ge 23, 3) := by decide +kernel
theorem dX12_solve_66 : decode cX12_solve 66 = .ok (.aload_n 0, 1) := by decide +kernel
theorem dX12_solve_67 : decode cX12_solve 67 = .ok (.getfield 226, 3) := by decide +kernel
theorem dX12_solve_70 : decode cX12_solve 70 = .ok (.iload_n 1, 1) := by decide +kernel
theorem dX12_solve_71 : decode cX12_solve 71 = .ok (.iconst 0, 1) := by decide +kernel
theorem dX12_solve_72 : decode cX12_solve 72 = .ok (.bastore, 1) := by decide +kernel
theorem dX12_solve_73 : decode cX12_solve 73 = .ok (.aload_n 0, 1) := by decide +kernel
theorem dX12_solve_74 : decode cX12_solve 74 = .ok (.getfield 229, 3) := by decide +kernel
theorem dX12_solve_77 : decode cX12_solve 77 = .ok (.iload_n 1, 1) := by decide +kernel
theorem dX12_solve_78 : decode cX12_solve 78 = .ok (.iconst 0, 1) := by decide +kernel
theorem dX12_solve_79 : decode cX12_solve 79 = .ok (.bastore, 1) := by decide +kernel
theorem dX12_solve_80 : decode cX12_solve 80 = .ok (.iinc 1 1, 3) := by decide +kernel
theorem dX12_solve_83 : decode cX12_solve 83 = .ok (.goto (-25), 3) := by decide +kernel
theorem dX12_solve_86 : decode cX12_solve 86 = .ok (.aload_n 0, 1) := by decide +kernel
theorem dX12_solve_87 : decode cX12_solve 87 = .ok (.ldc_w 1379, 3) := by decide +kernel
theorem dX12_solve_90 : decode cX12_solve 90 = .ok (.putfield 1107, 3) := by decide +kernel
theorem dX12_solve_93 : decode cX12_solve 93 = .ok (.aload_n 0, 1) := by decide +kernel
theorem dX12_solve_94 : decode cX12_solve 94 = .ok (.getfield 238, 3) := by decide +kernel
theorem dX12_solve_97 : decode cX12_solve 97 = .ok (.sipush 639, 3) := by decide +kernel
theorem dX12_solve_100 : decode cX12_solve 100 = .ok (.ldc_w 1380, 3) := by decide +kernel
theorem dX12_solve_103 : decode cX12_solve 103 = .ok (.iastore, 1) := by decide +kernel
theorem dX12_solve_104 : decode cX12_solve 104 = .ok (.aload_n 0, 1) := by decide +kernel
theorem dX12_solve_105 : decode cX12_solve 105 = .ok (.invokevirtual 1381, 3) := by decide +kernel
theorem dX12_solve_108 : decode cX12_solve 108 = .ok (.aload_n 0, 1) := by decide +kernel
theorem dX12_solve_109 : decode cX12_solve 109 = .ok (.iconst 0, 1) := by decide +kernel
theorem dX12_solve_110 : decode cX12_solve 110 = .ok (.invokevirtual 1191, 3) := by decide +kernel
theorem dX12_solve_113 : decode cX12_solve 113 = .ok (.iconst 1, 1) := by decide +kernel
theorem dX12_solve_114 : decode cX12_solve 114 = .ok (.istore_n 1, 1) := by decide +kernel
theorem dX12_solve_115 : decode cX12_solve 115 = .ok (.iload_n 1, 1) := by decide +kernel
theorem dX12_solve_116 : decode cX12_solve 116 = .ok (.ifCond .eq 50, 3) := by decide +kernel
theorem dX12_solve_119 : decode cX12_solve 119 = .ok (.iconst 0, 1) := by decide +kernel
theorem dX12_solve_120 : decode cX12_solve 120 = .ok (.istore_n 1, 1) := by decide +kernel
theorem dX12_solve_121 : decode cX12_solve 121 = .ok (.iconst 0, 1) := by decide +kernel
theorem dX12_solve_122 : decode cX12_solve 122 = .ok (.istore_n 2, 1) := by decide +kernel
theorem dX12_solve_123 : decode cX12_solve 123 = .ok (.iload_n 2, 1) := by decide +kernel
theorem dX12_solve_124 : decode cX12_solve 124 = .ok (.aload_n 0, 1) := by decide +kernel
theorem dX12_solve_125 : decode cX12_solve 125 = .ok (.getfield 606, 3) := by decide +kernel
theorem dX12_solve_128 : decode cX12_solve 128 = .ok (.if_icmp .ge 35, 3) := by decide +kernel
theorem dX12_solve_131 : decode cX12_solve 131 = .ok (.aload_n 0, 1) := by decide +kernel
theorem dX12_solve_132 : decode cX12_solve 132 = .ok (.getfield 229, 3) := by decide +kernel
theorem dX12_solve_135 : decode cX12_solve 135 = .ok (.iload_n 2, 1) := by decide +kernel
theorem dX12_solve_136 : decode cX12_solve 136 = .ok (.baload, 1) := by decide +kernel
theorem dX12_solve_137 : decode cX12_solve 137 = .ok (.ifCond .ne 6, 3) := by decide +kernel
theorem dX12_solve_140 : decode cX12_solve 140 = .ok (.goto 17, 3) := by decide +kernel
theorem dX12_solve_143 : decode cX12_solve 143 = .ok (.aload_n 0, 1) := by decide +kernel
theorem dX12_solve_144 : decode cX12_solve 144 = .ok (.getfield 229, 3) := by decide +kernel
theorem dX12_solve_147 : decode cX12_solve 147 = .ok (.iload_n 2, 1) := by decide +kernel
theorem dX12_solve_148 : decode cX12_solve 148 = .ok (.iconst 0, 1) := by decide +kernel
theorem dX12_solve_149 : decode cX12_solve 149 = .ok (.bastore, 1) := by decide +kernel
theorem dX12_solve_150 : decode cX12_solve 150 = .ok (.iconst 1, 1) := by decide +kernel
theorem dX12_solve_151 : decode cX12_solve 151 = .ok (.istore_n 1, 1) := by decide +kernel
theorem dX12_solve_152 : decode cX12_solve 152 = .ok (.aload_n 0, 1) := by decide +kernel
theorem dX12_solve_153 : decode cX12_solve 153 = .ok (.iload_n 2, 1) := by decide +kernel
theorem dX12_solve_154 : decode cX12_solve 154 = .ok (.invokevirtual 1384, 3) := by decide +kernel
theorem dX12_solve_157 : decode cX12_solve 157 = .ok (.iinc 2 1, 3) := by decide +kernel
theorem dX12_solve_160 : decode cX12_solve 160 = .ok (.goto (-37), 3) := by decide +kernel
theorem dX12_solve_163 : decode cX12_solve 163 = .ok (.goto (-48), 3) := by decide +kernel
theorem dX12_solve_166 : decode cX12_solve 166 = .ok (.aload_n 0, 1) := by decide +kernel
theorem dX12_solve_167 : decode cX12_solve 167 = .ok (.iconst 0, 1) := by decide +kernel
theorem dX12_solve_168 : decode cX12_solve 168 = .ok (.putfield 1034, 3) := by decide +kernel
theorem dX12_solve_171 : decode cX12_solve 171 = .ok (.iconst 0, 1) := by decide +kernel
theorem dX12_solve_172 : decode cX12_solve 172 = .ok (.istore_n 2, 1) := by decide +kernel
theorem dX12_solve_173 : decode cX12_solve 173 = .ok (.iload_n 2, 1) := by decide +kernel
theorem dX12_solve_174 : decode cX12_solve 174 = .ok (.aload_n 0, 1) := by decide +kernel
theorem dX12_solve_175 : decode cX12_solve 175 = .ok (.getfield 606, 3) := by decide +kernel
theorem dX12_solve_178 : decode cX12_solve 178 = .ok (.if_icmp .ge 32, 3) := by decide +kernel
theorem dX12_solve_181 : decode cX12_solve 181 = .ok (.aload_n 0, 1) := by decide +kernel
theorem dX12_solve_182 : decode cX12_solve 182 = .ok (.dup, 1) := by decide +kernel
theorem dX12_solve_183 : decode cX12_solve 183 = .ok (.getfield 1034, 3) := by decide +kernel
theorem dX12_solve_186 : decode cX12_solve 186 = .ok (.aload_n 0, 1) := by decide +kernel
theorem dX12_solve_187 : decode cX12_solve 187 = .ok (.getfield 226, 3) := by decide +kernel
theorem dX12_solve_190 : decode cX12_solve 190 = .ok (.iload_n 2, 1) := by decide +kernel
theorem dX12_solve_191 : decode cX12_solve 191 = .ok (.baload, 1) := by decide +kernel
theorem dX12_solve_192 : decode cX12_solve 192 = .ok (.ifCond .eq 7, 3) := by decide +kernel
theorem dX12_solve_195 : decode cX12_solve 195 = .ok (.iconst 1, 1) := by decide +kernel
theorem dX12_solve_196 : decode cX12_solve 196 = .ok (.goto 4, 3) := by decide +kernel
theorem dX12_solve_199 : decode cX12_solve 199 = .ok (.iconst 0, 1) := by decide +kernel
theorem dX12_solve_200 : decode cX12_solve 200 = .ok (.iadd, 1) := by decide +kernel
theorem dX12_solve_201 : decode cX12_solve 201 = .ok (.putfield 1034, 3) := by decide +kernel
theorem dX12_solve_204 : decode cX12_solve 204 = .ok (.iinc 2 1, 3) := by decide +kernel
theorem dX12_solve_207 : decode cX12_solve 207 = .ok (.goto (-34), 3) := by decide +kernel
theorem dX12_solve_210 : decode cX12_solve 210 = .ok (.aload_n 0, 1) := by decide +kernel
theorem dX12_solve_211 : decode cX12_solve 211 = .ok (.iconst 1, 1) := by decide +kernel
theorem dX12_solve_212 : decode cX12_solve 212 = .ok (.putfield 776, 3) := by decide +kernel
theorem dX12_solve_215 : decode cX12_solve 215 = .ok (.aload_n 0, 1) := by decide +kernel
theorem dX12_solve_216 : decode cX12_solve 216 = .ok (.getfield 1034, 3) := by decide +kernel
theorem dX12_solve_219 : decode cX12_solve 219 = .ok (.ireturn, 1) := by decide +kernel

def q_solve (S : sv_S) : Option Value → sv_S → Prop := fun v S' => ∃ r : Int, v = some (sv_I r) ∧ sv_R r ∧ sm_ok S' ∧ sv_mod [68, 69, 70, 81, 82, 83, 84, 85, 86, 71, 74, 75, 1127, 78, 79, 80, 72, 76, 77, 1143, 1144, 5, 1011, 1150, 1149, 1145, 1113, 1111, 1112, 91, 1147, 1100031, 1148, 73, 88, 89, 87, 90, 1121, 1000, 1119, 1120] S S' ∧ (True ∧ ((S' 1119 0) = 1 → (S 1119 0) = 1 ∨ ((S' 1072 0) = 1 ∧ sm_ST (S' 71) (S' 74) (S' 75) (S' 78) (S' 79) (S' 80) (S' 27) (S' 1100007) (S' 1100023) (S' 1100024) (S' 1046 0) ((S' 1046 0) + 2 * (S' 1032 0)) (S' 1127 0) ∧ 465000 ≤ (S' 1127 0) ∧ (S' 1127 0) + sm_hs (S' 71) (S' 1100007) ≤ 635000 ∧ (S' 75 639) = 647340 ∧ sm_DR (S' 72) (S' 71) (S' 1046 0))))
theorem la_solve_0 {x0 : Int} (h0 : x0 = 0) : ¬ x0 = 1 := by omega
theorem la_solve_1 {x0 : Int} (h0 : (1 : Int) ≤ 0) : 29 ≤ x0 := by omega
theorem la_solve_2 {x0 : Int} (h0 : (1 : Int) ≤ 0) : x0 ≤ 127 := by omega
theorem la_solve_3 {x0 : Int} (h0 : (1 : Int) ≤ 0) : 31 ≤ x0 := by omega
theorem la_solve_4 {x0 : Int} (h0 : (1 : Int) ≤ 0) : x0 ≤ 90 := by omega
theorem la_solve_5 {x0 : Int} (h0 : (1 : Int) ≤ 0) : 1 ≤ x0 := by omega
theorem la_solve_6 {x0 : Int} (h0 : (1 : Int) ≤ 0) : x0 ≤ 11 := by omega
theorem la_solve_7 {x0 : Int} (h0 : (1 : Int) ≤ 0) : 0 ≤ x0 := by omega
theorem la_solve_8 {x0 : Int} (h0 : (1 : Int) ≤ 0) : x0 ≤ 19 := by omega
theorem la_solve_9 {x0 x1 x2 : Int} (h0 : (1 : Int) ≤ 0) : x0 = 29 + 6 * (x1 - 1) + 2 * x2 := by omega
theorem la_solve_10 {x0 x1 : Int} (h0 : (1 : Int) ≤ 0) : x0 + 2 * x1 ≤ 500 := by omega
theorem la_solve_11 (h0 : (1 : Int) ≤ 0) : False := by omega
theorem la_solve_12 {x0 : Int} (h0 : (1 : Int) ≤ 0) : x0 ≤ 11557 := by omega
theorem la_solve_13 {x0 : Int} (h0 : (1 : Int) ≤ 0) : x0 ≤ 400 := by omega
theorem la_solve_14 {x0 x1 : Int} (h0 : (1 : Int) ≤ 0) : sv_R (x0 + 2 * x1) := by omega
theorem la_solve_15 : (0 : Int) ≤ 0 := by omega
theorem la_solve_16 {x0 x1 : Int} (h0 : (1 : Int) ≤ 0) : 0 ≤ x0 + 2 * x1 := by omega
theorem la_solve_17 {x0 : Int} (h0 : (1 : Int) ≤ 0) : x0 = 0 := by omega
theorem la_solve_18 {x0 x1 x2 : Int} (h0 : (1 : Int) ≤ 0) : 0 ≤ x0 + 2 * x1 - x2 := by omega
theorem la_solve_19 : (0 : Int) ≤ 639 ∧ (639 : Int) < 640 := by omega
theorem la_solve_20 (h0 : (1 : Int) ≤ 0) : (639 : Int) < 639 := by omega
theorem la_solve_21 {x0 : Int} (h0 : (1 : Int) ≤ 0) : x0 = 647340 := by omega
theorem la_solve_22 {x0 x1 : Int} (h0 : (1 : Int) ≤ 0) : x0 + 2 * x1 ≤ 639 := by omega
theorem la_solve_23 : (465000 : Int) ≤ 465000 := by omega
theorem la_solve_24 {x0 : Int} (h0 : (1 : Int) ≤ 0) : 465000 + x0 ≤ 635000 := by omega
theorem la_solve_25 {x0 : Int} (h0 : (1 : Int) ≤ 0) : x0 = 1 := by omega
theorem la_solve_26 {x0 : Int} (h0 : (1 : Int) ≤ 0) : x0 ≤ 40 := by omega
theorem la_solve_27 {x0 x1 : Int} (h0 : (1 : Int) ≤ 0) : x0 = x1 := by omega
theorem la_solve_28 : ((-1) : Int) ≤ (-1) := by omega
theorem la_solve_29 {x0 : Int} (h0 : (1 : Int) ≤ 0) : (-1) < x0 := by omega
theorem la_solve_30 {x0 : Int} : (0 : Int) ≤ (-1) → x0 = 27 := by omega
theorem la_solve_31 : ((-1) : Int) < 0 := by omega
theorem la_solve_32 {x0 x1 : Int} (h0 : (1 : Int) ≤ 0) : 0 < x0 + 2 * x1 := by omega
theorem la_solve_33 {x0 : Int} (h0 : (1 : Int) ≤ 0) : x0 = (-1) := by omega
theorem la_solve_34 : (1 : Int) = 0 ∨ (1 : Int) = 1 := by omega
theorem la_solve_35 {x0 x1 x2 : Int} (h0 : (1 : Int) ≤ 0) : 0 ≤ x0 ∧ 0 ≤ x1 ∧ 0 ≤ x2 := by omega
theorem la_solve_36 {x0 : Int} (h0 : (1 : Int) ≤ 0) : ¬ x0 = 0 := by omega
theorem la_solve_37 {x0 x1 x2 x3 x4 x5 : Int} (h0 : (1 : Int) ≤ 0) : 0 ≤ 641 * (x0 + x1 + x2 + x3) + x4 + x5 := by omega
theorem la_solve_38 {x0 : Int} (h0 : (1 : Int) ≤ 0) : (0 : Int) ≤ 0 ∧ 0 ≤ x0 ∧ (0 : Int) ≤ 0 ∧ (0 : Int) ≤ 0 := by omega
theorem la_solve_39 {x0 x1 : Int} (h0 : (1 : Int) ≤ 0) : 0 ≤ x0 - x1 := by omega
theorem la_solve_40 {x0 : Int} (h0 : (1 : Int) ≤ 0) : 0 ≤ x0 ∧ x0 < 640 := by omega
theorem la_solve_41 {x0 x1 x2 x3 : Int} (h0 : (1 : Int) ≤ 0) : x0 = 0 → sv_R (x1 + 0) ∧ sv_R (x2 + 1) ∧ (0 ≤ x2 + 1 ∧ x2 + 1 ≤ x3 ∧ 0 ≤ x1 + 0 ∧ x1 + 0 ≤ x2 + 1) ∧ x3 - (x2 + 1) < x3 - x2 := by omega
theorem la_solve_42 {x0 : Int} (h0 : (1 : Int) ≤ 0) : x0 ≤ 0 := by omega
theorem la_solve_43 {x0 : Int} (h0 : x0 ≤ 0) (h1 : ¬ x0 = 0) : x0 < 0 := by omega
theorem la_solve_44 {x0 : Int} (h0 : (1 : Int) ≤ 0) : sv_R (x0 + 1) := by omega
theorem la_solve_45 {x0 x1 x2 : Int} (h0 : (1 : Int) ≤ 0) : 0 ≤ x0 + 1 ∧ x0 + 1 ≤ x1 ∧ 0 ≤ x2 + 1 ∧ x2 + 1 ≤ x0 + 1 := by omega
theorem la_solve_46 {x0 x1 : Int} : x0 - (x1 + 1) < x0 - x1 := by omega
theorem la_solve_47 : (0 : Int) = 0 ∨ (0 : Int) = 1 := by omega
theorem la_solve_48 {x0 x1 x2 x3 x4 : Int} (h0 : (1 : Int) ≤ 0) : 0 ≤ x0 ∧ 0 ≤ x1 ∧ 0 ≤ x2 ∧ 641 * (x1 + x3 + x0 + x4) + x2 + 0 ≤ 641 * (x1 + x3 + x0 + x4) + x2 := by omega
theorem la_solve_49 {x0 x1 x2 x3 x4 x5 x6 x7 x8 x9 x10 x11 : Int} (h0 : (1 : Int) ≤ 0) : 641 * (x0 + x1 + x2 + x3) + x4 + x5 < 641 * (x6 + x7 + x8 + x9) + x10 + x11 := by omega
theorem la_solve_50 {x0 x1 : Int} (h0 : (1 : Int) ≤ 0) : x0 < x1 := by omega
theorem la_solve_51 {x0 : Int} (h0 : (1 : Int) ≤ 0) : x0 ≤ 100 := by omega
theorem la_solve_52 {x0 : Int} (h0 : (1 : Int) ≤ 0) : x0 ≤ 8 := by omega
theorem la_solve_53 {x0 : Int} (h0 : (1 : Int) ≤ 0) : 0 ≤ x0 + 1 := by omega
theorem la_solve_54 {x0 x1 : Int} (h0 : (1 : Int) ≤ 0) : x0 + 1 ≤ x1 := by omega
theorem la_solve_55 {x0 x1 x2 x3 x4 x5 x6 x7 x8 x9 : Int} (h0 : (1 : Int) ≤ 0) : 0 ≤ x0 ∧ 0 ≤ x1 ∧ 0 ≤ x2 ∧ 641 * (x1 + x3 + x0 + x4) + x2 + 1 ≤ 641 * (x5 + x6 + x7 + x8) + x9 := by omega
theorem la_solve_56 {x0 x1 x2 x3 x4 x5 x6 x7 x8 x9 x10 : Int} (h0 : (1 : Int) ≤ 0) : 0 ≤ x0 ∧ 0 ≤ x1 ∧ 0 ≤ x2 ∧ 641 * (x1 + x3 + x0 + x4) + x2 + x5 ≤ 641 * (x6 + x7 + x8 + x9) + x10 := by omega
theorem la_solve_57 {x0 x1 x2 : Int} (h0 : (1 : Int) ≤ 0) : x0 + 1 ≤ x1 + 2 * x2 := by omega
theorem la_solve_58 {x0 x1 x2 : Int} : x0 + 2 * x1 - (x2 + 1) < x0 + 2 * x1 - x2 := by omega
theorem la_solve_59 {x0 : Int} (h0 : 0 ≤ x0) (h1 : ¬ x0 = 0) : 0 < x0 := by omega
theorem la_solve_60 {x0 : Int} (h0 : x0 ≤ 1) (h1 : 0 < x0) : x0 = 1 := by omega
theorem la_solve_61 {x0 x1 : Int} (h0 : 1 ≤ x0) (h1 : 0 ≤ x1) (h2 : x1 + 2 * x0 ≤ 500) : sv_R (x1 + 2 * x0) := by omega
theorem la_solve_62 {x0 x1 : Int} (h0 : 1 ≤ x0) (h1 : 0 ≤ x1) : 0 ≤ x1 + 2 * x0 := by omega
theorem la_solve_63 {x0 : Int} (h0 : 1 ≤ x0) : 0 < x0 := by omega
theorem la_solve_64 {x0 x1 : Int} (h0 : x0 < x1) : ¬ x1 ≤ x0 := by omega
theorem la_solve_65 {x0 : Int} (h0 : 0 ≤ x0) (h1 : x0 < 0) : False := by omega
theorem la_solve_66 {x0 x1 x2 : Int} (h0 : x0 ≤ x1 + 2 * x2) : 0 ≤ x1 + 2 * x2 - x0 := by omega
theorem la_solve_67 {x0 x1 x2 x3 : Int} (h0 : x0 + 2 * x1 ≤ x2) (h1 : x3 < x0 + 2 * x1) : x3 < x2 := by omega
theorem la_solve_68 {x0 x1 x2 x3 : Int} (h0 : 1 ≤ x0) (h1 : x1 + 2 * x0 ≤ x2) (h2 : x3 < x1) : x3 < x2 := by omega
theorem la_solve_69 : (639 : Int) = 639 := by omega
theorem la_solve_70 {x0 x1 : Int} (h0 : x0 + 2 * x1 ≤ 500) : x0 + 2 * x1 ≤ 639 := by omega
theorem la_solve_71 {x0 x1 : Int} (h0 : x0 ≤ 170000) (h1 : x1 ≤ x0) : 465000 + x1 ≤ 635000 := by omega
theorem la_solve_72 {x0 : Int} (h0 : x0 = 0) : 0 ≤ x0 := by omega
theorem la_solve_73 {x0 : Int} (h0 : x0 = 0) : x0 ≤ 400 := by omega
theorem la_solve_74 {x0 : Int} (h0 : x0 = 0) : x0 ≤ 40 := by omega
theorem la_solve_75 {x0 x1 : Int} (h0 : x0 = 0) (h1 : x1 = 0) : x0 = x1 := by omega
theorem la_solve_76 {x0 : Int} (h0 : 0 ≤ x0) : (-1) < x0 := by omega
theorem la_solve_77 {x0 x1 : Int} (h0 : 1 ≤ x0) (h1 : 0 ≤ x1) : 0 < x1 + 2 * x0 := by omega
theorem la_solve_78 {x0 x1 : Int} (h0 : x0 = 0) (h1 : x0 < x1) : ¬ x1 ≤ 0 := by omega
theorem la_solve_79 {x0 : Int} (h0 : x0 = 0) : 0 = x0 := by omega
theorem la_solve_80 {x0 x1 x2 : Int} (h0 : x0 = 0) (h1 : x1 = 0) (h2 : x2 = x1) : x0 = x2 := by omega
theorem la_solve_81 {x0 : Int} (h0 : x0 = 0) (h1 : 0 ≤ x0) : 0 = x0 := by omega
theorem la_solve_82 {x0 x1 : Int} (h0 : x0 = (-1)) (h1 : x1 = x0) : x1 = (-1) := by omega
theorem la_solve_83 {x0 x1 x2 : Int} (h0 : 0 ≤ x0) (h1 : 0 ≤ x1) (h2 : 0 ≤ x2) : 0 ≤ x0 ∧ 0 ≤ x1 ∧ 0 ≤ x2 := by omega
theorem la_solve_84 {x0 x1 x2 x3 : Int} (h0 : 1 ≤ x0) (h1 : x1 = 0) (h2 : x2 + 2 * x0 ≤ x3) (h3 : x1 < x2) : 0 < x3 := by omega
theorem la_solve_85 {x0 x1 x2 x3 x4 x5 : Int} (h0 : x0 = 0 ∨ x0 = 1) (h1 : 0 ≤ x1) (h2 : 0 ≤ x2) (h3 : 0 ≤ x3) (h4 : 0 ≤ x4) (h5 : 0 ≤ x5) : 0 ≤ 641 * (x2 + x5 + x1 + x4) + x3 + x0 := by omega
theorem la_solve_86 {x0 : Int} (h0 : 0 ≤ x0) : (0 : Int) ≤ 0 ∧ 0 ≤ x0 ∧ (0 : Int) ≤ 0 ∧ (0 : Int) ≤ 0 := by omega
theorem la_solve_87 {x0 x1 : Int} (h0 : x0 ≤ x1) : 0 ≤ x1 - x0 := by omega
theorem la_solve_88 {x0 x1 x2 : Int} (h0 : 1 ≤ x0) (h1 : x1 + 2 * x0 ≤ 500) (h2 : 0 ≤ x2) (h3 : ¬ x1 ≤ x2) : 0 ≤ x2 ∧ x2 < 640 := by omega
theorem la_solve_89 {x0 x1 x2 x3 x4 : Int} (h0 : 1 ≤ x0) (h1 : x1 + 2 * x0 ≤ 500) (h2 : sv_R x1) (h3 : 0 ≤ x2) (h4 : 0 ≤ x3) (h5 : x3 ≤ x2) (h6 : ¬ x1 ≤ x2) : x4 = 0 → sv_R (x3 + 0) ∧ sv_R (x2 + 1) ∧ (0 ≤ x2 + 1 ∧ x2 + 1 ≤ x1 ∧ 0 ≤ x3 + 0 ∧ x3 + 0 ≤ x2 + 1) ∧ x1 - (x2 + 1) < x1 - x2 := by omega
theorem la_solve_90 {x0 x1 x2 : Int} (h0 : sv_R x0) (h1 : 0 ≤ x1) (h2 : x1 ≤ x2) (h3 : ¬ x0 ≤ x2) : sv_R (x1 + 1) := by omega
theorem la_solve_91 {x0 x1 x2 : Int} (h0 : 1 ≤ x0) (h1 : x1 + 2 * x0 ≤ 500) (h2 : 0 ≤ x2) (h3 : ¬ x1 ≤ x2) : sv_R (x2 + 1) := by omega
theorem la_solve_92 {x0 x1 x2 : Int} (h0 : 0 ≤ x0) (h1 : 0 ≤ x1) (h2 : x1 ≤ x0) (h3 : ¬ x2 ≤ x0) : 0 ≤ x0 + 1 ∧ x0 + 1 ≤ x2 ∧ 0 ≤ x1 + 1 ∧ x1 + 1 ≤ x0 + 1 := by omega
theorem la_solve_93 {x0 : Int} (h0 : x0 = 1) : 0 ≤ x0 := by omega
theorem la_solve_94 {x0 x1 x2 x3 x4 : Int} (h0 : 0 ≤ x0) (h1 : 0 ≤ x1) (h2 : 0 ≤ x2) : 0 ≤ x0 ∧ 0 ≤ x1 ∧ 0 ≤ x2 ∧ 641 * (x1 + x3 + x0 + x4) + x2 + 0 ≤ 641 * (x1 + x3 + x0 + x4) + x2 := by omega
theorem la_solve_95 {x0 x1 x2 x3 x4 x5 x6 x7 x8 x9 x10 x11 : Int} (h0 : x0 = 1) (h1 : 641 * (x1 + x2 + x3 + x4) + x5 + x6 ≤ 641 * (x7 + x8 + x9 + x10) + x11) : 641 * (x1 + x2 + x3 + x4) + x5 + x6 < 641 * (x7 + x8 + x9 + x10) + x11 + x0 := by omega
theorem la_solve_96 {x0 x1 : Int} (h0 : ¬ x0 ≤ x1) : x1 < x0 := by omega
theorem la_solve_97 {x0 x1 x2 : Int} (h0 : 0 ≤ x0) (h1 : ¬ x1 ≤ x0) (h2 : x2 = 1) : 0 ≤ x0 ∧ x0 < x1 ∧ x2 = 1 := by omega
theorem la_solve_98 {x0 : Int} (h0 : 0 ≤ x0) : 0 ≤ x0 + 1 := by omega
theorem la_solve_99 {x0 x1 : Int} (h0 : ¬ x0 ≤ x1) : x1 + 1 ≤ x0 := by omega
theorem la_solve_100 {x0 x1 x2 : Int} (h0 : 1 ≤ x0) (h1 : x1 + 2 * x0 ≤ 500) (h2 : ¬ x1 ≤ x2) : x2 < 640 := by omega
theorem la_solve_101 {x0 x1 x2 x3 : Int} (h0 : 1 ≤ x0) (h1 : x1 + 2 * x0 ≤ x2) (h2 : 0 ≤ x3) (h3 : ¬ x1 ≤ x3) : 0 < x2 := by omega
theorem la_solve_102 {x0 x1 x2 x3 x4 x5 x6 x7 x8 x9 x10 x11 x12 x13 x14 x15 x16 x17 : Int} (h0 : x0 = 0 ∨ x0 = 1) (h1 : 641 * (x1 + x2 + x3 + x4) + x5 + x0 ≤ 641 * (x6 + x7 + x8 + x9) + x10) (h2 : 0 < x11) (h3 : 641 * (x12 + x13 + x14 + x15) + x16 ≤ 641 * (x1 + x2 + x3 + x4) + x17) (h4 : x17 = x5 - x11 + 0) : 641 * (x12 + x13 + x14 + x15) + x16 + 1 ≤ 641 * (x6 + x7 + x8 + x9) + x10 := by omega
theorem la_solve_103 {x0 x1 x2 x3 x4 x5 x6 x7 x8 x9 x10 : Int} (h0 : 0 ≤ x0) (h1 : 0 ≤ x1) (h2 : 0 ≤ x2) (h3 : 641 * (x1 + x3 + x0 + x4) + x2 + x5 ≤ 641 * (x6 + x7 + x8 + x9) + x10) : 0 ≤ x0 ∧ 0 ≤ x1 ∧ 0 ≤ x2 ∧ 641 * (x1 + x3 + x0 + x4) + x2 + x5 ≤ 641 * (x6 + x7 + x8 + x9) + x10 := by omega
theorem la_solve_104 {x0 x1 x2 : Int} (h0 : x0 + 2 * x1 ≤ 500) (h1 : 0 ≤ x2) (h2 : ¬ x0 + 2 * x1 ≤ x2) : 0 ≤ x2 ∧ x2 < 640 := by omega
theorem la_solve_105 {x0 x1 x2 : Int} (h0 : x0 + 2 * x1 ≤ 500) (h1 : 0 ≤ x2) (h2 : ¬ x0 + 2 * x1 ≤ x2) : sv_R (x2 + 1) := by omega
theorem la_solve_106 {x0 x1 x2 : Int} (h0 : ¬ x0 + 2 * x1 ≤ x2) : x2 + 1 ≤ x0 + 2 * x1 := by omega
theorem la_solve_107 {x0 x1 : Int} (h0 : x0 = x1) : ¬ x0 < x1 := by omega
theorem la_solve_108 {x0 x1 : Int} (h0 : x0 < x1 + 1) : x0 ≤ x1 := by omega
theorem la_solve_109 {x0 x1 : Int} (h0 : x0 ≤ x1) (h1 : ¬ x0 = x1) : x0 < x1 := by omega
theorem la_solve_110 {x0 x1 : Int} (h0 : x0 = x1) (h1 : x1 = 0) : x0 = 0 := by omega
set_option maxHeartbeats 8000000 in
theorem f_solve : ∀ (S : sv_S), sm_ok S → (((S 1072 0) = 1 → 29 ≤ (S 1071 0) ∧ (S 1071 0) ≤ 127 ∧ 31 ≤ (S 1008 0) ∧ (S 1008 0) ≤ 90 ∧ 1 ≤ (S 1032 0) ∧ (S 1032 0) ≤ 11 ∧ 0 ≤ (S 1055 0) ∧ (S 1055 0) ≤ 19 ∧ (S 1071 0) = 29 + 6 * ((S 1032 0) - 1) + 2 * (S 1055 0) ∧ 0 ≤ (S 1046 0) ∧ (S 1046 0) + 2 * (S 1032 0) ≤ 500 ∧ sm_PD (S 1046 0) (S 1032 0) (S 1071 0) (S 1008 0) ∧ 0 ≤ (S 1071 0) * ((S 1008 0) + 1) ∧ (S 1071 0) * ((S 1008 0) + 1) ≤ 11557 ∧ 31 ≤ (S 1007 0) ∧ (S 1007 0) ≤ 400 ∧ sm_LN (S 4) 400 (S 1007 0) ∧ sm_NH (S 1100007) ∧ sm_CT (S 26) (S 27) (S 28) (S 29) (S 1100007) (S 1100023) (S 1100024) (S 1100025) (S 21) (S 1046 0) (S 1032 0) (S 1008 0) (S 1055 0) ∧ (∀ k : Int, (S 1046 0) ≤ k → k < ((S 1046 0) + 2 * (S 1032 0)) → (S 1100007 k) = 1) ∧ (∀ g : Int, 0 ≤ g → g < (S 1032 0) → 0 ≤ (S 30 g) ∧ (S 30 g) < (S 1046 0) ∧ (S 1100007 (S 30 g)) = 0 ∧ (S 1100023 (S 30 g)) = -1 ∧ 0 ≤ (S 33 g) ∧ (S 33 g) ≤ 100 ∧ 0 ≤ (S 20 g) ∧ (S 20 g) ≤ 8) ∧ sm_VN (S 32) (S 33) (S 1032 0) (S 1008 0) ∧ (S 30 0) = 0 ∧ sm_su (S 1100007) 640 ≤ 170000)) → ((0 ≤ (S 1072 0) ∧ (S 1072 0) ≤ 1) → ((((S 1072 0) = (0 : Int)) → ((((1 : Int) ≤ (0 : Int)) → ((0 ≤ (S 1119 0) ∧ (S 1119 0) ≤ 1) → ((((S 1119 0) = (0 : Int)) → (29 ≤ (S 1071 0) ∧ (S 1071 0) ≤ 127 ∧ 31 ≤ (S 1008 0) ∧ (S 1008 0) ≤ 90 ∧ 1 ≤ (S 1032 0) ∧ (S 1032 0) ≤ 11 ∧ 0 ≤ (S 1055 0) ∧ (S 1055 0) ≤ 19 ∧ (S 1071 0) = 29 + 6 * ((S 1032 0) - 1) + 2 * (S 1055 0) ∧ 0 ≤ (S 1046 0) ∧ (S 1046 0) + 2 * (S 1032 0) ≤ 500 ∧ sm_PD (S 1046 0) (S 1032 0) (S 1071 0) (S 1008 0) ∧ 0 ≤ (S 1071 0) * ((S 1008 0) + 1) ∧ (S 1071 0) * ((S 1008 0) + 1) ≤ 11557 ∧ 31 ≤ (S 1007 0) ∧ (S 1007 0) ≤ 400 ∧ sm_LN (S 4) 400 (S 1007 0) ∧ sm_CT (S 26) (S 27) (S 28) (S 29) (S 1100007) (S 1100023) (S 1100024) (S 1100025) (S 21) (S 1046 0) (S 1032 0) (S 1008 0) (S 1055 0)) ∧ (∀ g6 : sv_S, (True) → (sv_R (S 1046 0) → (sv_R (S 1032 0) → (sv_R ((S 1046 0) + ((2 : Int) * (S 1032 0)))) ∧ ((0 ≤ (0 : Int) ∧ (0 : Int) ≤ ((S 1046 0) + ((2 : Int) * (S 1032 0))) ∧ (∀ k : Int, 0 ≤ k → k < (0 : Int) → (S 71 k) = 0) ∧ (∀ k : Int, 0 ≤ k → k < (0 : Int) → (S 72 k) = 0)) ∧ (∀ l1_17 : Int, sv_R l1_17 → ∀ g16 : sv_S, (0 ≤ l1_17 ∧ l1_17 ≤ ((S 1046 0) + ((2 : Int) * (S 1032 0))) ∧ (∀ k : Int, 0 ≤ k → k < l1_17 → (g16 71 k) = 0) ∧ (∀ k : Int, 0 ≤ k → k < l1_17 → (g16 72 k) = 0)) → (0 ≤ ((S 1046 0) + ((2 : Int) * (S 1032 0))) - l1_17) ∧ (((((S 1046 0) + ((2 : Int) * (S 1032 0))) ≤ l1_17) → (((∀ k : Int, 0 ≤ k → k < ((S 1046 0) + 2 * (S 1032 0)) → (g16 71 k) = 0) → sm_ST (g16 71) (S 74) (S 75) (S 78) (S 79) (S 80) (S 27) (S 1100007) (S 1100023) (S 1100024) (S 1046 0) ((S 1046 0) + 2 * (S 1032 0)) 465000) → ((sm_NH (S 1100007) → sm_hs (g16 71) (S 1100007) ≤ sm_su (S 1100007) 640) → (((∀ k : Int, 0 ≤ k → k < (S 1046 0) → (g16 72 k) = 0) → sm_DR (g16 72) (g16 71) (S 1046 0)) → (0 ≤ (639 : Int) ∧ (639 : Int) < 640) ∧ (29 ≤ (S 1071 0) ∧ (S 1071 0) ≤ 127 ∧ 31 ≤ (S 1008 0) ∧ (S 1008 0) ≤ 90 ∧ 1 ≤ (S 1032 0) ∧ (S 1032 0) ≤ 11 ∧ 0 ≤ (S 1055 0) ∧ (S 1055 0) ≤ 19 ∧ (S 1071 0) = 29 + 6 * ((S 1032 0) - 1) + 2 * (S 1055 0) ∧ 0 ≤ (S 1046 0) ∧ (S 1046 0) + 2 * (S 1032 0) ≤ 500 ∧ sm_PD (S 1046 0) (S 1032 0) (S 1071 0) (S 1008 0) ∧ 0 ≤ (S 1071 0) * ((S 1008 0) + 1) ∧ (S 1071 0) * ((S 1008 0) + 1) ≤ 11557 ∧ 31 ≤ (S 1007 0) ∧ (S 1007 0) ≤ 400 ∧ sm_LN (S 4) 400 (S 1007 0)) ∧ (∀ g32 : sv_S, ((g32 74 639) = 0 ∧ (g32 78 639) = 0 ∧ sm_F1 (S 74) (g32 74) 639 ∧ sm_F1 (S 78) (g32 78) 639) → ((sm_dp (S 1100024) (-1) = 0) → (29 ≤ (S 1071 0) ∧ (S 1071 0) ≤ 127 ∧ 31 ≤ (S 1008 0) ∧ (S 1008 0) ≤ 90 ∧ 1 ≤ (S 1032 0) ∧ (S 1032 0) ≤ 11 ∧ 0 ≤ (S 1055 0) ∧ (S 1055 0) ≤ 19 ∧ (S 1071 0) = 29 + 6 * ((S 1032 0) - 1) + 2 * (S 1055 0) ∧ 0 ≤ (S 1046 0) ∧ (S 1046 0) + 2 * (S 1032 0) ≤ 500 ∧ sm_PD (S 1046 0) (S 1032 0) (S 1071 0) (S 1008 0) ∧ 0 ≤ (S 1071 0) * ((S 1008 0) + 1) ∧ (S 1071 0) * ((S 1008 0) + 1) ≤ 11557 ∧ 31 ≤ (S 1007 0) ∧ (S 1007 0) ≤ 400 ∧ sm_LN (S 4) 400 (S 1007 0) ∧ (if 639 = (639 : Int) then (647340 : Int) else (S 75 639)) = 647340 ∧ sm_ST (g16 71) (g32 74) (fun i' : Int => if i' = (639 : Int) then (647340 : Int) else (S 75) i') (g32 78) (S 79) (S 80) (S 27) (S 1100007) (S 1100023) (S 1100024) (S 1046 0) ((S 1046 0) + 2 * (S 1032 0)) (465000 : Int) ∧ 465000 ≤ (465000 : Int) ∧ (465000 : Int) + sm_hs (g16 71) (S 1100007) ≤ 635000 ∧ sm_NH (S 1100007) ∧ sm_CT (S 26) (S 27) (S 28) (S 29) (S 1100007) (S 1100023) (S 1100024) (S 1100025) (S 21) (S 1046 0) (S 1032 0) (S 1008 0) (S 1055 0) ∧ (∀ k : Int, (S 1046 0) ≤ k → k < ((S 1046 0) + 2 * (S 1032 0)) → (S 1100007 k) = 1) ∧ sm_DR (g16 72) (g16 71) (S 1046 0) ∧ 0 ≤ (g32 74 639) ∧ (g32 74 639) ≤ 400 ∧ 0 ≤ (g32 78 639) ∧ (g32 78 639) ≤ 40 ∧ (g32 78 639) = sm_dp (S 1100024) (-1 : Int) ∧ -1 ≤ (-1 : Int) ∧ (-1 : Int) < (S 1046 0) ∧ (0 ≤ (-1 : Int) → (S 26 (-1 : Int)) = 27) ∧ sm_TC (S 79) (S 80) (S 27) (S 1100007) (S 1100023) (S 1100024) 25560 (-1 : Int) ∧ 0 ≤ (0 : Int) ∧ (0 : Int) < ((S 1046 0) + 2 * (S 1032 0)) ∧ (g32 74 639) = (S 1100007 (0 : Int)) ∧ ((0 : Int) < (S 1046 0) → (S 1100023 (0 : Int)) = (-1 : Int))) ∧ (∀ g41 : sv_S, (sm_ST (g41 71) (g41 74) (g41 75) (g41 78) (g41 79) (g41 80) (S 27) (S 1100007) (S 1100023) (S 1100024) (S 1046 0) ((S 1046 0) + 2 * (S 1032 0)) (g41 1127 0) ∧ 465000 ≤ (g41 1127 0) ∧ (g41 1127 0) + sm_hs (g41 71) (S 1100007) ≤ 635000 ∧ (g41 75 639) = 647340 ∧ (g41 74 639) = (g32 74 639) ∧ (g41 78 639) = (g32 78 639) ∧ sm_TC (g41 79) (g41 80) (S 27) (S 1100007) (S 1100023) (S 1100024) 25560 (-1 : Int) ∧ (∀ k : Int, (g16 71 k) = 1 → (g41 71 k) = 1) ∧ sm_DR (g41 72) (g41 71) (S 1046 0) ∧ (641 * (sm_cm (g41 71) + sm_pt (g41 68) (g41 69) (g41 70) + sm_pl (g41 81) (g41 82) (g41 83) (g41 84) (g41 85) (g41 86) + sm_ps (g41 76) (g41 77)) + sm_du (g41 72)) ≤ (641 * (sm_cm (g16 71) + sm_pt (g32 68) (g32 69) (g32 70) + sm_pl (g32 81) (g32 82) (g32 83) (g32 84) (g32 85) (g32 86) + sm_ps (g32 76) (g32 77)) + sm_du (g16 72)) ∧ (g41 71 (0 : Int)) = 1) → ((0 ≤ sm_pl (g41 81) (g41 82) (g41 83) (g41 84) (g41 85) (g41 86) ∧ sm_pl (g41 81) (g41 82) (g41 83) (g41 84) (g41 85) (g41 86) ≤ 3870000) → ((0 ≤ sm_cm (g41 71)) → ((0 ≤ sm_du (g41 72) ∧ sm_du (g41 72) ≤ 640) → ((((1 : Int) = 0 ∨ (1 : Int) = 1) ∧ sm_ST (g41 71) (g41 74) (g41 75) (g41 78) (g41 79) (g41 80) (S 27) (S 1100007) (S 1100023) (S 1100024) (S 1046 0) ((S 1046 0) + 2 * (S 1032 0)) (g41 1127 0) ∧ 465000 ≤ (g41 1127 0) ∧ (g41 1127 0) + sm_hs (g41 71) (S 1100007) ≤ 635000 ∧ (g41 75 639) = 647340 ∧ sm_DR (g41 72) (g41 71) (S 1046 0) ∧ 0 ≤ sm_pl (g41 81) (g41 82) (g41 83) (g41 84) (g41 85) (g41 86) ∧ 0 ≤ sm_cm (g41 71) ∧ 0 ≤ sm_du (g41 72)) ∧ (∀ l1_50 : Int, sv_R l1_50 → ∀ g49 : sv_S, ((l1_50 = 0 ∨ l1_50 = 1) ∧ sm_ST (g49 71) (g49 74) (g49 75) (g49 78) (g49 79) (g49 80) (S 27) (S 1100007) (S 1100023) (S 1100024) (S 1046 0) ((S 1046 0) + 2 * (S 1032 0)) (g49 1127 0) ∧ 465000 ≤ (g49 1127 0) ∧ (g49 1127 0) + sm_hs (g49 71) (S 1100007) ≤ 635000 ∧ (g49 75 639) = 647340 ∧ sm_DR (g49 72) (g49 71) (S 1046 0) ∧ 0 ≤ sm_pl (g49 81) (g49 82) (g49 83) (g49 84) (g49 85) (g49 86) ∧ 0 ≤ sm_cm (g49 71) ∧ 0 ≤ sm_du (g49 72)) → (0 ≤ (641 * (sm_cm (g49 71) + sm_pt (g49 68) (g49 69) (g49 70) + sm_pl (g49 81) (g49 82) (g49 83) (g49 84) (g49 85) (g49 86) + sm_ps (g49 76) (g49 77)) + sm_du (g49 72)) + l1_50) ∧ (((l1_50 = (0 : Int)) → ((0 ≤ (0 : Int) ∧ (0 : Int) ≤ (S 1046 0) ∧ 0 ≤ (0 : Int) ∧ (0 : Int) ≤ (0 : Int)) ∧ (∀ l2_59 : Int, sv_R l2_59 → ∀ g58 : sv_S, (0 ≤ l2_59 ∧ l2_59 ≤ (S 1046 0) ∧ 0 ≤ (g58 1120 0) ∧ (g58 1120 0) ≤ l2_59) → (0 ≤ (S 1046 0) - l2_59) ∧ ((((S 1046 0) ≤ l2_59) → (sv_R (g58 1120 0) → (True ∧ ((1 : Int) = 1 → (S 1119 0) = 1 ∨ ((S 1072 0) = 1 ∧ sm_ST (g49 71) (g49 74) (g49 75) (g49 78) (g49 79) (g49 80) (S 27) (S 1100007) (S 1100023) (S 1100024) (S 1046 0) ((S 1046 0) + 2 * (S 1032 0)) (g49 1127 0) ∧ 465000 ≤ (g49 1127 0) ∧ (g49 1127 0) + sm_hs (g49 71) (S 1100007) ≤ 635000 ∧ (g49 75 639) = 647340 ∧ sm_DR (g49 72) (g49 71) (S 1046 0)))))) ∧ ((¬ ((S 1046 0) ≤ l2_59)) → (sv_R (g58 1120 0) → (0 ≤ l2_59 ∧ l2_59 < 640) ∧ ((0 ≤ (g49 71 l2_59) ∧ (g49 71 l2_59) ≤ 1) → ((((g49 71 l2_59) = (0 : Int)) → (sv_R ((g58 1120 0) + (0 : Int))) ∧ (sv_R (l2_59 + (1 : Int))) ∧ ((0 ≤ (l2_59 + (1 : Int)) ∧ (l2_59 + (1 : Int)) ≤ (S 1046 0) ∧ 0 ≤ ((g58 1120 0) + (0 : Int)) ∧ ((g58 1120 0) + (0 : Int)) ≤ (l2_59 + (1 : Int))) ∧ ((S 1046 0) - (l2_59 + (1 : Int))) < ((S 1046 0) - l2_59))) ∧ ((¬ ((g49 71 l2_59) = (0 : Int))) → (sv_R ((g58 1120 0) + (1 : Int))) ∧ (sv_R (l2_59 + (1 : Int))) ∧ ((0 ≤ (l2_59 + (1 : Int)) ∧ (l2_59 + (1 : Int)) ≤ (S 1046 0) ∧ 0 ≤ ((g58 1120 0) + (1 : Int)) ∧ ((g58 1120 0) + (1 : Int)) ≤ (l2_59 + (1 : Int))) ∧ ((S 1046 0) - (l2_59 + (1 : Int))) < ((S 1046 0) - l2_59))))))))))) ∧ ((¬ (l1_50 = (0 : Int))) → ((((0 : Int) = 0 ∨ (0 : Int) = 1) ∧ 0 ≤ (0 : Int) ∧ (0 : Int) ≤ (S 1046 0) ∧ sm_ST (g49 71) (g49 74) (g49 75) (g49 78) (g49 79) (g49 80) (S 27) (S 1100007) (S 1100023) (S 1100024) (S 1046 0) ((S 1046 0) + 2 * (S 1032 0)) (g49 1127 0) ∧ 465000 ≤ (g49 1127 0) ∧ (g49 1127 0) + sm_hs (g49 71) (S 1100007) ≤ 635000 ∧ (g49 75 639) = 647340 ∧ sm_DR (g49 72) (g49 71) (S 1046 0) ∧ 0 ≤ sm_pl (g49 81) (g49 82) (g49 83) (g49 84) (g49 85) (g49 86) ∧ 0 ≤ sm_cm (g49 71) ∧ 0 ≤ sm_du (g49 72) ∧ (641 * (sm_cm (g49 71) + sm_pt (g49 68) (g49 69) (g49 70) + sm_pl (g49 81) (g49 82) (g49 83) (g49 84) (g49 85) (g49 86) + sm_ps (g49 76) (g49 77)) + sm_du (g49 72)) + (0 : Int) ≤ (641 * (sm_cm (g49 71) + sm_pt (g49 68) (g49 69) (g49 70) + sm_pl (g49 81) (g49 82) (g49 83) (g49 84) (g49 85) (g49 86) + sm_ps (g49 76) (g49 77)) + sm_du (g49 72))) ∧ (∀ l1_82 : Int, sv_R l1_82 → ∀ l2_83 : Int, sv_R l2_83 → ∀ g81 : sv_S, ((l1_82 = 0 ∨ l1_82 = 1) ∧ 0 ≤ l2_83 ∧ l2_83 ≤ (S 1046 0) ∧ sm_ST (g81 71) (g81 74) (g81 75) (g81 78) (g81 79) (g81 80) (S 27) (S 1100007) (S 1100023) (S 1100024) (S 1046 0) ((S 1046 0) + 2 * (S 1032 0)) (g81 1127 0) ∧ 465000 ≤ (g81 1127 0) ∧ (g81 1127 0) + sm_hs (g81 71) (S 1100007) ≤ 635000 ∧ (g81 75 639) = 647340 ∧ sm_DR (g81 72) (g81 71) (S 1046 0) ∧ 0 ≤ sm_pl (g81 81) (g81 82) (g81 83) (g81 84) (g81 85) (g81 86) ∧ 0 ≤ sm_cm (g81 71) ∧ 0 ≤ sm_du (g81 72) ∧ (641 * (sm_cm (g81 71) + sm_pt (g81 68) (g81 69) (g81 70) + sm_pl (g81 81) (g81 82) (g81 83) (g81 84) (g81 85) (g81 86) + sm_ps (g81 76) (g81 77)) + sm_du (g81 72)) + l1_82 ≤ (641 * (sm_cm (g49 71) + sm_pt (g49 68) (g49 69) (g49 70) + sm_pl (g49 81) (g49 82) (g49 83) (g49 84) (g49 85) (g49 86) + sm_ps (g49 76) (g49 77)) + sm_du (g49 72))) → (0 ≤ (S 1046 0) - l2_83) ∧ ((((S 1046 0) ≤ l2_83) → (((l1_82 = 0 ∨ l1_82 = 1) ∧ sm_ST (g81 71) (g81 74) (g81 75) (g81 78) (g81 79) (g81 80) (S 27) (S 1100007) (S 1100023) (S 1100024) (S 1046 0) ((S 1046 0) + 2 * (S 1032 0)) (g81 1127 0) ∧ 465000 ≤ (g81 1127 0) ∧ (g81 1127 0) + sm_hs (g81 71) (S 1100007) ≤ 635000 ∧ (g81 75 639) = 647340 ∧ sm_DR (g81 72) (g81 71) (S 1046 0) ∧ 0 ≤ sm_pl (g81 81) (g81 82) (g81 83) (g81 84) (g81 85) (g81 86) ∧ 0 ≤ sm_cm (g81 71) ∧ 0 ≤ sm_du (g81 72)) ∧ ((641 * (sm_cm (g81 71) + sm_pt (g81 68) (g81 69) (g81 70) + sm_pl (g81 81) (g81 82) (g81 83) (g81 84) (g81 85) (g81 86) + sm_ps (g81 76) (g81 77)) + sm_du (g81 72)) + l1_82) < ((641 * (sm_cm (g49 71) + sm_pt (g49 68) (g49 69) (g49 70) + sm_pl (g49 81) (g49 82) (g49 83) (g49 84) (g49 85) (g49 86) + sm_ps (g49 76) (g49 77)) + sm_du (g49 72)) + l1_50))) ∧ ((¬ ((S 1046 0) ≤ l2_83)) → (0 ≤ l2_83 ∧ l2_83 < 640) ∧ ((0 ≤ (g81 72 l2_83) ∧ (g81 72 l2_83) ≤ 1) → (((¬ (g81 72 l2_83) = (0 : Int)) → ((sm_DR (g81 72) (g81 71) (S 1046 0) → 0 ≤ l2_83 → l2_83 < (S 1046 0) → (g81 72 l2_83) = 1 → (g81 71 l2_83) = 1) → ((0 ≤ sm_cm (g81 71)) → ((0 ≤ sm_cm (g81 71)) → (29 ≤ (S 1071 0) ∧ (S 1071 0) ≤ 127 ∧ 31 ≤ (S 1008 0) ∧ (S 1008 0) ≤ 90 ∧ 1 ≤ (S 1032 0) ∧ (S 1032 0) ≤ 11 ∧ 0 ≤ (S 1055 0) ∧ (S 1055 0) ≤ 19 ∧ (S 1071 0) = 29 + 6 * ((S 1032 0) - 1) + 2 * (S 1055 0) ∧ 0 ≤ (S 1046 0) ∧ (S 1046 0) + 2 * (S 1032 0) ≤ 500 ∧ sm_PD (S 1046 0) (S 1032 0) (S 1071 0) (S 1008 0) ∧ 0 ≤ (S 1071 0) * ((S 1008 0) + 1) ∧ (S 1071 0) * ((S 1008 0) + 1) ≤ 11557 ∧ 31 ≤ (S 1007 0) ∧ (S 1007 0) ≤ 400 ∧ sm_LN (S 4) 400 (S 1007 0) ∧ (g81 75 639) = 647340 ∧ sm_ST (g81 71) (g81 74) (g81 75) (g81 78) (g81 79) (g81 80) (S 27) (S 1100007) (S 1100023) (S 1100024) (S 1046 0) ((S 1046 0) + 2 * (S 1032 0)) (g81 1127 0) ∧ 465000 ≤ (g81 1127 0) ∧ (g81 1127 0) + sm_hs (g81 71) (S 1100007) ≤ 635000 ∧ sm_NH (S 1100007) ∧ sm_CT (S 26) (S 27) (S 28) (S 29) (S 1100007) (S 1100023) (S 1100024) (S 1100025) (S 21) (S 1046 0) (S 1032 0) (S 1008 0) (S 1055 0) ∧ (∀ k : Int, (S 1046 0) ≤ k → k < ((S 1046 0) + 2 * (S 1032 0)) → (S 1100007 k) = 1) ∧ sm_DR (fun i' : Int => if i' = l2_83 then (0 : Int) else (g81 72) i') (g81 71) (S 1046 0) ∧ (∀ g : Int, 0 ≤ g → g < (S 1032 0) → 0 ≤ (S 30 g) ∧ (S 30 g) < (S 1046 0) ∧ (S 1100007 (S 30 g)) = 0 ∧ (S 1100023 (S 30 g)) = -1 ∧ 0 ≤ (S 33 g) ∧ (S 33 g) ≤ 100 ∧ 0 ≤ (S 20 g) ∧ (S 20 g) ≤ 8) ∧ sm_VN (S 32) (S 33) (S 1032 0) (S 1008 0) ∧ 0 ≤ l2_83 ∧ l2_83 < (S 1046 0) ∧ (g81 71 l2_83) = 1) ∧ (∀ g100 : sv_S, (sm_ST (g100 71) (g100 74) (g100 75) (g100 78) (g100 79) (g100 80) (S 27) (S 1100007) (S 1100023) (S 1100024) (S 1046 0) ((S 1046 0) + 2 * (S 1032 0)) (g100 1127 0) ∧ 465000 ≤ (g100 1127 0) ∧ (g100 1127 0) + sm_hs (g100 71) (S 1100007) ≤ 635000 ∧ (g100 75 639) = 647340 ∧ (∀ k : Int, (g81 71 k) = 1 → (g100 71 k) = 1) ∧ sm_DR (g100 72) (g100 71) (S 1046 0) ∧ (641 * (sm_cm (g100 71) + sm_pt (g100 68) (g100 69) (g100 70) + sm_pl (g100 81) (g100 82) (g100 83) (g100 84) (g100 85) (g100 86) + sm_ps (g100 76) (g100 77)) + sm_du (g100 72)) ≤ (641 * (sm_cm (g81 71) + sm_pt (g81 68) (g81 69) (g81 70) + sm_pl (g81 81) (g81 82) (g81 83) (g81 84) (g81 85) (g81 86) + sm_ps (g81 76) (g81 77)) + sm_du (fun i' : Int => if i' = l2_83 then (0 : Int) else (g81 72) i'))) → ((0 ≤ sm_pl (g100 81) (g100 82) (g100 83) (g100 84) (g100 85) (g100 86) ∧ sm_pl (g100 81) (g100 82) (g100 83) (g100 84) (g100 85) (g100 86) ≤ 3870000) → ((0 ≤ sm_cm (g100 71)) → ((0 ≤ sm_du (g100 72) ∧ sm_du (g100 72) ≤ 640) → (sv_R (l2_83 + (1 : Int))) ∧ ((((1 : Int) = 0 ∨ (1 : Int) = 1) ∧ 0 ≤ (l2_83 + (1 : Int)) ∧ (l2_83 + (1 : Int)) ≤ (S 1046 0) ∧ sm_ST (g100 71) (g100 74) (g100 75) (g100 78) (g100 79) (g100 80) (S 27) (S 1100007) (S 1100023) (S 1100024) (S 1046 0) ((S 1046 0) + 2 * (S 1032 0)) (g100 1127 0) ∧ 465000 ≤ (g100 1127 0) ∧ (g100 1127 0) + sm_hs (g100 71) (S 1100007) ≤ 635000 ∧ (g100 75 639) = 647340 ∧ sm_DR (g100 72) (g100 71) (S 1046 0) ∧ 0 ≤ sm_pl (g100 81) (g100 82) (g100 83) (g100 84) (g100 85) (g100 86) ∧ 0 ≤ sm_cm (g100 71) ∧ 0 ≤ sm_du (g100 72) ∧ (641 * (sm_cm (g100 71) + sm_pt (g100 68) (g100 69) (g100 70) + sm_pl (g100 81) (g100 82) (g100 83) (g100 84) (g100 85) (g100 86) + sm_ps (g100 76) (g100 77)) + sm_du (g100 72)) + (1 : Int) ≤ (641 * (sm_cm (g49 71) + sm_pt (g49 68) (g49 69) (g49 70) + sm_pl (g49 81) (g49 82) (g49 83) (g49 84) (g49 85) (g49 86) + sm_ps (g49 76) (g49 77)) + sm_du (g49 72))) ∧ ((S 1046 0) - (l2_83 + (1 : Int))) < ((S 1046 0) - l2_83)))))))))) ∧ ((¬ (¬ (g81 72 l2_83) = (0 : Int))) → ((0 ≤ sm_pl (g81 81) (g81 82) (g81 83) (g81 84) (g81 85) (g81 86) ∧ sm_pl (g81 81) (g81 82) (g81 83) (g81 84) (g81 85) (g81 86) ≤ 3870000) → ((0 ≤ sm_cm (g81 71)) → ((0 ≤ sm_du (g81 72) ∧ sm_du (g81 72) ≤ 640) → (sv_R (l2_83 + (1 : Int))) ∧ (((l1_82 = 0 ∨ l1_82 = 1) ∧ 0 ≤ (l2_83 + (1 : Int)) ∧ (l2_83 + (1 : Int)) ≤ (S 1046 0) ∧ sm_ST (g81 71) (g81 74) (g81 75) (g81 78) (g81 79) (g81 80) (S 27) (S 1100007) (S 1100023) (S 1100024) (S 1046 0) ((S 1046 0) + 2 * (S 1032 0)) (g81 1127 0) ∧ 465000 ≤ (g81 1127 0) ∧ (g81 1127 0) + sm_hs (g81 71) (S 1100007) ≤ 635000 ∧ (g81 75 639) = 647340 ∧ sm_DR (g81 72) (g81 71) (S 1046 0) ∧ 0 ≤ sm_pl (g81 81) (g81 82) (g81 83) (g81 84) (g81 85) (g81 86) ∧ 0 ≤ sm_cm (g81 71) ∧ 0 ≤ sm_du (g81 72) ∧ (641 * (sm_cm (g81 71) + sm_pt (g81 68) (g81 69) (g81 70) + sm_pl (g81 81) (g81 82) (g81 83) (g81 84) (g81 85) (g81 86) + sm_ps (g81 76) (g81 77)) + sm_du (g81 72)) + l1_82 ≤ (641 * (sm_cm (g49 71) + sm_pt (g49 68) (g49 69) (g49 70) + sm_pl (g49 81) (g49 82) (g49 83) (g49 84) (g49 85) (g49 86) + sm_ps (g49 76) (g49 77)) + sm_du (g49 72))) ∧ ((S 1046 0) - (l2_83 + (1 : Int))) < ((S 1046 0) - l2_83)))))))))))))))))))))))))) ∧ ((¬ (((S 1046 0) + ((2 : Int) * (S 1032 0))) ≤ l1_17)) → (0 ≤ l1_17 ∧ l1_17 < 640) ∧ (sv_R (l1_17 + (1 : Int))) ∧ ((0 ≤ (l1_17 + (1 : Int)) ∧ (l1_17 + (1 : Int)) ≤ ((S 1046 0) + ((2 : Int) * (S 1032 0))) ∧ (∀ k : Int, 0 ≤ k → k < (l1_17 + (1 : Int)) → (if k = l1_17 then (0 : Int) else (g16 71 k)) = 0) ∧ (∀ k : Int, 0 ≤ k → k < (l1_17 + (1 : Int)) → (if k = l1_17 then (0 : Int) else (g16 72 k)) = 0)) ∧ (((S 1046 0) + ((2 : Int) * (S 1032 0))) - (l1_17 + (1 : Int))) < (((S 1046 0) + ((2 : Int) * (S 1032 0))) - l1_17)))))))))) ∧ ((¬ ((S 1119 0) = (0 : Int))) → (sv_R (S 1120 0) → (True ∧ ((S 1119 0) = 1 → (S 1119 0) = 1 ∨ ((S 1072 0) = 1 ∧ sm_ST (S 71) (S 74) (S 75) (S 78) (S 79) (S 80) (S 27) (S 1100007) (S 1100023) (S 1100024) (S 1046 0) ((S 1046 0) + 2 * (S 1032 0)) (S 1127 0) ∧ 465000 ≤ (S 1127 0) ∧ (S 1127 0) + sm_hs (S 71) (S 1100007) ≤ 635000 ∧ (S 75 639) = 647340 ∧ sm_DR (S 72) (S 71) (S 1046 0))))))))) ∧ ((¬ ((1 : Int) ≤ (0 : Int))) → (True ∧ ((S 1119 0) = 1 → (S 1119 0) = 1 ∨ ((S 1072 0) = 1 ∧ sm_ST (S 71) (S 74) (S 75) (S 78) (S 79) (S 80) (S 27) (S 1100007) (S 1100023) (S 1100024) (S 1046 0) ((S 1046 0) + 2 * (S 1032 0)) (S 1127 0) ∧ 465000 ≤ (S 1127 0) ∧ (S 1127 0) + sm_hs (S 71) (S 1100007) ≤ 635000 ∧ (S 75 639) = 647340 ∧ sm_DR (S 72) (S 71) (S 1046 0))))))) ∧ ((¬ ((S 1072 0) = (0 : Int))) → ((((0 : Int) ≤ (0 : Int)) → ((0 ≤ (S 1119 0) ∧ (S 1119 0) ≤ 1) → ((((S 1119 0) = (0 : Int)) → (29 ≤ (S 1071 0) ∧ (S 1071 0) ≤ 127 ∧ 31 ≤ (S 1008 0) ∧ (S 1008 0) ≤ 90 ∧ 1 ≤ (S 1032 0) ∧ (S 1032 0) ≤ 11 ∧ 0 ≤ (S 1055 0) ∧ (S 1055 0) ≤ 19 ∧ (S 1071 0) = 29 + 6 * ((S 1032 0) - 1) + 2 * (S 1055 0) ∧ 0 ≤ (S 1046 0) ∧ (S 1046 0) + 2 * (S 1032 0) ≤ 500 ∧ sm_PD (S 1046 0) (S 1032 0) (S 1071 0) (S 1008 0) ∧ 0 ≤ (S 1071 0) * ((S 1008 0) + 1) ∧ (S 1071 0) * ((S 1008 0) + 1) ≤ 11557 ∧ 31 ≤ (S 1007 0) ∧ (S 1007 0) ≤ 400 ∧ sm_LN (S 4) 400 (S 1007 0) ∧ sm_CT (S 26) (S 27) (S 28) (S 29) (S 1100007) (S 1100023) (S 1100024) (S 1100025) (S 21) (S 1046 0) (S 1032 0) (S 1008 0) (S 1055 0)) ∧ (∀ g128 : sv_S, (True) → (sv_R (S 1046 0) → (sv_R (S 1032 0) → (sv_R ((S 1046 0) + ((2 : Int) * (S 1032 0)))) ∧ ((0 ≤ (0 : Int) ∧ (0 : Int) ≤ ((S 1046 0) + ((2 : Int) * (S 1032 0))) ∧ (∀ k : Int, 0 ≤ k → k < (0 : Int) → (S 71 k) = 0) ∧ (∀ k : Int, 0 ≤ k → k < (0 : Int) → (S 72 k) = 0)) ∧ (∀ l1_139 : Int, sv_R l1_139 → ∀ g138 : sv_S, (0 ≤ l1_139 ∧ l1_139 ≤ ((S 1046 0) + ((2 : Int) * (S 1032 0))) ∧ (∀ k : Int, 0 ≤ k → k < l1_139 → (g138 71 k) = 0) ∧ (∀ k : Int, 0 ≤ k → k < l1_139 → (g138 72 k) = 0)) → (0 ≤ ((S 1046 0) + ((2 : Int) * (S 1032 0))) - l1_139) ∧ (((((S 1046 0) + ((2 : Int) * (S 1032 0))) ≤ l1_139) → (((∀ k : Int, 0 ≤ k → k < ((S 1046 0) + 2 * (S 1032 0)) → (g138 71 k) = 0) → sm_ST (g138 71) (S 74) (S 75) (S 78) (S 79) (S 80) (S 27) (S 1100007) (S 1100023) (S 1100024) (S 1046 0) ((S 1046 0) + 2 * (S 1032 0)) 465000) → ((sm_NH (S 1100007) → sm_hs (g138 71) (S 1100007) ≤ sm_su (S 1100007) 640) → (((∀ k : Int, 0 ≤ k → k < (S 1046 0) → (g138 72 k) = 0) → sm_DR (g138 72) (g138 71) (S 1046 0)) → (0 ≤ (639 : Int) ∧ (639 : Int) < 640) ∧ (29 ≤ (S 1071 0) ∧ (S 1071 0) ≤ 127 ∧ 31 ≤ (S 1008 0) ∧ (S 1008 0) ≤ 90 ∧ 1 ≤ (S 1032 0) ∧ (S 1032 0) ≤ 11 ∧ 0 ≤ (S 1055 0) ∧ (S 1055 0) ≤ 19 ∧ (S 1071 0) = 29 + 6 * ((S 1032 0) - 1) + 2 * (S 1055 0) ∧ 0 ≤ (S 1046 0) ∧ (S 1046 0) + 2 * (S 1032 0) ≤ 500 ∧ sm_PD (S 1046 0) (S 1032 0) (S 1071 0) (S 1008 0) ∧ 0 ≤ (S 1071 0) * ((S 1008 0) + 1) ∧ (S 1071 0) * ((S 1008 0) + 1) ≤ 11557 ∧ 31 ≤ (S 1007 0) ∧ (S 1007 0) ≤ 400 ∧ sm_LN (S 4) 400 (S 1007 0)) ∧ (∀ g154 : sv_S, ((g154 74 639) = 0 ∧ (g154 78 639) = 0 ∧ sm_F1 (S 74) (g154 74) 639 ∧ sm_F1 (S 78) (g154 78) 639) → ((sm_dp (S 1100024) (-1) = 0) → (29 ≤ (S 1071 0) ∧ (S 1071 0) ≤ 127 ∧ 31 ≤ (S 1008 0) ∧ (S 1008 0) ≤ 90 ∧ 1 ≤ (S 1032 0) ∧ (S 1032 0) ≤ 11 ∧ 0 ≤ (S 1055 0) ∧ (S 1055 0) ≤ 19 ∧ (S 1071 0) = 29 + 6 * ((S 1032 0) - 1) + 2 * (S 1055 0) ∧ 0 ≤ (S 1046 0) ∧ (S 1046 0) + 2 * (S 1032 0) ≤ 500 ∧ sm_PD (S 1046 0) (S 1032 0) (S 1071 0) (S 1008 0) ∧ 0 ≤ (S 1071 0) * ((S 1008 0) + 1) ∧ (S 1071 0) * ((S 1008 0) + 1) ≤ 11557 ∧ 31 ≤ (S 1007 0) ∧ (S 1007 0) ≤ 400 ∧ sm_LN (S 4) 400 (S 1007 0) ∧ (if 639 = (639 : Int) then (647340 : Int) else (S 75 639)) = 647340 ∧ sm_ST (g138 71) (g154 74) (fun i' : Int => if i' = (639 : Int) then (647340 : Int) else (S 75) i') (g154 78) (S 79) (S 80) (S 27) (S 1100007) (S 1100023) (S 1100024) (S 1046 0) ((S 1046 0) + 2 * (S 1032 0)) (465000 : Int) ∧ 465000 ≤ (465000 : Int) ∧ (465000 : Int) + sm_hs (g138 71) (S 1100007) ≤ 635000 ∧ sm_NH (S 1100007) ∧ sm_CT (S 26) (S 27) (S 28) (S 29) (S 1100007) (S 1100023) (S 1100024) (S 1100025) (S 21) (S 1046 0) (S 1032 0) (S 1008 0) (S 1055 0) ∧ (∀ k : Int, (S 1046 0) ≤ k → k < ((S 1046 0) + 2 * (S 1032 0)) → (S 1100007 k) = 1) ∧ sm_DR (g138 72) (g138 71) (S 1046 0) ∧ 0 ≤ (g154 74 639) ∧ (g154 74 639) ≤ 400 ∧ 0 ≤ (g154 78 639) ∧ (g154 78 639) ≤ 40 ∧ (g154 78 639) = sm_dp (S 1100024) (-1 : Int) ∧ -1 ≤ (-1 : Int) ∧ (-1 : Int) < (S 1046 0) ∧ (0 ≤ (-1 : Int) → (S 26 (-1 : Int)) = 27) ∧ sm_TC (S 79) (S 80) (S 27) (S 1100007) (S 1100023) (S 1100024) 25560 (-1 : Int) ∧ 0 ≤ (0 : Int) ∧ (0 : Int) < ((S 1046 0) + 2 * (S 1032 0)) ∧ (g154 74 639) = (S 1100007 (0 : Int)) ∧ ((0 : Int) < (S 1046 0) → (S 1100023 (0 : Int)) = (-1 : Int))) ∧ (∀ g163 : sv_S, (sm_ST (g163 71) (g163 74) (g163 75) (g163 78) (g163 79) (g163 80) (S 27) (S 1100007) (S 1100023) (S 1100024) (S 1046 0) ((S 1046 0) + 2 * (S 1032 0)) (g163 1127 0) ∧ 465000 ≤ (g163 1127 0) ∧ (g163 1127 0) + sm_hs (g163 71) (S 1100007) ≤ 635000 ∧ (g163 75 639) = 647340 ∧ (g163 74 639) = (g154 74 639) ∧ (g163 78 639) = (g154 78 639) ∧ sm_TC (g163 79) (g163 80) (S 27) (S 1100007) (S 1100023) (S 1100024) 25560 (-1 : Int) ∧ (∀ k : Int, (g138 71 k) = 1 → (g163 71 k) = 1) ∧ sm_DR (g163 72) (g163 71) (S 1046 0) ∧ (641 * (sm_cm (g163 71) + sm_pt (g163 68) (g163 69) (g163 70) + sm_pl (g163 81) (g163 82) (g163 83) (g163 84) (g163 85) (g163 86) + sm_ps (g163 76) (g163 77)) + sm_du (g163 72)) ≤ (641 * (sm_cm (g138 71) + sm_pt (g154 68) (g154 69) (g154 70) + sm_pl (g154 81) (g154 82) (g154 83) (g154 84) (g154 85) (g154 86) + sm_ps (g154 76) (g154 77)) + sm_du (g138 72)) ∧ (g163 71 (0 : Int)) = 1) → ((0 ≤ sm_pl (g163 81) (g163 82) (g163 83) (g163 84) (g163 85) (g163 86) ∧ sm_pl (g163 81) (g163 82) (g163 83) (g163 84) (g163 85) (g163 86) ≤ 3870000) → ((0 ≤ sm_cm (g163 71)) → ((0 ≤ sm_du (g163 72) ∧ sm_du (g163 72) ≤ 640) → ((((1 : Int) = 0 ∨ (1 : Int) = 1) ∧ sm_ST (g163 71) (g163 74) (g163 75) (g163 78) (g163 79) (g163 80) (S 27) (S 1100007) (S 1100023) (S 1100024) (S 1046 0) ((S 1046 0) + 2 * (S 1032 0)) (g163 1127 0) ∧ 465000 ≤ (g163 1127 0) ∧ (g163 1127 0) + sm_hs (g163 71) (S 1100007) ≤ 635000 ∧ (g163 75 639) = 647340 ∧ sm_DR (g163 72) (g163 71) (S 1046 0) ∧ 0 ≤ sm_pl (g163 81) (g163 82) (g163 83) (g163 84) (g163 85) (g163 86) ∧ 0 ≤ sm_cm (g163 71) ∧ 0 ≤ sm_du (g163 72)) ∧ (∀ l1_172 : Int, sv_R l1_172 → ∀ g171 : sv_S, ((l1_172 = 0 ∨ l1_172 = 1) ∧ sm_ST (g171 71) (g171 74) (g171 75) (g171 78) (g171 79) (g171 80) (S 27) (S 1100007) (S 1100023) (S 1100024) (S 1046 0) ((S 1046 0) + 2 * (S 1032 0)) (g171 1127 0) ∧ 465000 ≤ (g171 1127 0) ∧ (g171 1127 0) + sm_hs (g171 71) (S 1100007) ≤ 635000 ∧ (g171 75 639) = 647340 ∧ sm_DR (g171 72) (g171 71) (S 1046 0) ∧ 0 ≤ sm_pl (g171 81) (g171 82) (g171 83) (g171 84) (g171 85) (g171 86) ∧ 0 ≤ sm_cm (g171 71) ∧ 0 ≤ sm_du (g171 72)) → (0 ≤ (641 * (sm_cm (g171 71) + sm_pt (g171 68) (g171 69) (g171 70) + sm_pl (g171 81) (g171 82) (g171 83) (g171 84) (g171 85) (g171 86) + sm_ps (g171 76) (g171 77)) + sm_du (g171 72)) + l1_172) ∧ (((l1_172 = (0 : Int)) → ((0 ≤ (0 : Int) ∧ (0 : Int) ≤ (S 1046 0) ∧ 0 ≤ (0 : Int) ∧ (0 : Int) ≤ (0 : Int)) ∧ (∀ l2_181 : Int, sv_R l2_181 → ∀ g180 : sv_S, (0 ≤ l2_181 ∧ l2_181 ≤ (S 1046 0) ∧ 0 ≤ (g180 1120 0) ∧ (g180 1120 0) ≤ l2_181) → (0 ≤ (S 1046 0) - l2_181) ∧ ((((S 1046 0) ≤ l2_181) → (sv_R (g180 1120 0) → (True ∧ ((1 : Int) = 1 → (S 1119 0) = 1 ∨ ((S 1072 0) = 1 ∧ sm_ST (g171 71) (g171 74) (g171 75) (g171 78) (g171 79) (g171 80) (S 27) (S 1100007) (S 1100023) (S 1100024) (S 1046 0) ((S 1046 0) + 2 * (S 1032 0)) (g171 1127 0) ∧ 465000 ≤ (g171 1127 0) ∧ (g171 1127 0) + sm_hs (g171 71) (S 1100007) ≤ 635000 ∧ (g171 75 639) = 647340 ∧ sm_DR (g171 72) (g171 71) (S 1046 0)))))) ∧ ((¬ ((S 1046 0) ≤ l2_181)) → (sv_R (g180 1120 0) → (0 ≤ l2_181 ∧ l2_181 < 640) ∧ ((0 ≤ (g171 71 l2_181) ∧ (g171 71 l2_181) ≤ 1) → ((((g171 71 l2_181) = (0 : Int)) → (sv_R ((g180 1120 0) + (0 : Int))) ∧ (sv_R (l2_181 + (1 : Int))) ∧ ((0 ≤ (l2_181 + (1 : Int)) ∧ (l2_181 + (1 : Int)) ≤ (S 1046 0) ∧ 0 ≤ ((g180 1120 0) + (0 : Int)) ∧ ((g180 1120 0) + (0 : Int)) ≤ (l2_181 + (1 : Int))) ∧ ((S 1046 0) - (l2_181 + (1 : Int))) < ((S 1046 0) - l2_181))) ∧ ((¬ ((g171 71 l2_181) = (0 : Int))) → (sv_R ((g180 1120 0) + (1 : Int))) ∧ (sv_R (l2_181 + (1 : Int))) ∧ ((0 ≤ (l2_181 + (1 : Int)) ∧ (l2_181 + (1 : Int)) ≤ (S 1046 0) ∧ 0 ≤ ((g180 1120 0) + (1 : Int)) ∧ ((g180 1120 0) + (1 : Int)) ≤ (l2_181 + (1 : Int))) ∧ ((S 1046 0) - (l2_181 + (1 : Int))) < ((S 1046 0) - l2_181))))))))))) ∧ ((¬ (l1_172 = (0 : Int))) → ((((0 : Int) = 0 ∨ (0 : Int) = 1) ∧ 0 ≤ (0 : Int) ∧ (0 : Int) ≤ (S 1046 0) ∧ sm_ST (g171 71) (g171 74) (g171 75) (g171 78) (g171 79) (g171 80) (S 27) (S 1100007) (S 1100023) (S 1100024) (S 1046 0) ((S 1046 0) + 2 * (S 1032 0)) (g171 1127 0) ∧ 465000 ≤ (g171 1127 0) ∧ (g171 1127 0) + sm_hs (g171 71) (S 1100007) ≤ 635000 ∧ (g171 75 639) = 647340 ∧ sm_DR (g171 72) (g171 71) (S 1046 0) ∧ 0 ≤ sm_pl (g171 81) (g171 82) (g171 83) (g171 84) (g171 85) (g171 86) ∧ 0 ≤ sm_cm (g171 71) ∧ 0 ≤ sm_du (g171 72) ∧ (641 * (sm_cm (g171 71) + sm_pt (g171 68) (g171 69) (g171 70) + sm_pl (g171 81) (g171 82) (g171 83) (g171 84) (g171 85) (g171 86) + sm_ps (g171 76) (g171 77)) + sm_du (g171 72)) + (0 : Int) ≤ (641 * (sm_cm (g171 71) + sm_pt (g171 68) (g171 69) (g171 70) + sm_pl (g171 81) (g171 82) (g171 83) (g171 84) (g171 85) (g171 86) + sm_ps (g171 76) (g171 77)) + sm_du (g171 72))) ∧ (∀ l1_204 : Int, sv_R l1_204 → ∀ l2_205 : Int, sv_R l2_205 → ∀ g203 : sv_S, ((l1_204 = 0 ∨ l1_204 = 1) ∧ 0 ≤ l2_205 ∧ l2_205 ≤ (S 1046 0) ∧ sm_ST (g203 71) (g203 74) (g203 75) (g203 78) (g203 79) (g203 80) (S 27) (S 1100007) (S 1100023) (S 1100024) (S 1046 0) ((S 1046 0) + 2 * (S 1032 0)) (g203 1127 0) ∧ 465000 ≤ (g203 1127 0) ∧ (g203 1127 0) + sm_hs (g203 71) (S 1100007) ≤ 635000 ∧ (g203 75 639) = 647340 ∧ sm_DR (g203 72) (g203 71) (S 1046 0) ∧ 0 ≤ sm_pl (g203 81) (g203 82) (g203 83) (g203 84) (g203 85) (g203 86) ∧ 0 ≤ sm_cm (g203 71) ∧ 0 ≤ sm_du (g203 72) ∧ (641 * (sm_cm (g203 71) + sm_pt (g203 68) (g203 69) (g203 70) + sm_pl (g203 81) (g203 82) (g203 83) (g203 84) (g203 85) (g203 86) + sm_ps (g203 76) (g203 77)) + sm_du (g203 72)) + l1_204 ≤ (641 * (sm_cm (g171 71) + sm_pt (g171 68) (g171 69) (g171 70) + sm_pl (g171 81) (g171 82) (g171 83) (g171 84) (g171 85) (g171 86) + sm_ps (g171 76) (g171 77)) + sm_du (g171 72))) → (0 ≤ (S 1046 0) - l2_205) ∧ ((((S 1046 0) ≤ l2_205) → (((l1_204 = 0 ∨ l1_204 = 1) ∧ sm_ST (g203 71) (g203 74) (g203 75) (g203 78) (g203 79) (g203 80) (S 27) (S 1100007) (S 1100023) (S 1100024) (S 1046 0) ((S 1046 0) + 2 * (S 1032 0)) (g203 1127 0) ∧ 465000 ≤ (g203 1127 0) ∧ (g203 1127 0) + sm_hs (g203 71) (S 1100007) ≤ 635000 ∧ (g203 75 639) = 647340 ∧ sm_DR (g203 72) (g203 71) (S 1046 0) ∧ 0 ≤ sm_pl (g203 81) (g203 82) (g203 83) (g203 84) (g203 85) (g203 86) ∧ 0 ≤ sm_cm (g203 71) ∧ 0 ≤ sm_du (g203 72)) ∧ ((641 * (sm_cm (g203 71) + sm_pt (g203 68) (g203 69) (g203 70) + sm_pl (g203 81) (g203 82) (g203 83) (g203 84) (g203 85) (g203 86) + sm_ps (g203 76) (g203 77)) + sm_du (g203 72)) + l1_204) < ((641 * (sm_cm (g171 71) + sm_pt (g171 68) (g171 69) (g171 70) + sm_pl (g171 81) (g171 82) (g171 83) (g171 84) (g171 85) (g171 86) + sm_ps (g171 76) (g171 77)) + sm_du (g171 72)) + l1_172))) ∧ ((¬ ((S 1046 0) ≤ l2_205)) → (0 ≤ l2_205 ∧ l2_205 < 640) ∧ ((0 ≤ (g203 72 l2_205) ∧ (g203 72 l2_205) ≤ 1) → (((¬ (g203 72 l2_205) = (0 : Int)) → ((sm_DR (g203 72) (g203 71) (S 1046 0) → 0 ≤ l2_205 → l2_205 < (S 1046 0) → (g203 72 l2_205) = 1 → (g203 71 l2_205) = 1) → ((0 ≤ sm_cm (g203 71)) → ((0 ≤ sm_cm (g203 71)) → (29 ≤ (S 1071 0) ∧ (S 1071 0) ≤ 127 ∧ 31 ≤ (S 1008 0) ∧ (S 1008 0) ≤ 90 ∧ 1 ≤ (S 1032 0) ∧ (S 1032 0) ≤ 11 ∧ 0 ≤ (S 1055 0) ∧ (S 1055 0) ≤ 19 ∧ (S 1071 0) = 29 + 6 * ((S 1032 0) - 1) + 2 * (S 1055 0) ∧ 0 ≤ (S 1046 0) ∧ (S 1046 0) + 2 * (S 1032 0) ≤ 500 ∧ sm_PD (S 1046 0) (S 1032 0) (S 1071 0) (S 1008 0) ∧ 0 ≤ (S 1071 0) * ((S 1008 0) + 1) ∧ (S 1071 0) * ((S 1008 0) + 1) ≤ 11557 ∧ 31 ≤ (S 1007 0) ∧ (S 1007 0) ≤ 400 ∧ sm_LN (S 4) 400 (S 1007 0) ∧ (g203 75 639) = 647340 ∧ sm_ST (g203 71) (g203 74) (g203 75) (g203 78) (g203 79) (g203 80) (S 27) (S 1100007) (S 1100023) (S 1100024) (S 1046 0) ((S 1046 0) + 2 * (S 1032 0)) (g203 1127 0) ∧ 465000 ≤ (g203 1127 0) ∧ (g203 1127 0) + sm_hs (g203 71) (S 1100007) ≤ 635000 ∧ sm_NH (S 1100007) ∧ sm_CT (S 26) (S 27) (S 28) (S 29) (S 1100007) (S 1100023) (S 1100024) (S 1100025) (S 21) (S 1046 0) (S 1032 0) (S 1008 0) (S 1055 0) ∧ (∀ k : Int, (S 1046 0) ≤ k → k < ((S 1046 0) + 2 * (S 1032 0)) → (S 1100007 k) = 1) ∧ sm_DR (fun i' : Int => if i' = l2_205 then (0 : Int) else (g203 72) i') (g203 71) (S 1046 0) ∧ (∀ g : Int, 0 ≤ g → g < (S 1032 0) → 0 ≤ (S 30 g) ∧ (S 30 g) < (S 1046 0) ∧ (S 1100007 (S 30 g)) = 0 ∧ (S 1100023 (S 30 g)) = -1 ∧ 0 ≤ (S 33 g) ∧ (S 33 g) ≤ 100 ∧ 0 ≤ (S 20 g) ∧ (S 20 g) ≤ 8) ∧ sm_VN (S 32) (S 33) (S 1032 0) (S 1008 0) ∧ 0 ≤ l2_205 ∧ l2_205 < (S 1046 0) ∧ (g203 71 l2_205) = 1) ∧ (∀ g222 : sv_S, (sm_ST (g222 71) (g222 74) (g222 75) (g222 78) (g222 79) (g222 80) (S 27) (S 1100007) (S 1100023) (S 1100024) (S 1046 0) ((S 1046 0) + 2 * (S 1032 0)) (g222 1127 0) ∧ 465000 ≤ (g222 1127 0) ∧ (g222 1127 0) + sm_hs (g222 71) (S 1100007) ≤ 635000 ∧ (g222 75 639) = 647340 ∧ (∀ k : Int, (g203 71 k) = 1 → (g222 71 k) = 1) ∧ sm_DR (g222 72) (g222 71) (S 1046 0) ∧ (641 * (sm_cm (g222 71) + sm_pt (g222 68) (g222 69) (g222 70) + sm_pl (g222 81) (g222 82) (g222 83) (g222 84) (g222 85) (g222 86) + sm_ps (g222 76) (g222 77)) + sm_du (g222 72)) ≤ (641 * (sm_cm (g203 71) + sm_pt (g203 68) (g203 69) (g203 70) + sm_pl (g203 81) (g203 82) (g203 83) (g203 84) (g203 85) (g203 86) + sm_ps (g203 76) (g203 77)) + sm_du (fun i' : Int => if i' = l2_205 then (0 : Int) else (g203 72) i'))) → ((0 ≤ sm_pl (g222 81) (g222 82) (g222 83) (g222 84) (g222 85) (g222 86) ∧ sm_pl (g222 81) (g222 82) (g222 83) (g222 84) (g222 85) (g222 86) ≤ 3870000) → ((0 ≤ sm_cm (g222 71)) → ((0 ≤ sm_du (g222 72) ∧ sm_du (g222 72) ≤ 640) → (sv_R (l2_205 + (1 : Int))) ∧ ((((1 : Int) = 0 ∨ (1 : Int) = 1) ∧ 0 ≤ (l2_205 + (1 : Int)) ∧ (l2_205 + (1 : Int)) ≤ (S 1046 0) ∧ sm_ST (g222 71) (g222 74) (g222 75) (g222 78) (g222 79) (g222 80) (S 27) (S 1100007) (S 1100023) (S 1100024) (S 1046 0) ((S 1046 0) + 2 * (S 1032 0)) (g222 1127 0) ∧ 465000 ≤ (g222 1127 0) ∧ (g222 1127 0) + sm_hs (g222 71) (S 1100007) ≤ 635000 ∧ (g222 75 639) = 647340 ∧ sm_DR (g222 72) (g222 71) (S 1046 0) ∧ 0 ≤ sm_pl (g222 81) (g222 82) (g222 83) (g222 84) (g222 85) (g222 86) ∧ 0 ≤ sm_cm (g222 71) ∧ 0 ≤ sm_du (g222 72) ∧ (641 * (sm_cm (g222 71) + sm_pt (g222 68) (g222 69) (g222 70) + sm_pl (g222 81) (g222 82) (g222 83) (g222 84) (g222 85) (g222 86) + sm_ps (g222 76) (g222 77)) + sm_du (g222 72)) + (1 : Int) ≤ (641 * (sm_cm (g171 71) + sm_pt (g171 68) (g171 69) (g171 70) + sm_pl (g171 81) (g171 82) (g171 83) (g171 84) (g171 85) (g171 86) + sm_ps (g171 76) (g171 77)) + sm_du (g171 72))) ∧ ((S 1046 0) - (l2_205 + (1 : Int))) < ((S 1046 0) - l2_205)))))))))) ∧ ((¬ (¬ (g203 72 l2_205) = (0 : Int))) → ((0 ≤ sm_pl (g203 81) (g203 82) (g203 83) (g203 84) (g203 85) (g203 86) ∧ sm_pl (g203 81) (g203 82) (g203 83) (g203 84) (g203 85) (g203 86) ≤ 3870000) → ((0 ≤ sm_cm (g203 71)) → ((0 ≤ sm_du (g203 72) ∧ sm_du (g203 72) ≤ 640) → (sv_R (l2_205 + (1 : Int))) ∧ (((l1_204 = 0 ∨ l1_204 = 1) ∧ 0 ≤ (l2_205 + (1 : Int)) ∧ (l2_205 + (1 : Int)) ≤ (S 1046 0) ∧ sm_ST (g203 71) (g203 74) (g203 75) (g203 78) (g203 79) (g203 80) (S 27) (S 1100007) (S 1100023) (S 1100024) (S 1046 0) ((S 1046 0) + 2 * (S 1032 0)) (g203 1127 0) ∧ 465000 ≤ (g203 1127 0) ∧ (g203 1127 0) + sm_hs (g203 71) (S 1100007) ≤ 635000 ∧ (g203 75 639) = 647340 ∧ sm_DR (g203 72) (g203 71) (S 1046 0) ∧ 0 ≤ sm_pl (g203 81) (g203 82) (g203 83) (g203 84) (g203 85) (g203 86) ∧ 0 ≤ sm_cm (g203 71) ∧ 0 ≤ sm_du (g203 72) ∧ (641 * (sm_cm (g203 71) + sm_pt (g203 68) (g203 69) (g203 70) + sm_pl (g203 81) (g203 82) (g203 83) (g203 84) (g203 85) (g203 86) + sm_ps (g203 76) (g203 77)) + sm_du (g203 72)) + l1_204 ≤ (641 * (sm_cm (g171 71) + sm_pt (g171 68) (g171 69) (g171 70) + sm_pl (g171 81) (g171 82) (g171 83) (g171 84) (g171 85) (g171 86) + sm_ps (g171 76) (g171 77)) + sm_du (g171 72))) ∧ ((S 1046 0) - (l2_205 + (1 : Int))) < ((S 1046 0) - l2_205)))))))))))))))))))))))))) ∧ ((¬ (((S 1046 0) + ((2 : Int) * (S 1032 0))) ≤ l1_139)) → (0 ≤ l1_139 ∧ l1_139 < 640) ∧ (sv_R (l1_139 + (1 : Int))) ∧ ((0 ≤ (l1_139 + (1 : Int)) ∧ (l1_139 + (1 : Int)) ≤ ((S 1046 0) + ((2 : Int) * (S 1032 0))) ∧ (∀ k : Int, 0 ≤ k → k < (l1_139 + (1 : Int)) → (if k = l1_139 then (0 : Int) else (g138 71 k)) = 0) ∧ (∀ k : Int, 0 ≤ k → k < (l1_139 + (1 : Int)) → (if k = l1_139 then (0 : Int) else (g138 72 k)) = 0)) ∧ (((S 1046 0) + ((2 : Int) * (S 1032 0))) - (l1_139 + (1 : Int))) < (((S 1046 0) + ((2 : Int) * (S 1032 0))) - l1_139)))))))))) ∧ ((¬ ((S 1119 0) = (0 : Int))) → (sv_R (S 1120 0) → (True ∧ ((S 1119 0) = 1 → (S 1119 0) = 1 ∨ ((S 1072 0) = 1 ∧ sm_ST (S 71) (S 74) (S 75) (S 78) (S 79) (S 80) (S 27) (S 1100007) (S 1100023) (S 1100024) (S 1046 0) ((S 1046 0) + 2 * (S 1032 0)) (S 1127 0) ∧ 465000 ≤ (S 1127 0) ∧ (S 1127 0) + sm_hs (S 71) (S 1100007) ≤ 635000 ∧ (S 75 639) = 647340 ∧ sm_DR (S 72) (S 71) (S 1046 0))))))))) ∧ ((¬ ((0 : Int) ≤ (0 : Int))) → (True ∧ ((S 1119 0) = 1 → (S 1119 0) = 1 ∨ ((S 1072 0) = 1 ∧ sm_ST (S 71) (S 74) (S 75) (S 78) (S 79) (S 80) (S 27) (S 1100007) (S 1100023) (S 1100024) (S 1046 0) ((S 1046 0) + 2 * (S 1032 0)) (S 1127 0) ∧ 465000 ≤ (S 1127 0) ∧ (S 1127 0) + sm_hs (S 71) (S 1100007) ≤ 635000 ∧ (S 75 639) = 647340 ∧ sm_DR (S 72) (S 71) (S 1046 0))))))))) := by
  intro S
  intro h1_
  intro h2_
  rintro ⟨h3_, h4_⟩
  refine ⟨?_, ?_⟩
  · skip
    intro h5_
    refine ⟨?_, ?_⟩
    · skip
      intro h6_
      rintro ⟨h7_, h8_⟩
      refine ⟨?_, ?_⟩
      · skip
        intro h9_
        refine ⟨?_, ?_⟩
        · skip
          refine ⟨(la_solve_1 h6_), ?_⟩
          refine ⟨(la_solve_2 h6_), ?_⟩
          refine ⟨(la_solve_3 h6_), ?_⟩
          refine ⟨(la_solve_4 h6_), ?_⟩
          refine ⟨(la_solve_5 h6_), ?_⟩
          refine ⟨(la_solve_6 h6_), ?_⟩
          refine ⟨(la_solve_7 h6_), ?_⟩
          refine ⟨(la_solve_8 h6_), ?_⟩
          refine ⟨(la_solve_9 h6_), ?_⟩
          refine ⟨(la_solve_7 h6_), ?_⟩
          refine ⟨(la_solve_10 h6_), ?_⟩
          refine ⟨?_, ?_⟩
          · skip
            exact ((la_solve_11 h6_)).elim
          refine ⟨(la_solve_7 h6_), ?_⟩
          refine ⟨(la_solve_12 h6_), ?_⟩
          refine ⟨(la_solve_3 h6_), ?_⟩
          refine ⟨(la_solve_13 h6_), ?_⟩
          refine ⟨?_, ?_⟩
          · skip
            exact ((la_solve_11 h6_)).elim
          exact ((la_solve_11 h6_)).elim
        intro g6
        intro _
        intro h10_
        intro h11_
        refine ⟨(la_solve_14 h6_), ?_⟩
        refine ⟨?_, ?_⟩
        · skip
          refine ⟨la_solve_15, ?_⟩
          refine ⟨(la_solve_16 h6_), ?_⟩
          refine ⟨?_, ?_⟩
          · skip
            intro k
            intro h12_
            intro h13_
            exact (la_solve_17 h6_)
          intro kv1
          intro h14_
          intro h15_
          exact (la_solve_17 h6_)
        intro l1_17
        intro h16_
        intro g16
        rintro ⟨h17_, ⟨h18_, ⟨h19_, h20_⟩⟩⟩
        refine ⟨(la_solve_18 h6_), ?_⟩
        refine ⟨?_, ?_⟩
        · skip
          intro h21_
          intro h22_
          have h25_ : (∀ k : Int, 0 ≤ k → k < S 1046 0 + 2 * S 1032 0 → g16 71 k = 0) := by
            intro kv2
            intro h23_
            intro h24_
            exact (la_solve_17 h6_)
          have h26_ := (h22_ h25_)
          intro h27_
          intro h28_
          have h31_ : (∀ k : Int, 0 ≤ k → k < S 1046 0 → g16 72 k = 0) := by
            intro kv3
            intro h29_
            intro h30_
            exact (la_solve_17 h6_)
          have h32_ := (h28_ h31_)
          refine ⟨la_solve_19, ?_⟩
          refine ⟨?_, ?_⟩
          · skip
            refine ⟨(la_solve_1 h6_), ?_⟩
            refine ⟨(la_solve_2 h6_), ?_⟩
            refine ⟨(la_solve_3 h6_), ?_⟩
            refine ⟨(la_solve_4 h6_), ?_⟩
            refine ⟨(la_solve_5 h6_), ?_⟩
            refine ⟨(la_solve_6 h6_), ?_⟩
            refine ⟨(la_solve_7 h6_), ?_⟩
            refine ⟨(la_solve_8 h6_), ?_⟩
            refine ⟨(la_solve_9 h6_), ?_⟩
            refine ⟨(la_solve_7 h6_), ?_⟩
            refine ⟨(la_solve_10 h6_), ?_⟩
            refine ⟨?_, ?_⟩
            · skip
              exact ((la_solve_11 h6_)).elim
            refine ⟨(la_solve_7 h6_), ?_⟩
            refine ⟨(la_solve_12 h6_), ?_⟩
            refine ⟨(la_solve_3 h6_), ?_⟩
            refine ⟨(la_solve_13 h6_), ?_⟩
            exact ((la_solve_11 h6_)).elim
          intro g32
          rintro ⟨h33_, ⟨h34_, ⟨h35_, h36_⟩⟩⟩
          intro h37_
          refine ⟨?_, ?_⟩
          · skip
            refine ⟨(la_solve_1 h6_), ?_⟩
            refine ⟨(la_solve_2 h6_), ?_⟩
            refine ⟨(la_solve_3 h6_), ?_⟩
            refine ⟨(la_solve_4 h6_), ?_⟩
            refine ⟨(la_solve_5 h6_), ?_⟩
            refine ⟨(la_solve_6 h6_), ?_⟩
            refine ⟨(la_solve_7 h6_), ?_⟩
            refine ⟨(la_solve_8 h6_), ?_⟩
            refine ⟨(la_solve_9 h6_), ?_⟩
            refine ⟨(la_solve_7 h6_), ?_⟩
            refine ⟨(la_solve_10 h6_), ?_⟩
            refine ⟨?_, ?_⟩
            · skip
              exact ((la_solve_11 h6_)).elim
            refine ⟨(la_solve_7 h6_), ?_⟩
            refine ⟨(la_solve_12 h6_), ?_⟩
            refine ⟨(la_solve_3 h6_), ?_⟩
            refine ⟨(la_solve_13 h6_), ?_⟩
            refine ⟨?_, ?_⟩
            · skip
              exact ((la_solve_11 h6_)).elim
            refine ⟨(la_solve_21 h6_), ?_⟩
            refine ⟨(sm_ST_F h26_ (la_solve_22 h6_) (sm_F1_le h35_ (Int.le_refl _)) (sm_F1_up sm_F1_rf (Int.le_refl _)) (sm_F1_le h36_ (Int.le_refl _)) sm_F1_rf sm_F1_rf), ?_⟩
            refine ⟨la_solve_23, ?_⟩
            refine ⟨(la_solve_24 h6_), ?_⟩
            refine ⟨?_, ?_⟩
            · skip
              exact ((la_solve_11 h6_)).elim
            refine ⟨?_, ?_⟩
            · skip
              exact ((la_solve_11 h6_)).elim
            refine ⟨?_, ?_⟩
            · skip
              intro kv4
              intro h38_
              intro h39_
              exact (la_solve_25 h6_)
            refine ⟨h32_, ?_⟩
            refine ⟨(la_solve_7 h6_), ?_⟩
            refine ⟨(la_solve_13 h6_), ?_⟩
            refine ⟨(la_solve_7 h6_), ?_⟩
            refine ⟨(la_solve_26 h6_), ?_⟩
            refine ⟨(la_solve_27 h6_), ?_⟩
            refine ⟨la_solve_28, ?_⟩
            refine ⟨(la_solve_29 h6_), ?_⟩
            refine ⟨la_solve_30, ?_⟩
            refine ⟨(sm_TC_0 la_solve_31), ?_⟩
            refine ⟨la_solve_15, ?_⟩
            refine ⟨(la_solve_32 h6_), ?_⟩
            refine ⟨(la_solve_27 h6_), ?_⟩
            intro h40_
            exact (la_solve_33 h6_)
          intro g41
          rintro ⟨h41_, ⟨h42_, ⟨h43_, ⟨h44_, ⟨h45_, ⟨h46_, ⟨h47_, ⟨h48_, ⟨h49_, ⟨h50_, h51_⟩⟩⟩⟩⟩⟩⟩⟩⟩⟩
          rintro ⟨h52_, h53_⟩
          intro h54_
          rintro ⟨h55_, h56_⟩
          refine ⟨⟨la_solve_34, ⟨h41_, ⟨h42_, ⟨h43_, ⟨h44_, ⟨h49_, (la_solve_35 h6_)⟩⟩⟩⟩⟩⟩, ?_⟩
          intro l1_50
          intro h57_
          intro g49
          rintro ⟨h58_, ⟨h59_, ⟨h60_, ⟨h61_, ⟨h62_, ⟨h63_, ⟨h64_, ⟨h65_, h66_⟩⟩⟩⟩⟩⟩⟩⟩
          have h67_ := (h58_.resolve_left (la_solve_36 h6_))
          refine ⟨(la_solve_37 h6_), ?_⟩
          refine ⟨?_, ?_⟩
          · skip
            intro h68_
            refine ⟨(la_solve_38 h6_), ?_⟩
            intro l2_59
            intro h69_
            intro g58
            rintro ⟨h70_, ⟨h71_, ⟨h72_, h73_⟩⟩⟩
            refine ⟨(la_solve_39 h6_), ?_⟩
            refine ⟨?_, ?_⟩
            · skip
              intro h74_
              intro h75_
              refine ⟨trivial, ?_⟩
              intro h76_
              exact (Or.inl (la_solve_25 h6_))
            intro h77_
            intro h78_
            refine ⟨(la_solve_40 h6_), ?_⟩
            rintro ⟨h79_, h80_⟩
            refine ⟨(la_solve_41 h6_), ?_⟩
            intro h81_
            refine ⟨(la_solve_44 h6_), ?_⟩
            refine ⟨(la_solve_44 h6_), ?_⟩
            refine ⟨(la_solve_45 h6_), ?_⟩
            exact la_solve_46
          intro h82_
          refine ⟨⟨la_solve_47, ⟨la_solve_15, ⟨(la_solve_7 h6_), ⟨h59_, ⟨h60_, ⟨h61_, ⟨h62_, ⟨h63_, (la_solve_48 h6_)⟩⟩⟩⟩⟩⟩⟩⟩, ?_⟩
          intro l1_82
          intro h83_
          intro l2_83
          intro h84_
          intro g81
          rintro ⟨h85_, ⟨h86_, ⟨h87_, ⟨h88_, ⟨h89_, ⟨h90_, ⟨h91_, ⟨h92_, ⟨h93_, ⟨h94_, ⟨h95_, h96_⟩⟩⟩⟩⟩⟩⟩⟩⟩⟩⟩
          have h97_ := (h85_.resolve_left (la_solve_36 h6_))
          refine ⟨(la_solve_39 h6_), ?_⟩
          refine ⟨?_, ?_⟩
          · skip
            intro h98_
            refine ⟨⟨h85_, ⟨h88_, ⟨h89_, ⟨h90_, ⟨h91_, ⟨h92_, (la_solve_35 h6_)⟩⟩⟩⟩⟩⟩, ?_⟩
            exact (la_solve_49 h6_)
          intro h99_
          refine ⟨(la_solve_40 h6_), ?_⟩
          rintro ⟨h100_, h101_⟩
          refine ⟨?_, ?_⟩
          · skip
            intro h102_
            intro h103_
            have h104_ := (h103_ h92_)
            have h105_ := (h104_ h86_)
            have h106_ := (h105_ (la_solve_50 h6_))
            have h107_ := (h106_ (la_solve_25 h6_))
            intro h108_
            intro h109_
            refine ⟨?_, ?_⟩
            · skip
              refine ⟨(la_solve_1 h6_), ?_⟩
              refine ⟨(la_solve_2 h6_), ?_⟩
              refine ⟨(la_solve_3 h6_), ?_⟩
              refine ⟨(la_solve_4 h6_), ?_⟩
              refine ⟨(la_solve_5 h6_), ?_⟩
              refine ⟨(la_solve_6 h6_), ?_⟩
              refine ⟨(la_solve_7 h6_), ?_⟩
              refine ⟨(la_solve_8 h6_), ?_⟩
              refine ⟨(la_solve_9 h6_), ?_⟩
              refine ⟨(la_solve_7 h6_), ?_⟩
              refine ⟨(la_solve_10 h6_), ?_⟩
              refine ⟨?_, ?_⟩
              · skip
                have h110_ := ((h48_ 0) (la_solve_25 h6_))
                exact ((la_solve_11 h6_)).elim
              refine ⟨(la_solve_7 h6_), ?_⟩
              refine ⟨(la_solve_12 h6_), ?_⟩
              refine ⟨(la_solve_3 h6_), ?_⟩
              refine ⟨(la_solve_13 h6_), ?_⟩
              refine ⟨?_, ?_⟩
              · skip
                have h111_ := ((h48_ 0) (la_solve_25 h6_))
                exact ((la_solve_11 h6_)).elim
              refine ⟨h91_, ?_⟩
              refine ⟨h88_, ?_⟩
              refine ⟨h89_, ?_⟩
              refine ⟨h90_, ?_⟩
              refine ⟨?_, ?_⟩
              · skip
                have h112_ := ((h48_ 0) (la_solve_25 h6_))
                exact ((la_solve_11 h6_)).elim
              refine ⟨?_, ?_⟩
              · skip
                have h113_ := ((h48_ 0) (la_solve_25 h6_))
                exact ((la_solve_11 h6_)).elim
              refine ⟨?_, ?_⟩
              · skip
                intro kv5
                intro h114_
                intro h115_
                exact (la_solve_25 h6_)
              refine ⟨(sm_DR_d h92_ (Or.inl rfl)), ?_⟩
              refine ⟨?_, ?_⟩
              · skip
                intro g
                intro h116_
                intro h117_
                refine ⟨(la_solve_7 h6_), ?_⟩
                refine ⟨(la_solve_50 h6_), ?_⟩
                refine ⟨(la_solve_17 h6_), ?_⟩
                refine ⟨(la_solve_33 h6_), ?_⟩
                refine ⟨(la_solve_7 h6_), ?_⟩
                refine ⟨(la_solve_51 h6_), ?_⟩
                refine ⟨(la_solve_7 h6_), ?_⟩
                exact (la_solve_52 h6_)
              refine ⟨?_, ?_⟩
              · skip
                have h118_ := ((h48_ 0) (la_solve_25 h6_))
                exact ((la_solve_11 h6_)).elim
              refine ⟨h86_, ?_⟩
              refine ⟨(la_solve_50 h6_), ?_⟩
              exact h107_
            intro g100
            rintro ⟨h119_, ⟨h120_, ⟨h121_, ⟨h122_, ⟨h123_, ⟨h124_, h125_⟩⟩⟩⟩⟩⟩
            rintro ⟨h126_, h127_⟩
            intro h128_
            rintro ⟨h129_, h130_⟩
            refine ⟨(la_solve_44 h6_), ?_⟩
            refine ⟨⟨la_solve_34, ⟨(la_solve_53 h6_), ⟨(la_solve_54 h6_), ⟨h119_, ⟨h120_, ⟨h121_, ⟨h122_, ⟨h124_, (la_solve_55 h6_)⟩⟩⟩⟩⟩⟩⟩⟩, ?_⟩
            exact la_solve_46
          intro h131_
          rintro ⟨h132_, h133_⟩
          intro h134_
          rintro ⟨h135_, h136_⟩
          refine ⟨(la_solve_44 h6_), ?_⟩
          refine ⟨⟨h85_, ⟨(la_solve_53 h6_), ⟨(la_solve_54 h6_), ⟨h88_, ⟨h89_, ⟨h90_, ⟨h91_, ⟨h92_, (la_solve_56 h6_)⟩⟩⟩⟩⟩⟩⟩⟩, ?_⟩
          exact la_solve_46
        intro h137_
        refine ⟨(la_solve_40 h6_), ?_⟩
        refine ⟨(la_solve_44 h6_), ?_⟩
        refine ⟨?_, ?_⟩
        · skip
          refine ⟨(la_solve_53 h6_), ?_⟩
          refine ⟨(la_solve_57 h6_), ?_⟩
          refine ⟨?_, ?_⟩
          · skip
            intro kv6
            intro h138_
            intro h139_
            exact (la_solve_17 h6_)
          intro kv7
          intro h140_
          intro h141_
          exact (la_solve_17 h6_)
        exact la_solve_58
      intro h142_
      intro h143_
      refine ⟨trivial, ?_⟩
      intro h144_
      exact (Or.inl h144_)
    intro h145_
    refine ⟨trivial, ?_⟩
    intro h146_
    exact (Or.inl h146_)
  intro h147_
  obtain ⟨h148_, ⟨h149_, ⟨h150_, ⟨h151_, ⟨h152_, ⟨h153_, ⟨h154_, ⟨h155_, ⟨h156_, ⟨h157_, ⟨h158_, ⟨h159_, ⟨h160_, ⟨h161_, ⟨h162_, ⟨h163_, ⟨h164_, ⟨h165_, ⟨h166_, ⟨h167_, ⟨h168_, ⟨h169_, ⟨h170_, h171_⟩⟩⟩⟩⟩⟩⟩⟩⟩⟩⟩⟩⟩⟩⟩⟩⟩⟩⟩⟩⟩⟩⟩ := (h2_ (la_solve_60 h4_ (la_solve_59 h3_ h147_)))
  refine ⟨?_, ?_⟩
  · skip
    intro h172_
    rintro ⟨h173_, h174_⟩
    refine ⟨?_, ?_⟩
    · skip
      intro h175_
      refine ⟨⟨h148_, ⟨h149_, ⟨h150_, ⟨h151_, ⟨h152_, ⟨h153_, ⟨h154_, ⟨h155_, ⟨h156_, ⟨h157_, ⟨h158_, ⟨h159_, ⟨h160_, ⟨h161_, ⟨h162_, ⟨h163_, ⟨h164_, h166_⟩⟩⟩⟩⟩⟩⟩⟩⟩⟩⟩⟩⟩⟩⟩⟩⟩, ?_⟩
      intro g128
      intro _
      intro h176_
      intro h177_
      refine ⟨(la_solve_61 h152_ h157_ h158_), ?_⟩
      refine ⟨?_, ?_⟩
      · skip
        refine ⟨h172_, ?_⟩
        refine ⟨(la_solve_62 h152_ h157_), ?_⟩
        refine ⟨?_, ?_⟩
        · skip
          intro kv8
          intro h178_
          intro h179_
          obtain ⟨h180_, ⟨h181_, ⟨h182_, ⟨h183_, ⟨h184_, ⟨h185_, ⟨h186_, h187_⟩⟩⟩⟩⟩⟩⟩ := (((h168_ 0) h172_) (la_solve_63 h152_))
          have h188_ := (h167_ (S 30 0))
          exact ((la_solve_65 h178_ h179_)).elim
        intro kv9
        intro h189_
        intro h190_
        obtain ⟨h191_, ⟨h192_, ⟨h193_, ⟨h194_, ⟨h195_, ⟨h196_, ⟨h197_, h198_⟩⟩⟩⟩⟩⟩⟩ := (((h168_ 0) h172_) (la_solve_63 h152_))
        have h199_ := (h167_ (S 30 0))
        exact ((la_solve_65 h189_ h190_)).elim
      intro l1_139
      intro h200_
      intro g138
      rintro ⟨h201_, ⟨h202_, ⟨h203_, h204_⟩⟩⟩
      refine ⟨(la_solve_66 h202_), ?_⟩
      refine ⟨?_, ?_⟩
      · skip
        intro h205_
        intro h206_
        have h219_ : (∀ k : Int, 0 ≤ k → k < S 1046 0 + 2 * S 1032 0 → g138 71 k = 0) := by
          intro kv10
          intro h207_
          intro h208_
          obtain ⟨h209_, ⟨h210_, ⟨h211_, ⟨h212_, ⟨h213_, ⟨h214_, ⟨h215_, h216_⟩⟩⟩⟩⟩⟩⟩ := (((h168_ 0) h172_) (la_solve_63 h152_))
          have h217_ := (((h203_ kv10) h207_) (la_solve_67 h205_ h208_))
          have h218_ := (h167_ (S 30 0))
          exact h217_
        have h220_ := (h206_ h219_)
        intro h221_
        have h222_ := (h221_ h165_)
        intro h223_
        have h236_ : (∀ k : Int, 0 ≤ k → k < S 1046 0 → g138 72 k = 0) := by
          intro kv11
          intro h224_
          intro h225_
          obtain ⟨h226_, ⟨h227_, ⟨h228_, ⟨h229_, ⟨h230_, ⟨h231_, ⟨h232_, h233_⟩⟩⟩⟩⟩⟩⟩ := (((h168_ 0) h172_) (la_solve_63 h152_))
          have h234_ := (((h204_ kv11) h224_) (la_solve_68 h152_ h205_ h225_))
          have h235_ := (h167_ (S 30 0))
          exact h234_
        have h237_ := (h223_ h236_)
        refine ⟨la_solve_19, ?_⟩
        refine ⟨⟨h148_, ⟨h149_, ⟨h150_, ⟨h151_, ⟨h152_, ⟨h153_, ⟨h154_, ⟨h155_, ⟨h156_, ⟨h157_, ⟨h158_, ⟨h159_, ⟨h160_, ⟨h161_, ⟨h162_, ⟨h163_, h164_⟩⟩⟩⟩⟩⟩⟩⟩⟩⟩⟩⟩⟩⟩⟩⟩, ?_⟩
        intro g154
        rintro ⟨h238_, ⟨h239_, ⟨h240_, h241_⟩⟩⟩
        intro h242_
        refine ⟨?_, ?_⟩
        · skip
          refine ⟨h148_, ?_⟩
          refine ⟨h149_, ?_⟩
          refine ⟨h150_, ?_⟩
          refine ⟨h151_, ?_⟩
          refine ⟨h152_, ?_⟩
          refine ⟨h153_, ?_⟩
          refine ⟨h154_, ?_⟩
          refine ⟨h155_, ?_⟩
          refine ⟨h156_, ?_⟩
          refine ⟨h157_, ?_⟩
          refine ⟨h158_, ?_⟩
          refine ⟨h159_, ?_⟩
          refine ⟨h160_, ?_⟩
          refine ⟨h161_, ?_⟩
          refine ⟨h162_, ?_⟩
          refine ⟨h163_, ?_⟩
          refine ⟨h164_, ?_⟩
          refine ⟨?_, ?_⟩
          · skip
            obtain ⟨h243_, ⟨h244_, ⟨h245_, ⟨h246_, ⟨h247_, ⟨h248_, ⟨h249_, h250_⟩⟩⟩⟩⟩⟩⟩ := (((h168_ 0) h172_) (la_solve_63 h152_))
            have e251_ : (if (639 : Int) = 639 then 647340 else S 75 639 : Int) = 647340 := if_pos la_solve_69
            have h252_ := (h167_ (S 30 0))
            exact e251_
          refine ⟨(sm_ST_F h220_ (la_solve_70 h158_) (sm_F1_le h240_ (Int.le_refl _)) (sm_F1_up sm_F1_rf (Int.le_refl _)) (sm_F1_le h241_ (Int.le_refl _)) sm_F1_rf sm_F1_rf), ?_⟩
          refine ⟨la_solve_23, ?_⟩
          refine ⟨(la_solve_71 h171_ h222_), ?_⟩
          refine ⟨h165_, ?_⟩
          refine ⟨h166_, ?_⟩
          refine ⟨h167_, ?_⟩
          refine ⟨h237_, ?_⟩
          refine ⟨(la_solve_72 h238_), ?_⟩
          refine ⟨(la_solve_73 h238_), ?_⟩
          refine ⟨(la_solve_72 h239_), ?_⟩
          refine ⟨(la_solve_74 h239_), ?_⟩
          refine ⟨(la_solve_75 h239_ h242_), ?_⟩
          refine ⟨la_solve_28, ?_⟩
          refine ⟨(la_solve_76 h157_), ?_⟩
          refine ⟨la_solve_30, ?_⟩
          refine ⟨(sm_TC_0 la_solve_31), ?_⟩
          refine ⟨h172_, ?_⟩
          refine ⟨(la_solve_77 h152_ h157_), ?_⟩
          refine ⟨?_, ?_⟩
          · skip
            have h253_ := (h167_ 0)
            obtain ⟨h254_, ⟨h255_, ⟨h256_, ⟨h257_, ⟨h258_, ⟨h259_, ⟨h260_, h261_⟩⟩⟩⟩⟩⟩⟩ := (((h168_ 0) h172_) (la_solve_63 h152_))
            have h262_ := (h167_ (S 30 0))
            have e263_ : S 1100007 0 = S 1100007 (S 30 0) := congrArg ((S 1100007)) (la_solve_79 h170_)
            exact (la_solve_80 h238_ h256_ e263_)
          intro h264_
          obtain ⟨h265_, ⟨h266_, ⟨h267_, ⟨h268_, ⟨h269_, ⟨h270_, ⟨h271_, h272_⟩⟩⟩⟩⟩⟩⟩ := (((h168_ 0) h172_) (la_solve_63 h152_))
          have h273_ := (h167_ (S 30 0))
          have e274_ : S 1100023 0 = S 1100023 (S 30 0) := congrArg ((S 1100023)) (la_solve_81 h170_ h265_)
          exact (la_solve_82 h268_ e274_)
        intro g163
        rintro ⟨h275_, ⟨h276_, ⟨h277_, ⟨h278_, ⟨h279_, ⟨h280_, ⟨h281_, ⟨h282_, ⟨h283_, ⟨h284_, h285_⟩⟩⟩⟩⟩⟩⟩⟩⟩⟩
        rintro ⟨h286_, h287_⟩
        intro h288_
        rintro ⟨h289_, h290_⟩
        refine ⟨⟨la_solve_34, ⟨h275_, ⟨h276_, ⟨h277_, ⟨h278_, ⟨h283_, (la_solve_83 h286_ h288_ h289_)⟩⟩⟩⟩⟩⟩, ?_⟩
        intro l1_172
        intro h291_
        intro g171
        rintro ⟨h292_, ⟨h293_, ⟨h294_, ⟨h295_, ⟨h296_, ⟨h297_, ⟨h298_, ⟨h299_, h300_⟩⟩⟩⟩⟩⟩⟩⟩
        refine ⟨?_, ?_⟩
        · skip
          obtain ⟨h301_, ⟨h302_, ⟨h303_, ⟨h304_, ⟨h305_, ⟨h306_, ⟨h307_, h308_⟩⟩⟩⟩⟩⟩⟩ := (((h168_ 0) h172_) (la_solve_63 h152_))
          have h309_ := (h282_ 0)
          have h310_ := (h167_ (S 30 0))
          have h311_ := (((h203_ 0) h172_) (la_solve_84 h152_ h170_ h205_ h302_))
          exact (la_solve_85 h292_ h298_ h299_ h300_ (sm_ps_r (g171 76) (g171 77)).1 (sm_pt_r (g171 68) (g171 69) (g171 70)).1)
        refine ⟨?_, ?_⟩
        · skip
          intro h312_
          have h313_ := (h292_.resolve_right (la_solve_0 h312_))
          refine ⟨(la_solve_86 h157_), ?_⟩
          intro l2_181
          intro h314_
          intro g180
          rintro ⟨h315_, ⟨h316_, ⟨h317_, h318_⟩⟩⟩
          refine ⟨(la_solve_87 h316_), ?_⟩
          refine ⟨?_, ?_⟩
          · skip
            intro h319_
            intro h320_
            refine ⟨trivial, ?_⟩
            intro h321_
            exact (Or.inr ⟨(la_solve_60 h4_ (la_solve_59 h3_ h147_)), ⟨h293_, ⟨h294_, ⟨h295_, ⟨h296_, h297_⟩⟩⟩⟩⟩)
          intro h322_
          intro h323_
          refine ⟨(la_solve_88 h152_ h158_ h315_ h322_), ?_⟩
          rintro ⟨h324_, h325_⟩
          refine ⟨(la_solve_89 h152_ h158_ h176_ h315_ h317_ h318_ h322_), ?_⟩
          intro h326_
          refine ⟨(la_solve_90 h176_ h317_ h318_ h322_), ?_⟩
          refine ⟨(la_solve_91 h152_ h158_ h315_ h322_), ?_⟩
          refine ⟨(la_solve_92 h315_ h317_ h318_ h322_), ?_⟩
          exact la_solve_46
        intro h327_
        have h328_ := (h292_.resolve_left h327_)
        refine ⟨⟨la_solve_47, ⟨h172_, ⟨h157_, ⟨h293_, ⟨h294_, ⟨h295_, ⟨h296_, ⟨h297_, (la_solve_94 h298_ h299_ h300_)⟩⟩⟩⟩⟩⟩⟩⟩, ?_⟩
        intro l1_204
        intro h329_
        intro l2_205
        intro h330_
        intro g203
        rintro ⟨h331_, ⟨h332_, ⟨h333_, ⟨h334_, ⟨h335_, ⟨h336_, ⟨h337_, ⟨h338_, ⟨h339_, ⟨h340_, ⟨h341_, h342_⟩⟩⟩⟩⟩⟩⟩⟩⟩⟩⟩
        refine ⟨(la_solve_87 h333_), ?_⟩
        refine ⟨?_, ?_⟩
        · skip
          intro h343_
          refine ⟨⟨h331_, ⟨h334_, ⟨h335_, ⟨h336_, ⟨h337_, ⟨h338_, (la_solve_83 h339_ h340_ h341_)⟩⟩⟩⟩⟩⟩, ?_⟩
          exact (la_solve_95 h328_ h342_)
        intro h344_
        refine ⟨(la_solve_88 h152_ h158_ h332_ h344_), ?_⟩
        rintro ⟨h345_, h346_⟩
        refine ⟨?_, ?_⟩
        · skip
          intro h347_
          intro h348_
          have h349_ := (h348_ h338_)
          have h350_ := (h349_ h332_)
          have h351_ := (h350_ (la_solve_96 h344_))
          have h352_ := (h351_ (la_solve_60 h346_ (la_solve_59 h345_ h347_)))
          intro h353_
          intro h354_
          refine ⟨⟨h148_, ⟨h149_, ⟨h150_, ⟨h151_, ⟨h152_, ⟨h153_, ⟨h154_, ⟨h155_, ⟨h156_, ⟨h157_, ⟨h158_, ⟨h159_, ⟨h160_, ⟨h161_, ⟨h162_, ⟨h163_, ⟨h164_, ⟨h337_, ⟨h334_, ⟨h335_, ⟨h336_, ⟨h165_, ⟨h166_, ⟨h167_, ⟨(sm_DR_d h338_ (Or.inl rfl)), ⟨h168_, ⟨h169_, (la_solve_97 h332_ h344_ h352_)⟩⟩⟩⟩⟩⟩⟩⟩⟩⟩⟩⟩⟩⟩⟩⟩⟩⟩⟩⟩⟩⟩⟩⟩⟩⟩⟩, ?_⟩
          intro g222
          rintro ⟨h355_, ⟨h356_, ⟨h357_, ⟨h358_, ⟨h359_, ⟨h360_, h361_⟩⟩⟩⟩⟩⟩
          rintro ⟨h362_, h363_⟩
          intro h364_
          rintro ⟨h365_, h366_⟩
          refine ⟨(la_solve_91 h152_ h158_ h332_ h344_), ?_⟩
          refine ⟨?_, ?_⟩
          · skip
            refine ⟨la_solve_34, ?_⟩
            refine ⟨(la_solve_98 h332_), ?_⟩
            refine ⟨(la_solve_99 h344_), ?_⟩
            refine ⟨h355_, ?_⟩
            refine ⟨h356_, ?_⟩
            refine ⟨h357_, ?_⟩
            refine ⟨h358_, ?_⟩
            refine ⟨h360_, ?_⟩
            refine ⟨h362_, ?_⟩
            refine ⟨h364_, ?_⟩
            refine ⟨h365_, ?_⟩
            have e367_ : sm_du (fun i' : Int => (if i' = l2_205 then 0 else (g203 72) i')) = sm_du (g203 72) - g203 72 l2_205 + 0 := sm_du_r h332_ (la_solve_100 h152_ h158_ h344_)
            obtain ⟨h368_, ⟨h369_, ⟨h370_, ⟨h371_, ⟨h372_, ⟨h373_, ⟨h374_, h375_⟩⟩⟩⟩⟩⟩⟩ := (((h168_ 0) h172_) (la_solve_63 h152_))
            have h376_ := (h282_ 0)
            have h377_ := ((h359_ l2_205) h352_)
            have h378_ := (h167_ (S 30 0))
            have h379_ := (((h203_ 0) h172_) (la_solve_101 h152_ h205_ h332_ h344_))
            exact (la_solve_102 h331_ h342_ (la_solve_59 h345_ h347_) h361_ e367_)
          exact la_solve_46
        intro h380_
        rintro ⟨h381_, h382_⟩
        intro h383_
        rintro ⟨h384_, h385_⟩
        refine ⟨(la_solve_91 h152_ h158_ h332_ h344_), ?_⟩
        refine ⟨⟨h331_, ⟨(la_solve_98 h332_), ⟨(la_solve_99 h344_), ⟨h334_, ⟨h335_, ⟨h336_, ⟨h337_, ⟨h338_, (la_solve_103 h339_ h340_ h341_ h342_)⟩⟩⟩⟩⟩⟩⟩⟩, ?_⟩
        exact la_solve_46
      intro h386_
      refine ⟨(la_solve_104 h158_ h201_ h386_), ?_⟩
      refine ⟨(la_solve_105 h158_ h201_ h386_), ?_⟩
      refine ⟨?_, ?_⟩
      · skip
        refine ⟨(la_solve_98 h201_), ?_⟩
        refine ⟨(la_solve_106 h386_), ?_⟩
        refine ⟨?_, ?_⟩
        · skip
          intro kv12
          intro h387_
          intro h388_
          obtain ⟨h389_, ⟨h390_, ⟨h391_, ⟨h392_, ⟨h393_, ⟨h394_, ⟨h395_, h396_⟩⟩⟩⟩⟩⟩⟩ := (((h168_ 0) h172_) (la_solve_63 h152_))
          have h397_ := ((h203_ kv12) h387_)
          have h398_ := (h167_ (S 30 0))
          by_cases c399_ : kv12 = l1_139
          · skip
            have e400_ : (if kv12 = l1_139 then 0 else g138 71 kv12 : Int) = 0 := if_pos c399_
            exact e400_
          · skip
            have e401_ : (if kv12 = l1_139 then 0 else g138 71 kv12 : Int) = g138 71 kv12 := if_neg c399_
            have h402_ := (h397_ (la_solve_109 (la_solve_108 h388_) c399_))
            exact (la_solve_110 e401_ h402_)
        intro kv13
        intro h403_
        intro h404_
        obtain ⟨h405_, ⟨h406_, ⟨h407_, ⟨h408_, ⟨h409_, ⟨h410_, ⟨h411_, h412_⟩⟩⟩⟩⟩⟩⟩ := (((h168_ 0) h172_) (la_solve_63 h152_))
        have h413_ := ((h204_ kv13) h403_)
        have h414_ := (h167_ (S 30 0))
        by_cases c415_ : kv13 = l1_139
        · skip
          have e416_ : (if kv13 = l1_139 then 0 else g138 72 kv13 : Int) = 0 := if_pos c415_
          exact e416_
        · skip
          have e417_ : (if kv13 = l1_139 then 0 else g138 72 kv13 : Int) = g138 72 kv13 := if_neg c415_
          have h418_ := (h413_ (la_solve_109 (la_solve_108 h404_) c415_))
          exact (la_solve_110 e417_ h418_)
      exact la_solve_58
    intro h419_
    intro h420_
    refine ⟨trivial, ?_⟩
    intro h421_
    exact (Or.inl h421_)
  intro h422_
  refine ⟨trivial, ?_⟩
  intro h423_
  exact (Or.inl h423_)
set_option maxRecDepth 8000 in
set_option maxHeartbeats 2000000 in
theorem t_solve : ∀ (S : sv_S), sm_ok S → (((S 1072 0) = 1 → 29 ≤ (S 1071 0) ∧ (S 1071 0) ≤ 127 ∧ 31 ≤ (S 1008 0) ∧ (S 1008 0) ≤ 90 ∧ 1 ≤ (S 1032 0) ∧ (S 1032 0) ≤ 11 ∧ 0 ≤ (S 1055 0) ∧ (S 1055 0) ≤ 19 ∧ (S 1071 0) = 29 + 6 * ((S 1032 0) - 1) + 2 * (S 1055 0) ∧ 0 ≤ (S 1046 0) ∧ (S 1046 0) + 2 * (S 1032 0) ≤ 500 ∧ sm_PD (S 1046 0) (S 1032 0) (S 1071 0) (S 1008 0) ∧ 0 ≤ (S 1071 0) * ((S 1008 0) + 1) ∧ (S 1071 0) * ((S 1008 0) + 1) ≤ 11557 ∧ 31 ≤ (S 1007 0) ∧ (S 1007 0) ≤ 400 ∧ sm_LN (S 4) 400 (S 1007 0) ∧ sm_NH (S 1100007) ∧ sm_CT (S 26) (S 27) (S 28) (S 29) (S 1100007) (S 1100023) (S 1100024) (S 1100025) (S 21) (S 1046 0) (S 1032 0) (S 1008 0) (S 1055 0) ∧ (∀ k : Int, (S 1046 0) ≤ k → k < ((S 1046 0) + 2 * (S 1032 0)) → (S 1100007 k) = 1) ∧ (∀ g : Int, 0 ≤ g → g < (S 1032 0) → 0 ≤ (S 30 g) ∧ (S 30 g) < (S 1046 0) ∧ (S 1100007 (S 30 g)) = 0 ∧ (S 1100023 (S 30 g)) = -1 ∧ 0 ≤ (S 33 g) ∧ (S 33 g) ≤ 100 ∧ 0 ≤ (S 20 g) ∧ (S 20 g) ≤ 8) ∧ sm_VN (S 32) (S 33) (S 1032 0) (S 1008 0) ∧ (S 30 0) = 0 ∧ sm_su (S 1100007) 640 ≤ 170000)) → sv_T sm_XS sm_cs sm_L sm_sh 24 (q_solve S) 294 0 (lv_args 0 [.ref 0]) [] S := by
  intro S hok hpre
  have h := f_solve S hok hpre
  have hM := sm_h294
  show sv_T sm_XS sm_cs sm_L sm_sh 24 (q_solve S) 294 0 [(0, .ref 0)] [] S
  refine sv_aload_n hM dX12_solve_0 rfl rfl ?_
  refine sv_aload_n hM dX12_solve_1 rfl rfl ?_
  have k1 : (0 ≤ (S 1072 0) ∧ (S 1072 0) ≤ 1) := sm_okZ hok sm_r1072 0
  have h := h k1
  refine sv_getI hM dX12_solve_2 sm_fl_770 (sm_a0 _) sm_k72 rfl (x := (S 1072 0)) rfl ?_
  refine sv_cond_eq hM dX12_solve_5 (sv_R01 k1) (t := 12) rfl rfl (fun hc => ?_) (fun hc => ?_)
  · have h := h.1 (hc)
    refine sv_iconst (d := (1 : Int)) hM dX12_solve_12 rfl rfl ?_
    refine sv_putI sm_X hM dX12_solve_13 sm_fp_289 (sm_a0 _) sm_q0 (Or.inl rfl) rfl rfl rfl rfl ?_
    have ok2 : sm_ok (sv_up S 1000 0 (1 : Int)) := sm_upI hok sm_r1000 (⟨by decide, by decide⟩ : sv_R (1 : Int))
    have md3 : sv_mod [68, 69, 70, 81, 82, 83, 84, 85, 86, 71, 74, 75, 1127, 78, 79, 80, 72, 76, 77, 1143, 1144, 5, 1011, 1150, 1149, 1145, 1113, 1111, 1112, 91, 1147, 1100031, 1148, 73, 88, 89, 87, 90, 1121, 1000, 1119, 1120] S (sv_up S 1000 0 (1 : Int)) := sv_mod.up sv_mod.rf (by decide)
    refine sv_aload_n hM dX12_solve_16 rfl rfl ?_
    refine sv_getI hM dX12_solve_17 sm_fl_289 (sm_a0 _) sm_k0 rfl (x := (1 : Int)) rfl ?_
    refine sv_cond_le hM dX12_solve_20 (⟨by decide, by decide⟩ : sv_R (1 : Int)) (t := 25) rfl rfl (fun hc => ?_) (fun hc => ?_)
    · have h := h.1 (hc)
      refine sv_aload_n hM dX12_solve_25 rfl rfl ?_
      have k4 : (0 ≤ (S 1119 0) ∧ (S 1119 0) ≤ 1) := sm_okZ ok2 sm_r1119 0
      have h := h k4
      refine sv_getI hM dX12_solve_26 sm_fl_776 (sm_a0 _) sm_k119 rfl (x := (S 1119 0)) rfl ?_
      refine sv_cond_eq hM dX12_solve_29 (sv_R01 k4) (t := 37) rfl rfl (fun hc => ?_) (fun hc => ?_)
      · have h := h.1 (hc)
        refine sv_aload_n hM dX12_solve_37 rfl rfl ?_
        obtain ⟨o5, h⟩ := h
        refine sv_callV hM dX12_solve_38 sm_iv_1373 (by decide) (sm_a0 _) rfl rfl (Nat.le_of_ble_eq_true rfl) sm_h291 (Nat.le_of_ble_eq_true rfl) (Nat.le_of_ble_eq_true rfl) (F' := 2) (Nat.le_of_ble_eq_true rfl) rfl (t_findSorts  (sv_up S 1000 0 (1 : Int)) ok2 o5) (fun v S1 hq => ?_)
        obtain ⟨rfl, ok7, md8, hpo9⟩ := hq
        obtain ⟨g6, rfl⟩ : ∃ g, S1 = sv_sts (sv_up S 1000 0 (1 : Int)) [88, 89, 87, 1113, 5, 1011, 90] g := ⟨_, md8.eq⟩
        show sv_T sm_XS sm_cs sm_L sm_sh 24 (q_solve S) 294 41 [(0, .ref 0)] [] (sv_sts (sv_up S 1000 0 (1 : Int)) [88, 89, 87, 1113, 5, 1011, 90] g6)
        have md10 : sv_mod [68, 69, 70, 81, 82, 83, 84, 85, 86, 71, 74, 75, 1127, 78, 79, 80, 72, 76, 77, 1143, 1144, 5, 1011, 1150, 1149, 1145, 1113, 1111, 1112, 91, 1147, 1100031, 1148, 73, 88, 89, 87, 90, 1121, 1000, 1119, 1120] S (sv_sts (sv_up S 1000 0 (1 : Int)) [88, 89, 87, 1113, 5, 1011, 90] g6) := sv_mod.sts md3 (by decide)
        have h := h g6 hpo9
        refine sv_aload_n hM dX12_solve_41 rfl rfl ?_
        refine sv_aload_n hM dX12_solve_42 rfl rfl ?_
        have k11 : sv_R (S 1046 0) := sm_okI ok7 sm_r1046 0
        have h := h k11
        refine sv_getI hM dX12_solve_43 sm_fl_606 (sm_a0 _) sm_k46 rfl (x := (S 1046 0)) rfl ?_
        refine sv_iconst (d := (2 : Int)) hM dX12_solve_46 rfl rfl ?_
        refine sv_aload_n hM dX12_solve_47 rfl rfl ?_
        have k12 : sv_R (S 1032 0) := sm_okI ok7 sm_r1032 0
        have h := h k12
        refine sv_getI hM dX12_solve_48 sm_fl_527 (sm_a0 _) sm_k32 rfl (x := (S 1032 0)) rfl ?_
        refine sv_imul hM dX12_solve_51 rfl ?_
        refine sv_iadd hM dX12_solve_52 rfl ?_
        obtain ⟨o13, h⟩ := h
        refine sv_putI sm_X hM dX12_solve_53 sm_fp_1376 (sm_a0 _) sm_q121 (Or.inl rfl) rfl rfl rfl rfl ?_
        have ok14 : sm_ok (sv_up (sv_sts (sv_up S 1000 0 (1 : Int)) [88, 89, 87, 1113, 5, 1011, 90] g6) 1121 0 ((S 1046 0) + ((2 : Int) * (S 1032 0)))) := sm_upI ok7 sm_r1121 o13
        have md15 : sv_mod [68, 69, 70, 81, 82, 83, 84, 85, 86, 71, 74, 75, 1127, 78, 79, 80, 72, 76, 77, 1143, 1144, 5, 1011, 1150, 1149, 1145, 1113, 1111, 1112, 91, 1147, 1100031, 1148, 73, 88, 89, 87, 90, 1121, 1000, 1119, 1120] S (sv_up (sv_sts (sv_up S 1000 0 (1 : Int)) [88, 89, 87, 1113, 5, 1011, 90] g6) 1121 0 ((S 1046 0) + ((2 : Int) * (S 1032 0)))) := sv_mod.up md10 (by decide)
        refine sv_iconst (d := (0 : Int)) hM dX12_solve_56 rfl rfl ?_
        refine sv_istore_n hM dX12_solve_57 (by decide) rfl ?_
        show sv_T sm_XS sm_cs sm_L sm_sh 24 (q_solve S) 294 58 [(0, .ref 0), (1, sv_I (0 : Int))] [] (sv_up (sv_sts (sv_up S 1000 0 (1 : Int)) [88, 89, 87, 1113, 5, 1011, 90] g6) 1121 0 ((S 1046 0) + ((2 : Int) * (S 1032 0))))
        obtain ⟨hin19, h⟩ := h
        have hJ : ∀ a : Int × sv_S, (sv_R a.1 ∧ sm_ok (sv_sts (sv_up (sv_sts (sv_up S 1000 0 (1 : Int)) [88, 89, 87, 1113, 5, 1011, 90] g6) 1121 0 ((S 1046 0) + ((2 : Int) * (S 1032 0)))) [71, 72] a.2) ∧ (0 ≤ a.1 ∧ a.1 ≤ ((S 1046 0) + ((2 : Int) * (S 1032 0))) ∧ (∀ k : Int, 0 ≤ k → k < a.1 → (a.2 71 k) = 0) ∧ (∀ k : Int, 0 ≤ k → k < a.1 → (a.2 72 k) = 0))) → sv_T sm_XS sm_cs sm_L sm_sh 24 (q_solve S) 294 58 [(0, .ref 0), (1, sv_I a.1)] [] (sv_sts (sv_up (sv_sts (sv_up S 1000 0 (1 : Int)) [88, 89, 87, 1113, 5, 1011, 90] g6) 1121 0 ((S 1046 0) + ((2 : Int) * (S 1032 0)))) [71, 72] a.2) := by
          refine sv_loop (α := Int × sv_S) (fun a => sv_R a.1 ∧ sm_ok (sv_sts (sv_up (sv_sts (sv_up S 1000 0 (1 : Int)) [88, 89, 87, 1113, 5, 1011, 90] g6) 1121 0 ((S 1046 0) + ((2 : Int) * (S 1032 0)))) [71, 72] a.2) ∧ (0 ≤ a.1 ∧ a.1 ≤ ((S 1046 0) + ((2 : Int) * (S 1032 0))) ∧ (∀ k : Int, 0 ≤ k → k < a.1 → (a.2 71 k) = 0) ∧ (∀ k : Int, 0 ≤ k → k < a.1 → (a.2 72 k) = 0))) (fun a => ((S 1046 0) + ((2 : Int) * (S 1032 0))) - a.1) (fun a => sv_T sm_XS sm_cs sm_L sm_sh 24 (q_solve S) 294 58 [(0, .ref 0), (1, sv_I a.1)] [] (sv_sts (sv_up (sv_sts (sv_up S 1000 0 (1 : Int)) [88, 89, 87, 1113, 5, 1011, 90] g6) 1121 0 ((S 1046 0) + ((2 : Int) * (S 1032 0)))) [71, 72] a.2)) (fun a q => (h a.1 q.1 a.2 q.2.2).1) (fun a q ih18 => ?_)
          obtain ⟨l1_17, g16⟩ := a
          obtain ⟨hl1_17, ok20, hin19i⟩ := q
          have h := (h l1_17 hl1_17 g16 hin19i).2
          show sv_T sm_XS sm_cs sm_L sm_sh 24 (q_solve S) 294 58 [(0, .ref 0), (1, sv_I l1_17)] [] (sv_sts (sv_up (sv_sts (sv_up S 1000 0 (1 : Int)) [88, 89, 87, 1113, 5, 1011, 90] g6) 1121 0 ((S 1046 0) + ((2 : Int) * (S 1032 0)))) [71, 72] g16)
          have md21 : sv_mod [68, 69, 70, 81, 82, 83, 84, 85, 86, 71, 74, 75, 1127, 78, 79, 80, 72, 76, 77, 1143, 1144, 5, 1011, 1150, 1149, 1145, 1113, 1111, 1112, 91, 1147, 1100031, 1148, 73, 88, 89, 87, 90, 1121, 1000, 1119, 1120] S (sv_sts (sv_up (sv_sts (sv_up S 1000 0 (1 : Int)) [88, 89, 87, 1113, 5, 1011, 90] g6) 1121 0 ((S 1046 0) + ((2 : Int) * (S 1032 0)))) [71, 72] g16) := sv_mod.sts md15 (by decide)
          have md22 : sv_mod [71, 72] (sv_up (sv_sts (sv_up S 1000 0 (1 : Int)) [88, 89, 87, 1113, 5, 1011, 90] g6) 1121 0 ((S 1046 0) + ((2 : Int) * (S 1032 0)))) (sv_sts (sv_up (sv_sts (sv_up S 1000 0 (1 : Int)) [88, 89, 87, 1113, 5, 1011, 90] g6) 1121 0 ((S 1046 0) + ((2 : Int) * (S 1032 0)))) [71, 72] g16) := sv_mod.sts sv_mod.rf (by decide)
          refine sv_iload_n hM dX12_solve_58 rfl rfl ?_
          refine sv_aload_n hM dX12_solve_59 rfl rfl ?_
          refine sv_getI hM dX12_solve_60 sm_fl_1376 (sm_a0 _) sm_k121 rfl (x := ((S 1046 0) + ((2 : Int) * (S 1032 0)))) rfl ?_
          refine sv_icmp_ge hM dX12_solve_63 hl1_17 o13 (t := 86) rfl rfl (fun hc => ?_) (fun hc => ?_)
          · have h := h.1 (hc)
            have k23 : ((∀ k : Int, 0 ≤ k → k < ((S 1046 0) + 2 * (S 1032 0)) → (g16 71 k) = 0) → sm_ST (g16 71) (S 74) (S 75) (S 78) (S 79) (S 80) (S 27) (S 1100007) (S 1100023) (S 1100024) (S 1046 0) ((S 1046 0) + 2 * (S 1032 0)) 465000) := fun h => sm_ST_z h
            have h := h k23
            have k24 : (sm_NH (S 1100007) → sm_hs (g16 71) (S 1100007) ≤ sm_su (S 1100007) 640) := fun h => sm_hs_le h (fun x_ => sm_okZ ok20 sm_r71 x_)
            have h := h k24
            refine sv_aload_n hM dX12_solve_86 rfl rfl ?_
            refine sv_ldc_w (d := (465000 : Int)) hM dX12_solve_87 sm_ck_1379 rfl rfl ?_
            refine sv_putI sm_X hM dX12_solve_90 sm_fp_1107 (sm_a0 _) sm_q127 (Or.inl rfl) rfl rfl rfl rfl ?_
            have ok25 : sm_ok (sv_up (sv_sts (sv_up (sv_sts (sv_up S 1000 0 (1 : Int)) [88, 89, 87, 1113, 5, 1011, 90] g6) 1121 0 ((S 1046 0) + ((2 : Int) * (S 1032 0)))) [71, 72] g16) 1127 0 (465000 : Int)) := sm_upI ok20 sm_r1127 (⟨by decide, by decide⟩ : sv_R (465000 : Int))
            have md26 : sv_mod [68, 69, 70, 81, 82, 83, 84, 85, 86, 71, 74, 75, 1127, 78, 79, 80, 72, 76, 77, 1143, 1144, 5, 1011, 1150, 1149, 1145, 1113, 1111, 1112, 91, 1147, 1100031, 1148, 73, 88, 89, 87, 90, 1121, 1000, 1119, 1120] S (sv_up (sv_sts (sv_up (sv_sts (sv_up S 1000 0 (1 : Int)) [88, 89, 87, 1113, 5, 1011, 90] g6) 1121 0 ((S 1046 0) + ((2 : Int) * (S 1032 0)))) [71, 72] g16) 1127 0 (465000 : Int)) := sv_mod.up md21 (by decide)
            refine sv_aload_n hM dX12_solve_93 rfl rfl ?_
            refine sv_getA hM dX12_solve_94 sm_fl_238 (sm_a0 _) sm_k126 rfl ?_
            refine sv_sipush (d := (639 : Int)) hM dX12_solve_97 rfl rfl ?_
            refine sv_ldc_w (d := (647340 : Int)) hM dX12_solve_100 sm_ck_1380 rfl rfl ?_
            have k27 : ((∀ k : Int, 0 ≤ k → k < (S 1046 0) → (g16 72 k) = 0) → sm_DR (g16 72) (g16 71) (S 1046 0)) := fun h => sm_DR_z h
            have h := h k27
            obtain ⟨o28, h⟩ := h
            refine sv_iast sm_X hM dX12_solve_103 (sm_a75 _) (by decide) o28.1 o28.2 rfl ?_
            have ok29 : sm_ok (sv_up (sv_up (sv_sts (sv_up (sv_sts (sv_up S 1000 0 (1 : Int)) [88, 89, 87, 1113, 5, 1011, 90] g6) 1121 0 ((S 1046 0) + ((2 : Int) * (S 1032 0)))) [71, 72] g16) 1127 0 (465000 : Int)) 75 (639 : Int) (647340 : Int)) := sm_upI ok25 sm_r75 (⟨by decide, by decide⟩ : sv_R (647340 : Int))
            have md30 : sv_mod [68, 69, 70, 81, 82, 83, 84, 85, 86, 71, 74, 75, 1127, 78, 79, 80, 72, 76, 77, 1143, 1144, 5, 1011, 1150, 1149, 1145, 1113, 1111, 1112, 91, 1147, 1100031, 1148, 73, 88, 89, 87, 90, 1121, 1000, 1119, 1120] S (sv_up (sv_up (sv_sts (sv_up (sv_sts (sv_up S 1000 0 (1 : Int)) [88, 89, 87, 1113, 5, 1011, 90] g6) 1121 0 ((S 1046 0) + ((2 : Int) * (S 1032 0)))) [71, 72] g16) 1127 0 (465000 : Int)) 75 (639 : Int) (647340 : Int)) := sv_mod.up md26 (by decide)
            refine sv_aload_n hM dX12_solve_104 rfl rfl ?_
            obtain ⟨o31, h⟩ := h
            refine sv_callV hM dX12_solve_105 sm_iv_1381 (by decide) (sm_a0 _) rfl rfl (Nat.le_of_ble_eq_true rfl) sm_h293 (Nat.le_of_ble_eq_true rfl) (Nat.le_of_ble_eq_true rfl) (F' := 4) (Nat.le_of_ble_eq_true rfl) rfl (t_beginWork  (sv_up (sv_up (sv_sts (sv_up (sv_sts (sv_up S 1000 0 (1 : Int)) [88, 89, 87, 1113, 5, 1011, 90] g6) 1121 0 ((S 1046 0) + ((2 : Int) * (S 1032 0)))) [71, 72] g16) 1127 0 (465000 : Int)) 75 (639 : Int) (647340 : Int)) ok29 o31) (fun v S1 hq => ?_)
            obtain ⟨rfl, ok33, md34, hpo35⟩ := hq
            obtain ⟨g32, rfl⟩ : ∃ g, S1 = sv_sts (sv_up (sv_up (sv_sts (sv_up (sv_sts (sv_up S 1000 0 (1 : Int)) [88, 89, 87, 1113, 5, 1011, 90] g6) 1121 0 ((S 1046 0) + ((2 : Int) * (S 1032 0)))) [71, 72] g16) 1127 0 (465000 : Int)) 75 (639 : Int) (647340 : Int)) [68, 69, 70, 81, 82, 83, 84, 85, 86, 1143, 1144, 5, 1011, 74, 78, 76, 77] g := ⟨_, md34.eq⟩
            show sv_T sm_XS sm_cs sm_L sm_sh 24 (q_solve S) 294 108 [(0, .ref 0), (1, sv_I l1_17)] [] (sv_sts (sv_up (sv_up (sv_sts (sv_up (sv_sts (sv_up S 1000 0 (1 : Int)) [88, 89, 87, 1113, 5, 1011, 90] g6) 1121 0 ((S 1046 0) + ((2 : Int) * (S 1032 0)))) [71, 72] g16) 1127 0 (465000 : Int)) 75 (639 : Int) (647340 : Int)) [68, 69, 70, 81, 82, 83, 84, 85, 86, 1143, 1144, 5, 1011, 74, 78, 76, 77] g32)
            have md36 : sv_mod [68, 69, 70, 81, 82, 83, 84, 85, 86, 71, 74, 75, 1127, 78, 79, 80, 72, 76, 77, 1143, 1144, 5, 1011, 1150, 1149, 1145, 1113, 1111, 1112, 91, 1147, 1100031, 1148, 73, 88, 89, 87, 90, 1121, 1000, 1119, 1120] S (sv_sts (sv_up (sv_up (sv_sts (sv_up (sv_sts (sv_up S 1000 0 (1 : Int)) [88, 89, 87, 1113, 5, 1011, 90] g6) 1121 0 ((S 1046 0) + ((2 : Int) * (S 1032 0)))) [71, 72] g16) 1127 0 (465000 : Int)) 75 (639 : Int) (647340 : Int)) [68, 69, 70, 81, 82, 83, 84, 85, 86, 1143, 1144, 5, 1011, 74, 78, 76, 77] g32) := sv_mod.sts md30 (by decide)
            have h := h g32 hpo35
            refine sv_ghost sm_X 1100031 0 (-1 : Int) (by decide) ?_
            have ok37 : sm_ok (sv_up (sv_sts (sv_up (sv_up (sv_sts (sv_up (sv_sts (sv_up S 1000 0 (1 : Int)) [88, 89, 87, 1113, 5, 1011, 90] g6) 1121 0 ((S 1046 0) + ((2 : Int) * (S 1032 0)))) [71, 72] g16) 1127 0 (465000 : Int)) 75 (639 : Int) (647340 : Int)) [68, 69, 70, 81, 82, 83, 84, 85, 86, 1143, 1144, 5, 1011, 74, 78, 76, 77] g32) 1100031 0 (-1 : Int)) := sm_upI ok33 sm_r1100031 (⟨by decide, by decide⟩ : sv_R (-1 : Int))
            have md38 : sv_mod [68, 69, 70, 81, 82, 83, 84, 85, 86, 71, 74, 75, 1127, 78, 79, 80, 72, 76, 77, 1143, 1144, 5, 1011, 1150, 1149, 1145, 1113, 1111, 1112, 91, 1147, 1100031, 1148, 73, 88, 89, 87, 90, 1121, 1000, 1119, 1120] S (sv_up (sv_sts (sv_up (sv_up (sv_sts (sv_up (sv_sts (sv_up S 1000 0 (1 : Int)) [88, 89, 87, 1113, 5, 1011, 90] g6) 1121 0 ((S 1046 0) + ((2 : Int) * (S 1032 0)))) [71, 72] g16) 1127 0 (465000 : Int)) 75 (639 : Int) (647340 : Int)) [68, 69, 70, 81, 82, 83, 84, 85, 86, 1143, 1144, 5, 1011, 74, 78, 76, 77] g32) 1100031 0 (-1 : Int)) := sv_mod.up md36 (by decide)
            have k39 : (sm_dp (S 1100024) (-1) = 0) := sm_dp_n (by decide)
            have h := h k39
            refine sv_aload_n hM dX12_solve_108 rfl rfl ?_
            refine sv_iconst (d := (0 : Int)) hM dX12_solve_109 rfl rfl ?_
            obtain ⟨o40, h⟩ := h
            refine sv_callV hM dX12_solve_110 sm_iv_1191 (by decide) (sm_a0 _) rfl rfl (Nat.le_of_ble_eq_true rfl) sm_h235 (Nat.le_of_ble_eq_true rfl) (Nat.le_of_ble_eq_true rfl) (F' := 3) (Nat.le_of_ble_eq_true rfl) rfl (t_flow (0 : Int) (sv_up (sv_sts (sv_up (sv_up (sv_sts (sv_up (sv_sts (sv_up S 1000 0 (1 : Int)) [88, 89, 87, 1113, 5, 1011, 90] g6) 1121 0 ((S 1046 0) + ((2 : Int) * (S 1032 0)))) [71, 72] g16) 1127 0 (465000 : Int)) 75 (639 : Int) (647340 : Int)) [68, 69, 70, 81, 82, 83, 84, 85, 86, 1143, 1144, 5, 1011, 74, 78, 76, 77] g32) 1100031 0 (-1 : Int)) ok37 (⟨by decide, by decide⟩ : sv_R (0 : Int)) o40) (fun v S1 hq => ?_)
            obtain ⟨rfl, ok42, md43, hpo44⟩ := hq
            obtain ⟨g41, rfl⟩ : ∃ g, S1 = sv_sts (sv_up (sv_sts (sv_up (sv_up (sv_sts (sv_up (sv_sts (sv_up S 1000 0 (1 : Int)) [88, 89, 87, 1113, 5, 1011, 90] g6) 1121 0 ((S 1046 0) + ((2 : Int) * (S 1032 0)))) [71, 72] g16) 1127 0 (465000 : Int)) 75 (639 : Int) (647340 : Int)) [68, 69, 70, 81, 82, 83, 84, 85, 86, 1143, 1144, 5, 1011, 74, 78, 76, 77] g32) 1100031 0 (-1 : Int)) [68, 69, 70, 81, 82, 83, 84, 85, 86, 71, 74, 75, 1127, 78, 79, 80, 72, 76, 77] g := ⟨_, md43.eq⟩
            show sv_T sm_XS sm_cs sm_L sm_sh 24 (q_solve S) 294 113 [(0, .ref 0), (1, sv_I l1_17)] [] (sv_sts (sv_up (sv_sts (sv_up (sv_up (sv_sts (sv_up (sv_sts (sv_up S 1000 0 (1 : Int)) [88, 89, 87, 1113, 5, 1011, 90] g6) 1121 0 ((S 1046 0) + ((2 : Int) * (S 1032 0)))) [71, 72] g16) 1127 0 (465000 : Int)) 75 (639 : Int) (647340 : Int)) [68, 69, 70, 81, 82, 83, 84, 85, 86, 1143, 1144, 5, 1011, 74, 78, 76, 77] g32) 1100031 0 (-1 : Int)) [68, 69, 70, 81, 82, 83, 84, 85, 86, 71, 74, 75, 1127, 78, 79, 80, 72, 76, 77] g41)
            have md45 : sv_mod [68, 69, 70, 81, 82, 83, 84, 85, 86, 71, 74, 75, 1127, 78, 79, 80, 72, 76, 77, 1143, 1144, 5, 1011, 1150, 1149, 1145, 1113, 1111, 1112, 91, 1147, 1100031, 1148, 73, 88, 89, 87, 90, 1121, 1000, 1119, 1120] S (sv_sts (sv_up (sv_sts (sv_up (sv_up (sv_sts (sv_up (sv_sts (sv_up S 1000 0 (1 : Int)) [88, 89, 87, 1113, 5, 1011, 90] g6) 1121 0 ((S 1046 0) + ((2 : Int) * (S 1032 0)))) [71, 72] g16) 1127 0 (465000 : Int)) 75 (639 : Int) (647340 : Int)) [68, 69, 70, 81, 82, 83, 84, 85, 86, 1143, 1144, 5, 1011, 74, 78, 76, 77] g32) 1100031 0 (-1 : Int)) [68, 69, 70, 81, 82, 83, 84, 85, 86, 71, 74, 75, 1127, 78, 79, 80, 72, 76, 77] g41) := sv_mod.sts md38 (by decide)
            have h := h g41 hpo44
            have k46 : (0 ≤ sm_pl (g41 81) (g41 82) (g41 83) (g41 84) (g41 85) (g41 86) ∧ sm_pl (g41 81) (g41 82) (g41 83) (g41 84) (g41 85) (g41 86) ≤ 3870000) := sm_pl_r _ _ _ _ (fun x_ => sm_okZ ok42 sm_r81 x_) (fun x_ => sm_okZ ok42 sm_r82 x_)
            have h := h k46
            have k47 : (0 ≤ sm_cm (g41 71)) := sm_cm_b (fun x_ => sm_okZ ok42 sm_r71 x_)
            have h := h k47
            have k48 : (0 ≤ sm_du (g41 72) ∧ sm_du (g41 72) ≤ 640) := sm_du_b (fun x_ => sm_okZ ok42 sm_r72 x_)
            have h := h k48
            refine sv_iconst (d := (1 : Int)) hM dX12_solve_113 rfl rfl ?_
            refine sv_istore_n hM dX12_solve_114 (by decide) rfl ?_
            show sv_T sm_XS sm_cs sm_L sm_sh 24 (q_solve S) 294 115 [(0, .ref 0), (1, sv_I (1 : Int))] [] (sv_sts (sv_up (sv_sts (sv_up (sv_up (sv_sts (sv_up (sv_sts (sv_up S 1000 0 (1 : Int)) [88, 89, 87, 1113, 5, 1011, 90] g6) 1121 0 ((S 1046 0) + ((2 : Int) * (S 1032 0)))) [71, 72] g16) 1127 0 (465000 : Int)) 75 (639 : Int) (647340 : Int)) [68, 69, 70, 81, 82, 83, 84, 85, 86, 1143, 1144, 5, 1011, 74, 78, 76, 77] g32) 1100031 0 (-1 : Int)) [68, 69, 70, 81, 82, 83, 84, 85, 86, 71, 74, 75, 1127, 78, 79, 80, 72, 76, 77] g41)
            obtain ⟨hin52, h⟩ := h
            have hJ : ∀ a : Int × sv_S, (sv_R a.1 ∧ sm_ok (sv_sts (sv_sts (sv_up (sv_sts (sv_up (sv_up (sv_sts (sv_up (sv_sts (sv_up S 1000 0 (1 : Int)) [88, 89, 87, 1113, 5, 1011, 90] g6) 1121 0 ((S 1046 0) + ((2 : Int) * (S 1032 0)))) [71, 72] g16) 1127 0 (465000 : Int)) 75 (639 : Int) (647340 : Int)) [68, 69, 70, 81, 82, 83, 84, 85, 86, 1143, 1144, 5, 1011, 74, 78, 76, 77] g32) 1100031 0 (-1 : Int)) [68, 69, 70, 81, 82, 83, 84, 85, 86, 71, 74, 75, 1127, 78, 79, 80, 72, 76, 77] g41) [68, 69, 70, 81, 82, 83, 84, 85, 86, 71, 74, 75, 1127, 78, 79, 80, 72, 76, 77, 1143, 1144, 5, 1011, 1150, 1149, 1145, 1113, 1111, 1112, 91, 1147, 1100031, 1148, 73] a.2) ∧ ((a.1 = 0 ∨ a.1 = 1) ∧ sm_ST (a.2 71) (a.2 74) (a.2 75) (a.2 78) (a.2 79) (a.2 80) (S 27) (S 1100007) (S 1100023) (S 1100024) (S 1046 0) ((S 1046 0) + 2 * (S 1032 0)) (a.2 1127 0) ∧ 465000 ≤ (a.2 1127 0) ∧ (a.2 1127 0) + sm_hs (a.2 71) (S 1100007) ≤ 635000 ∧ (a.2 75 639) = 647340 ∧ sm_DR (a.2 72) (a.2 71) (S 1046 0) ∧ 0 ≤ sm_pl (a.2 81) (a.2 82) (a.2 83) (a.2 84) (a.2 85) (a.2 86) ∧ 0 ≤ sm_cm (a.2 71) ∧ 0 ≤ sm_du (a.2 72))) → sv_T sm_XS sm_cs sm_L sm_sh 24 (q_solve S) 294 115 [(0, .ref 0), (1, sv_I a.1)] [] (sv_sts (sv_sts (sv_up (sv_sts (sv_up (sv_up (sv_sts (sv_up (sv_sts (sv_up S 1000 0 (1 : Int)) [88, 89, 87, 1113, 5, 1011, 90] g6) 1121 0 ((S 1046 0) + ((2 : Int) * (S 1032 0)))) [71, 72] g16) 1127 0 (465000 : Int)) 75 (639 : Int) (647340 : Int)) [68, 69, 70, 81, 82, 83, 84, 85, 86, 1143, 1144, 5, 1011, 74, 78, 76, 77] g32) 1100031 0 (-1 : Int)) [68, 69, 70, 81, 82, 83, 84, 85, 86, 71, 74, 75, 1127, 78, 79, 80, 72, 76, 77] g41) [68, 69, 70, 81, 82, 83, 84, 85, 86, 71, 74, 75, 1127, 78, 79, 80, 72, 76, 77, 1143, 1144, 5, 1011, 1150, 1149, 1145, 1113, 1111, 1112, 91, 1147, 1100031, 1148, 73] a.2) := by
              refine sv_loop (α := Int × sv_S) (fun a => sv_R a.1 ∧ sm_ok (sv_sts (sv_sts (sv_up (sv_sts (sv_up (sv_up (sv_sts (sv_up (sv_sts (sv_up S 1000 0 (1 : Int)) [88, 89, 87, 1113, 5, 1011, 90] g6) 1121 0 ((S 1046 0) + ((2 : Int) * (S 1032 0)))) [71, 72] g16) 1127 0 (465000 : Int)) 75 (639 : Int) (647340 : Int)) [68, 69, 70, 81, 82, 83, 84, 85, 86, 1143, 1144, 5, 1011, 74, 78, 76, 77] g32) 1100031 0 (-1 : Int)) [68, 69, 70, 81, 82, 83, 84, 85, 86, 71, 74, 75, 1127, 78, 79, 80, 72, 76, 77] g41) [68, 69, 70, 81, 82, 83, 84, 85, 86, 71, 74, 75, 1127, 78, 79, 80, 72, 76, 77, 1143, 1144, 5, 1011, 1150, 1149, 1145, 1113, 1111, 1112, 91, 1147, 1100031, 1148, 73] a.2) ∧ ((a.1 = 0 ∨ a.1 = 1) ∧ sm_ST (a.2 71) (a.2 74) (a.2 75) (a.2 78) (a.2 79) (a.2 80) (S 27) (S 1100007) (S 1100023) (S 1100024) (S 1046 0) ((S 1046 0) + 2 * (S 1032 0)) (a.2 1127 0) ∧ 465000 ≤ (a.2 1127 0) ∧ (a.2 1127 0) + sm_hs (a.2 71) (S 1100007) ≤ 635000 ∧ (a.2 75 639) = 647340 ∧ sm_DR (a.2 72) (a.2 71) (S 1046 0) ∧ 0 ≤ sm_pl (a.2 81) (a.2 82) (a.2 83) (a.2 84) (a.2 85) (a.2 86) ∧ 0 ≤ sm_cm (a.2 71) ∧ 0 ≤ sm_du (a.2 72))) (fun a => (641 * (sm_cm (a.2 71) + sm_pt (a.2 68) (a.2 69) (a.2 70) + sm_pl (a.2 81) (a.2 82) (a.2 83) (a.2 84) (a.2 85) (a.2 86) + sm_ps (a.2 76) (a.2 77)) + sm_du (a.2 72)) + a.1) (fun a => sv_T sm_XS sm_cs sm_L sm_sh 24 (q_solve S) 294 115 [(0, .ref 0), (1, sv_I a.1)] [] (sv_sts (sv_sts (sv_up (sv_sts (sv_up (sv_up (sv_sts (sv_up (sv_sts (sv_up S 1000 0 (1 : Int)) [88, 89, 87, 1113, 5, 1011, 90] g6) 1121 0 ((S 1046 0) + ((2 : Int) * (S 1032 0)))) [71, 72] g16) 1127 0 (465000 : Int)) 75 (639 : Int) (647340 : Int)) [68, 69, 70, 81, 82, 83, 84, 85, 86, 1143, 1144, 5, 1011, 74, 78, 76, 77] g32) 1100031 0 (-1 : Int)) [68, 69, 70, 81, 82, 83, 84, 85, 86, 71, 74, 75, 1127, 78, 79, 80, 72, 76, 77] g41) [68, 69, 70, 81, 82, 83, 84, 85, 86, 71, 74, 75, 1127, 78, 79, 80, 72, 76, 77, 1143, 1144, 5, 1011, 1150, 1149, 1145, 1113, 1111, 1112, 91, 1147, 1100031, 1148, 73] a.2)) (fun a q => (h a.1 q.1 a.2 q.2.2).1) (fun a q ih51 => ?_)
              obtain ⟨l1_50, g49⟩ := a
              obtain ⟨hl1_50, ok53, hin52i⟩ := q
              have h := (h l1_50 hl1_50 g49 hin52i).2
              show sv_T sm_XS sm_cs sm_L sm_sh 24 (q_solve S) 294 115 [(0, .ref 0), (1, sv_I l1_50)] [] (sv_sts (sv_sts (sv_up (sv_sts (sv_up (sv_up (sv_sts (sv_up (sv_sts (sv_up S 1000 0 (1 : Int)) [88, 89, 87, 1113, 5, 1011, 90] g6) 1121 0 ((S 1046 0) + ((2 : Int) * (S 1032 0)))) [71, 72] g16) 1127 0 (465000 : Int)) 75 (639 : Int) (647340 : Int)) [68, 69, 70, 81, 82, 83, 84, 85, 86, 1143, 1144, 5, 1011, 74, 78, 76, 77] g32) 1100031 0 (-1 : Int)) [68, 69, 70, 81, 82, 83, 84, 85, 86, 71, 74, 75, 1127, 78, 79, 80, 72, 76, 77] g41) [68, 69, 70, 81, 82, 83, 84, 85, 86, 71, 74, 75, 1127, 78, 79, 80, 72, 76, 77, 1143, 1144, 5, 1011, 1150, 1149, 1145, 1113, 1111, 1112, 91, 1147, 1100031, 1148, 73] g49)
              have md54 : sv_mod [68, 69, 70, 81, 82, 83, 84, 85, 86, 71, 74, 75, 1127, 78, 79, 80, 72, 76, 77, 1143, 1144, 5, 1011, 1150, 1149, 1145, 1113, 1111, 1112, 91, 1147, 1100031, 1148, 73, 88, 89, 87, 90, 1121, 1000, 1119, 1120] S (sv_sts (sv_sts (sv_up (sv_sts (sv_up (sv_up (sv_sts (sv_up (sv_sts (sv_up S 1000 0 (1 : Int)) [88, 89, 87, 1113, 5, 1011, 90] g6) 1121 0 ((S 1046 0) + ((2 : Int) * (S 1032 0)))) [71, 72] g16) 1127 0 (465000 : Int)) 75 (639 : Int) (647340 : Int)) [68, 69, 70, 81, 82, 83, 84, 85, 86, 1143, 1144, 5, 1011, 74, 78, 76, 77] g32) 1100031 0 (-1 : Int)) [68, 69, 70, 81, 82, 83, 84, 85, 86, 71, 74, 75, 1127, 78, 79, 80, 72, 76, 77] g41) [68, 69, 70, 81, 82, 83, 84, 85, 86, 71, 74, 75, 1127, 78, 79, 80, 72, 76, 77, 1143, 1144, 5, 1011, 1150, 1149, 1145, 1113, 1111, 1112, 91, 1147, 1100031, 1148, 73] g49) := sv_mod.sts md45 (by decide)
              have md55 : sv_mod [68, 69, 70, 81, 82, 83, 84, 85, 86, 71, 74, 75, 1127, 78, 79, 80, 72, 76, 77, 1143, 1144, 5, 1011, 1150, 1149, 1145, 1113, 1111, 1112, 91, 1147, 1100031, 1148, 73] (sv_sts (sv_up (sv_sts (sv_up (sv_up (sv_sts (sv_up (sv_sts (sv_up S 1000 0 (1 : Int)) [88, 89, 87, 1113, 5, 1011, 90] g6) 1121 0 ((S 1046 0) + ((2 : Int) * (S 1032 0)))) [71, 72] g16) 1127 0 (465000 : Int)) 75 (639 : Int) (647340 : Int)) [68, 69, 70, 81, 82, 83, 84, 85, 86, 1143, 1144, 5, 1011, 74, 78, 76, 77] g32) 1100031 0 (-1 : Int)) [68, 69, 70, 81, 82, 83, 84, 85, 86, 71, 74, 75, 1127, 78, 79, 80, 72, 76, 77] g41) (sv_sts (sv_sts (sv_up (sv_sts (sv_up (sv_up (sv_sts (sv_up (sv_sts (sv_up S 1000 0 (1 : Int)) [88, 89, 87, 1113, 5, 1011, 90] g6) 1121 0 ((S 1046 0) + ((2 : Int) * (S 1032 0)))) [71, 72] g16) 1127 0 (465000 : Int)) 75 (639 : Int) (647340 : Int)) [68, 69, 70, 81, 82, 83, 84, 85, 86, 1143, 1144, 5, 1011, 74, 78, 76, 77] g32) 1100031 0 (-1 : Int)) [68, 69, 70, 81, 82, 83, 84, 85, 86, 71, 74, 75, 1127, 78, 79, 80, 72, 76, 77] g41) [68, 69, 70, 81, 82, 83, 84, 85, 86, 71, 74, 75, 1127, 78, 79, 80, 72, 76, 77, 1143, 1144, 5, 1011, 1150, 1149, 1145, 1113, 1111, 1112, 91, 1147, 1100031, 1148, 73] g49) := sv_mod.sts sv_mod.rf (by decide)
              refine sv_iload_n hM dX12_solve_115 rfl rfl ?_
              refine sv_cond_eq hM dX12_solve_116 hl1_50 (t := 166) rfl rfl (fun hc => ?_) (fun hc => ?_)
              · have h := h.1 (hc)
                refine sv_aload_n hM dX12_solve_166 rfl rfl ?_
                refine sv_iconst (d := (0 : Int)) hM dX12_solve_167 rfl rfl ?_
                refine sv_putI sm_X hM dX12_solve_168 sm_fp_1034 (sm_a0 _) sm_q120 (Or.inl rfl) rfl rfl rfl rfl ?_
                have ok56 : sm_ok (sv_up (sv_sts (sv_sts (sv_up (sv_sts (sv_up (sv_up (sv_sts (sv_up (sv_sts (sv_up S 1000 0 (1 : Int)) [88, 89, 87, 1113, 5, 1011, 90] g6) 1121 0 ((S 1046 0) + ((2 : Int) * (S 1032 0)))) [71, 72] g16) 1127 0 (465000 : Int)) 75 (639 : Int) (647340 : Int)) [68, 69, 70, 81, 82, 83, 84, 85, 86, 1143, 1144, 5, 1011, 74, 78, 76, 77] g32) 1100031 0 (-1 : Int)) [68, 69, 70, 81, 82, 83, 84, 85, 86, 71, 74, 75, 1127, 78, 79, 80, 72, 76, 77] g41) [68, 69, 70, 81, 82, 83, 84, 85, 86, 71, 74, 75, 1127, 78, 79, 80, 72, 76, 77, 1143, 1144, 5, 1011, 1150, 1149, 1145, 1113, 1111, 1112, 91, 1147, 1100031, 1148, 73] g49) 1120 0 (0 : Int)) := sm_upI ok53 sm_r1120 (⟨by decide, by decide⟩ : sv_R (0 : Int))
                have md57 : sv_mod [68, 69, 70, 81, 82, 83, 84, 85, 86, 71, 74, 75, 1127, 78, 79, 80, 72, 76, 77, 1143, 1144, 5, 1011, 1150, 1149, 1145, 1113, 1111, 1112, 91, 1147, 1100031, 1148, 73, 88, 89, 87, 90, 1121, 1000, 1119, 1120] S (sv_up (sv_sts (sv_sts (sv_up (sv_sts (sv_up (sv_up (sv_sts (sv_up (sv_sts (sv_up S 1000 0 (1 : Int)) [88, 89, 87, 1113, 5, 1011, 90] g6) 1121 0 ((S 1046 0) + ((2 : Int) * (S 1032 0)))) [71, 72] g16) 1127 0 (465000 : Int)) 75 (639 : Int) (647340 : Int)) [68, 69, 70, 81, 82, 83, 84, 85, 86, 1143, 1144, 5, 1011, 74, 78, 76, 77] g32) 1100031 0 (-1 : Int)) [68, 69, 70, 81, 82, 83, 84, 85, 86, 71, 74, 75, 1127, 78, 79, 80, 72, 76, 77] g41) [68, 69, 70, 81, 82, 83, 84, 85, 86, 71, 74, 75, 1127, 78, 79, 80, 72, 76, 77, 1143, 1144, 5, 1011, 1150, 1149, 1145, 1113, 1111, 1112, 91, 1147, 1100031, 1148, 73] g49) 1120 0 (0 : Int)) := sv_mod.up md54 (by decide)
                refine sv_iconst (d := (0 : Int)) hM dX12_solve_171 rfl rfl ?_
                refine sv_istore_n hM dX12_solve_172 (by decide) rfl ?_
                show sv_T sm_XS sm_cs sm_L sm_sh 24 (q_solve S) 294 173 [(0, .ref 0), (1, sv_I l1_50), (2, sv_I (0 : Int))] [] (sv_up (sv_sts (sv_sts (sv_up (sv_sts (sv_up (sv_up (sv_sts (sv_up (sv_sts (sv_up S 1000 0 (1 : Int)) [88, 89, 87, 1113, 5, 1011, 90] g6) 1121 0 ((S 1046 0) + ((2 : Int) * (S 1032 0)))) [71, 72] g16) 1127 0 (465000 : Int)) 75 (639 : Int) (647340 : Int)) [68, 69, 70, 81, 82, 83, 84, 85, 86, 1143, 1144, 5, 1011, 74, 78, 76, 77] g32) 1100031 0 (-1 : Int)) [68, 69, 70, 81, 82, 83, 84, 85, 86, 71, 74, 75, 1127, 78, 79, 80, 72, 76, 77] g41) [68, 69, 70, 81, 82, 83, 84, 85, 86, 71, 74, 75, 1127, 78, 79, 80, 72, 76, 77, 1143, 1144, 5, 1011, 1150, 1149, 1145, 1113, 1111, 1112, 91, 1147, 1100031, 1148, 73] g49) 1120 0 (0 : Int))
                obtain ⟨hin61, h⟩ := h
                have hJ : ∀ a : Int × sv_S, (sv_R a.1 ∧ sm_ok (sv_sts (sv_up (sv_sts (sv_sts (sv_up (sv_sts (sv_up (sv_up (sv_sts (sv_up (sv_sts (sv_up S 1000 0 (1 : Int)) [88, 89, 87, 1113, 5, 1011, 90] g6) 1121 0 ((S 1046 0) + ((2 : Int) * (S 1032 0)))) [71, 72] g16) 1127 0 (465000 : Int)) 75 (639 : Int) (647340 : Int)) [68, 69, 70, 81, 82, 83, 84, 85, 86, 1143, 1144, 5, 1011, 74, 78, 76, 77] g32) 1100031 0 (-1 : Int)) [68, 69, 70, 81, 82, 83, 84, 85, 86, 71, 74, 75, 1127, 78, 79, 80, 72, 76, 77] g41) [68, 69, 70, 81, 82, 83, 84, 85, 86, 71, 74, 75, 1127, 78, 79, 80, 72, 76, 77, 1143, 1144, 5, 1011, 1150, 1149, 1145, 1113, 1111, 1112, 91, 1147, 1100031, 1148, 73] g49) 1120 0 (0 : Int)) [1120] a.2) ∧ (0 ≤ a.1 ∧ a.1 ≤ (S 1046 0) ∧ 0 ≤ (a.2 1120 0) ∧ (a.2 1120 0) ≤ a.1)) → sv_T sm_XS sm_cs sm_L sm_sh 24 (q_solve S) 294 173 [(0, .ref 0), (1, sv_I l1_50), (2, sv_I a.1)] [] (sv_sts (sv_up (sv_sts (sv_sts (sv_up (sv_sts (sv_up (sv_up (sv_sts (sv_up (sv_sts (sv_up S 1000 0 (1 : Int)) [88, 89, 87, 1113, 5, 1011, 90] g6) 1121 0 ((S 1046 0) + ((2 : Int) * (S 1032 0)))) [71, 72] g16) 1127 0 (465000 : Int)) 75 (639 : Int) (647340 : Int)) [68, 69, 70, 81, 82, 83, 84, 85, 86, 1143, 1144, 5, 1011, 74, 78, 76, 77] g32) 1100031 0 (-1 : Int)) [68, 69, 70, 81, 82, 83, 84, 85, 86, 71, 74, 75, 1127, 78, 79, 80, 72, 76, 77] g41) [68, 69, 70, 81, 82, 83, 84, 85, 86, 71, 74, 75, 1127, 78, 79, 80, 72, 76, 77, 1143, 1144, 5, 1011, 1150, 1149, 1145, 1113, 1111, 1112, 91, 1147, 1100031, 1148, 73] g49) 1120 0 (0 : Int)) [1120] a.2) := by
                  refine sv_loop (α := Int × sv_S) (fun a => sv_R a.1 ∧ sm_ok (sv_sts (sv_up (sv_sts (sv_sts (sv_up (sv_sts (sv_up (sv_up (sv_sts (sv_up (sv_sts (sv_up S 1000 0 (1 : Int)) [88, 89, 87, 1113, 5, 1011, 90] g6) 1121 0 ((S 1046 0) + ((2 : Int) * (S 1032 0)))) [71, 72] g16) 1127 0 (465000 : Int)) 75 (639 : Int) (647340 : Int)) [68, 69, 70, 81, 82, 83, 84, 85, 86, 1143, 1144, 5, 1011, 74, 78, 76, 77] g32) 1100031 0 (-1 : Int)) [68, 69, 70, 81, 82, 83, 84, 85, 86, 71, 74, 75, 1127, 78, 79, 80, 72, 76, 77] g41) [68, 69, 70, 81, 82, 83, 84, 85, 86, 71, 74, 75, 1127, 78, 79, 80, 72, 76, 77, 1143, 1144, 5, 1011, 1150, 1149, 1145, 1113, 1111, 1112, 91, 1147, 1100031, 1148, 73] g49) 1120 0 (0 : Int)) [1120] a.2) ∧ (0 ≤ a.1 ∧ a.1 ≤ (S 1046 0) ∧ 0 ≤ (a.2 1120 0) ∧ (a.2 1120 0) ≤ a.1)) (fun a => (S 1046 0) - a.1) (fun a => sv_T sm_XS sm_cs sm_L sm_sh 24 (q_solve S) 294 173 [(0, .ref 0), (1, sv_I l1_50), (2, sv_I a.1)] [] (sv_sts (sv_up (sv_sts (sv_sts (sv_up (sv_sts (sv_up (sv_up (sv_sts (sv_up (sv_sts (sv_up S 1000 0 (1 : Int)) [88, 89, 87, 1113, 5, 1011, 90] g6) 1121 0 ((S 1046 0) + ((2 : Int) * (S 1032 0)))) [71, 72] g16) 1127 0 (465000 : Int)) 75 (639 : Int) (647340 : Int)) [68, 69, 70, 81, 82, 83, 84, 85, 86, 1143, 1144, 5, 1011, 74, 78, 76, 77] g32) 1100031 0 (-1 : Int)) [68, 69, 70, 81, 82, 83, 84, 85, 86, 71, 74, 75, 1127, 78, 79, 80, 72, 76, 77] g41) [68, 69, 70, 81, 82, 83, 84, 85, 86, 71, 74, 75, 1127, 78, 79, 80, 72, 76, 77, 1143, 1144, 5, 1011, 1150, 1149, 1145, 1113, 1111, 1112, 91, 1147, 1100031, 1148, 73] g49) 1120 0 (0 : Int)) [1120] a.2)) (fun a q => (h a.1 q.1 a.2 q.2.2).1) (fun a q ih60 => ?_)
                  obtain ⟨l2_59, g58⟩ := a
                  obtain ⟨hl2_59, ok62, hin61i⟩ := q
                  have h := (h l2_59 hl2_59 g58 hin61i).2
                  show sv_T sm_XS sm_cs sm_L sm_sh 24 (q_solve S) 294 173 [(0, .ref 0), (1, sv_I l1_50), (2, sv_I l2_59)] [] (sv_sts (sv_up (sv_sts (sv_sts (sv_up (sv_sts (sv_up (sv_up (sv_sts (sv_up (sv_sts (sv_up S 1000 0 (1 : Int)) [88, 89, 87, 1113, 5, 1011, 90] g6) 1121 0 ((S 1046 0) + ((2 : Int) * (S 1032 0)))) [71, 72] g16) 1127 0 (465000 : Int)) 75 (639 : Int) (647340 : Int)) [68, 69, 70, 81, 82, 83, 84, 85, 86, 1143, 1144, 5, 1011, 74, 78, 76, 77] g32) 1100031 0 (-1 : Int)) [68, 69, 70, 81, 82, 83, 84, 85, 86, 71, 74, 75, 1127, 78, 79, 80, 72, 76, 77] g41) [68, 69, 70, 81, 82, 83, 84, 85, 86, 71, 74, 75, 1127, 78, 79, 80, 72, 76, 77, 1143, 1144, 5, 1011, 1150, 1149, 1145, 1113, 1111, 1112, 91, 1147, 1100031, 1148, 73] g49) 1120 0 (0 : Int)) [1120] g58)
                  have md63 : sv_mod [68, 69, 70, 81, 82, 83, 84, 85, 86, 71, 74, 75, 1127, 78, 79, 80, 72, 76, 77, 1143, 1144, 5, 1011, 1150, 1149, 1145, 1113, 1111, 1112, 91, 1147, 1100031, 1148, 73, 88, 89, 87, 90, 1121, 1000, 1119, 1120] S (sv_sts (sv_up (sv_sts (sv_sts (sv_up (sv_sts (sv_up (sv_up (sv_sts (sv_up (sv_sts (sv_up S 1000 0 (1 : Int)) [88, 89, 87, 1113, 5, 1011, 90] g6) 1121 0 ((S 1046 0) + ((2 : Int) * (S 1032 0)))) [71, 72] g16) 1127 0 (465000 : Int)) 75 (639 : Int) (647340 : Int)) [68, 69, 70, 81, 82, 83, 84, 85, 86, 1143, 1144, 5, 1011, 74, 78, 76, 77] g32) 1100031 0 (-1 : Int)) [68, 69, 70, 81, 82, 83, 84, 85, 86, 71, 74, 75, 1127, 78, 79, 80, 72, 76, 77] g41) [68, 69, 70, 81, 82, 83, 84, 85, 86, 71, 74, 75, 1127, 78, 79, 80, 72, 76, 77, 1143, 1144, 5, 1011, 1150, 1149, 1145, 1113, 1111, 1112, 91, 1147, 1100031, 1148, 73] g49) 1120 0 (0 : Int)) [1120] g58) := sv_mod.sts md57 (by decide)
                  have md64 : sv_mod [1120] (sv_up (sv_sts (sv_sts (sv_up (sv_sts (sv_up (sv_up (sv_sts (sv_up (sv_sts (sv_up S 1000 0 (1 : Int)) [88, 89, 87, 1113, 5, 1011, 90] g6) 1121 0 ((S 1046 0) + ((2 : Int) * (S 1032 0)))) [71, 72] g16) 1127 0 (465000 : Int)) 75 (639 : Int) (647340 : Int)) [68, 69, 70, 81, 82, 83, 84, 85, 86, 1143, 1144, 5, 1011, 74, 78, 76, 77] g32) 1100031 0 (-1 : Int)) [68, 69, 70, 81, 82, 83, 84, 85, 86, 71, 74, 75, 1127, 78, 79, 80, 72, 76, 77] g41) [68, 69, 70, 81, 82, 83, 84, 85, 86, 71, 74, 75, 1127, 78, 79, 80, 72, 76, 77, 1143, 1144, 5, 1011, 1150, 1149, 1145, 1113, 1111, 1112, 91, 1147, 1100031, 1148, 73] g49) 1120 0 (0 : Int)) (sv_sts (sv_up (sv_sts (sv_sts (sv_up (sv_sts (sv_up (sv_up (sv_sts (sv_up (sv_sts (sv_up S 1000 0 (1 : Int)) [88, 89, 87, 1113, 5, 1011, 90] g6) 1121 0 ((S 1046 0) + ((2 : Int) * (S 1032 0)))) [71, 72] g16) 1127 0 (465000 : Int)) 75 (639 : Int) (647340 : Int)) [68, 69, 70, 81, 82, 83, 84, 85, 86, 1143, 1144, 5, 1011, 74, 78, 76, 77] g32) 1100031 0 (-1 : Int)) [68, 69, 70, 81, 82, 83, 84, 85, 86, 71, 74, 75, 1127, 78, 79, 80, 72, 76, 77] g41) [68, 69, 70, 81, 82, 83, 84, 85, 86, 71, 74, 75, 1127, 78, 79, 80, 72, 76, 77, 1143, 1144, 5, 1011, 1150, 1149, 1145, 1113, 1111, 1112, 91, 1147, 1100031, 1148, 73] g49) 1120 0 (0 : Int)) [1120] g58) := sv_mod.sts sv_mod.rf (by decide)
                  refine sv_iload_n hM dX12_solve_173 rfl rfl ?_
                  refine sv_aload_n hM dX12_solve_174 rfl rfl ?_
                  refine sv_getI hM dX12_solve_175 sm_fl_606 (sm_a0 _) sm_k46 rfl (x := (S 1046 0)) rfl ?_
                  refine sv_icmp_ge hM dX12_solve_178 hl2_59 k11 (t := 210) rfl rfl (fun hc => ?_) (fun hc => ?_)
                  · have h := h.1 (hc)
                    refine sv_aload_n hM dX12_solve_210 rfl rfl ?_
                    refine sv_iconst (d := (1 : Int)) hM dX12_solve_211 rfl rfl ?_
                    refine sv_putI sm_X hM dX12_solve_212 sm_fp_776 (sm_a0 _) sm_q119 (Or.inr rfl) rfl (sv_nz (⟨by decide, by decide⟩ : 0 ≤ (1 : Int) ∧ (1 : Int) ≤ 1)) (sv_fz (⟨by decide, by decide⟩ : 0 ≤ (1 : Int) ∧ (1 : Int) ≤ 1)) rfl ?_
                    have ok65 : sm_ok (sv_up (sv_sts (sv_up (sv_sts (sv_sts (sv_up (sv_sts (sv_up (sv_up (sv_sts (sv_up (sv_sts (sv_up S 1000 0 (1 : Int)) [88, 89, 87, 1113, 5, 1011, 90] g6) 1121 0 ((S 1046 0) + ((2 : Int) * (S 1032 0)))) [71, 72] g16) 1127 0 (465000 : Int)) 75 (639 : Int) (647340 : Int)) [68, 69, 70, 81, 82, 83, 84, 85, 86, 1143, 1144, 5, 1011, 74, 78, 76, 77] g32) 1100031 0 (-1 : Int)) [68, 69, 70, 81, 82, 83, 84, 85, 86, 71, 74, 75, 1127, 78, 79, 80, 72, 76, 77] g41) [68, 69, 70, 81, 82, 83, 84, 85, 86, 71, 74, 75, 1127, 78, 79, 80, 72, 76, 77, 1143, 1144, 5, 1011, 1150, 1149, 1145, 1113, 1111, 1112, 91, 1147, 1100031, 1148, 73] g49) 1120 0 (0 : Int)) [1120] g58) 1119 0 (1 : Int)) := sm_upZ ok62 sm_r1119 (⟨by decide, by decide⟩ : 0 ≤ (1 : Int) ∧ (1 : Int) ≤ 1)
                    have md66 : sv_mod [68, 69, 70, 81, 82, 83, 84, 85, 86, 71, 74, 75, 1127, 78, 79, 80, 72, 76, 77, 1143, 1144, 5, 1011, 1150, 1149, 1145, 1113, 1111, 1112, 91, 1147, 1100031, 1148, 73, 88, 89, 87, 90, 1121, 1000, 1119, 1120] S (sv_up (sv_sts (sv_up (sv_sts (sv_sts (sv_up (sv_sts (sv_up (sv_up (sv_sts (sv_up (sv_sts (sv_up S 1000 0 (1 : Int)) [88, 89, 87, 1113, 5, 1011, 90] g6) 1121 0 ((S 1046 0) + ((2 : Int) * (S 1032 0)))) [71, 72] g16) 1127 0 (465000 : Int)) 75 (639 : Int) (647340 : Int)) [68, 69, 70, 81, 82, 83, 84, 85, 86, 1143, 1144, 5, 1011, 74, 78, 76, 77] g32) 1100031 0 (-1 : Int)) [68, 69, 70, 81, 82, 83, 84, 85, 86, 71, 74, 75, 1127, 78, 79, 80, 72, 76, 77] g41) [68, 69, 70, 81, 82, 83, 84, 85, 86, 71, 74, 75, 1127, 78, 79, 80, 72, 76, 77, 1143, 1144, 5, 1011, 1150, 1149, 1145, 1113, 1111, 1112, 91, 1147, 1100031, 1148, 73] g49) 1120 0 (0 : Int)) [1120] g58) 1119 0 (1 : Int)) := sv_mod.up md63 (by decide)
                    refine sv_aload_n hM dX12_solve_215 rfl rfl ?_
                    have k67 : sv_R (g58 1120 0) := sm_okI ok65 sm_r1120 0
                    have h := h k67
                    refine sv_getI hM dX12_solve_216 sm_fl_1034 (sm_a0 _) sm_k120 rfl (x := (g58 1120 0)) rfl ?_
                    exact sv_iret hM dX12_solve_219 rfl rfl ⟨(g58 1120 0), rfl, k67, ok65, md66, h⟩
                  · have h := h.2 (hc)
                    refine sv_aload_n hM dX12_solve_181 rfl rfl ?_
                    refine sv_dupA hM dX12_solve_182 rfl ?_
                    have k68 : sv_R (g58 1120 0) := sm_okI ok62 sm_r1120 0
                    have h := h k68
                    refine sv_getI hM dX12_solve_183 sm_fl_1034 (sm_a0 _) sm_k120 rfl (x := (g58 1120 0)) rfl ?_
                    refine sv_aload_n hM dX12_solve_186 rfl rfl ?_
                    refine sv_getA hM dX12_solve_187 sm_fl_226 (sm_a0 _) sm_k122 rfl ?_
                    refine sv_iload_n hM dX12_solve_190 rfl rfl ?_
                    obtain ⟨o69, h⟩ := h
                    have k70 : (0 ≤ (g49 71 l2_59) ∧ (g49 71 l2_59) ≤ 1) := sm_okZ ok62 sm_r71 l2_59
                    have h := h k70
                    refine sv_zald hM dX12_solve_191 (sm_a71 _) (by decide) o69.1 o69.2 rfl (x := (g49 71 l2_59)) rfl ?_
                    refine sv_cond_eq hM dX12_solve_192 (sv_R01 k70) (t := 199) rfl rfl (fun hc => ?_) (fun hc => ?_)
                    · have h := h.1 (hc)
                      refine sv_iconst (d := (0 : Int)) hM dX12_solve_199 rfl rfl ?_
                      refine sv_iadd hM dX12_solve_200 rfl ?_
                      obtain ⟨o71, h⟩ := h
                      refine sv_putI sm_X hM dX12_solve_201 sm_fp_1034 (sm_a0 _) sm_q120 (Or.inl rfl) rfl rfl rfl rfl ?_
                      have ok72 : sm_ok (sv_up (sv_sts (sv_up (sv_sts (sv_sts (sv_up (sv_sts (sv_up (sv_up (sv_sts (sv_up (sv_sts (sv_up S 1000 0 (1 : Int)) [88, 89, 87, 1113, 5, 1011, 90] g6) 1121 0 ((S 1046 0) + ((2 : Int) * (S 1032 0)))) [71, 72] g16) 1127 0 (465000 : Int)) 75 (639 : Int) (647340 : Int)) [68, 69, 70, 81, 82, 83, 84, 85, 86, 1143, 1144, 5, 1011, 74, 78, 76, 77] g32) 1100031 0 (-1 : Int)) [68, 69, 70, 81, 82, 83, 84, 85, 86, 71, 74, 75, 1127, 78, 79, 80, 72, 76, 77] g41) [68, 69, 70, 81, 82, 83, 84, 85, 86, 71, 74, 75, 1127, 78, 79, 80, 72, 76, 77, 1143, 1144, 5, 1011, 1150, 1149, 1145, 1113, 1111, 1112, 91, 1147, 1100031, 1148, 73] g49) 1120 0 (0 : Int)) [1120] g58) 1120 0 ((g58 1120 0) + (0 : Int))) := sm_upI ok62 sm_r1120 o71
                      have md73 : sv_mod [68, 69, 70, 81, 82, 83, 84, 85, 86, 71, 74, 75, 1127, 78, 79, 80, 72, 76, 77, 1143, 1144, 5, 1011, 1150, 1149, 1145, 1113, 1111, 1112, 91, 1147, 1100031, 1148, 73, 88, 89, 87, 90, 1121, 1000, 1119, 1120] S (sv_up (sv_sts (sv_up (sv_sts (sv_sts (sv_up (sv_sts (sv_up (sv_up (sv_sts (sv_up (sv_sts (sv_up S 1000 0 (1 : Int)) [88, 89, 87, 1113, 5, 1011, 90] g6) 1121 0 ((S 1046 0) + ((2 : Int) * (S 1032 0)))) [71, 72] g16) 1127 0 (465000 : Int)) 75 (639 : Int) (647340 : Int)) [68, 69, 70, 81, 82, 83, 84, 85, 86, 1143, 1144, 5, 1011, 74, 78, 76, 77] g32) 1100031 0 (-1 : Int)) [68, 69, 70, 81, 82, 83, 84, 85, 86, 71, 74, 75, 1127, 78, 79, 80, 72, 76, 77] g41) [68, 69, 70, 81, 82, 83, 84, 85, 86, 71, 74, 75, 1127, 78, 79, 80, 72, 76, 77, 1143, 1144, 5, 1011, 1150, 1149, 1145, 1113, 1111, 1112, 91, 1147, 1100031, 1148, 73] g49) 1120 0 (0 : Int)) [1120] g58) 1120 0 ((g58 1120 0) + (0 : Int))) := sv_mod.up md63 (by decide)
                      have md74 : sv_mod [1120] (sv_up (sv_sts (sv_sts (sv_up (sv_sts (sv_up (sv_up (sv_sts (sv_up (sv_sts (sv_up S 1000 0 (1 : Int)) [88, 89, 87, 1113, 5, 1011, 90] g6) 1121 0 ((S 1046 0) + ((2 : Int) * (S 1032 0)))) [71, 72] g16) 1127 0 (465000 : Int)) 75 (639 : Int) (647340 : Int)) [68, 69, 70, 81, 82, 83, 84, 85, 86, 1143, 1144, 5, 1011, 74, 78, 76, 77] g32) 1100031 0 (-1 : Int)) [68, 69, 70, 81, 82, 83, 84, 85, 86, 71, 74, 75, 1127, 78, 79, 80, 72, 76, 77] g41) [68, 69, 70, 81, 82, 83, 84, 85, 86, 71, 74, 75, 1127, 78, 79, 80, 72, 76, 77, 1143, 1144, 5, 1011, 1150, 1149, 1145, 1113, 1111, 1112, 91, 1147, 1100031, 1148, 73] g49) 1120 0 (0 : Int)) (sv_up (sv_sts (sv_up (sv_sts (sv_sts (sv_up (sv_sts (sv_up (sv_up (sv_sts (sv_up (sv_sts (sv_up S 1000 0 (1 : Int)) [88, 89, 87, 1113, 5, 1011, 90] g6) 1121 0 ((S 1046 0) + ((2 : Int) * (S 1032 0)))) [71, 72] g16) 1127 0 (465000 : Int)) 75 (639 : Int) (647340 : Int)) [68, 69, 70, 81, 82, 83, 84, 85, 86, 1143, 1144, 5, 1011, 74, 78, 76, 77] g32) 1100031 0 (-1 : Int)) [68, 69, 70, 81, 82, 83, 84, 85, 86, 71, 74, 75, 1127, 78, 79, 80, 72, 76, 77] g41) [68, 69, 70, 81, 82, 83, 84, 85, 86, 71, 74, 75, 1127, 78, 79, 80, 72, 76, 77, 1143, 1144, 5, 1011, 1150, 1149, 1145, 1113, 1111, 1112, 91, 1147, 1100031, 1148, 73] g49) 1120 0 (0 : Int)) [1120] g58) 1120 0 ((g58 1120 0) + (0 : Int))) := sv_mod.up md64 (by decide)
                      refine sv_iinc (d := (1 : Int)) hM dX12_solve_204 rfl (by decide) rfl rfl ?_
                      show sv_T sm_XS sm_cs sm_L sm_sh 24 (q_solve S) 294 207 [(0, .ref 0), (1, sv_I l1_50), (2, sv_I (l2_59 + (1 : Int)))] [] (sv_up (sv_sts (sv_up (sv_sts (sv_sts (sv_up (sv_sts (sv_up (sv_up (sv_sts (sv_up (sv_sts (sv_up S 1000 0 (1 : Int)) [88, 89, 87, 1113, 5, 1011, 90] g6) 1121 0 ((S 1046 0) + ((2 : Int) * (S 1032 0)))) [71, 72] g16) 1127 0 (465000 : Int)) 75 (639 : Int) (647340 : Int)) [68, 69, 70, 81, 82, 83, 84, 85, 86, 1143, 1144, 5, 1011, 74, 78, 76, 77] g32) 1100031 0 (-1 : Int)) [68, 69, 70, 81, 82, 83, 84, 85, 86, 71, 74, 75, 1127, 78, 79, 80, 72, 76, 77] g41) [68, 69, 70, 81, 82, 83, 84, 85, 86, 71, 74, 75, 1127, 78, 79, 80, 72, 76, 77, 1143, 1144, 5, 1011, 1150, 1149, 1145, 1113, 1111, 1112, 91, 1147, 1100031, 1148, 73] g49) 1120 0 (0 : Int)) [1120] g58) 1120 0 ((g58 1120 0) + (0 : Int)))
                      refine sv_goto hM dX12_solve_207 (pc' := 173) rfl ?_
                      obtain ⟨o75, h⟩ := h
                      have eS := sv_mod.eq md74
                      have hb := ih60 ((l2_59 + (1 : Int)), (sv_up (sv_sts (sv_up (sv_sts (sv_sts (sv_up (sv_sts (sv_up (sv_up (sv_sts (sv_up (sv_sts (sv_up S 1000 0 (1 : Int)) [88, 89, 87, 1113, 5, 1011, 90] g6) 1121 0 ((S 1046 0) + ((2 : Int) * (S 1032 0)))) [71, 72] g16) 1127 0 (465000 : Int)) 75 (639 : Int) (647340 : Int)) [68, 69, 70, 81, 82, 83, 84, 85, 86, 1143, 1144, 5, 1011, 74, 78, 76, 77] g32) 1100031 0 (-1 : Int)) [68, 69, 70, 81, 82, 83, 84, 85, 86, 71, 74, 75, 1127, 78, 79, 80, 72, 76, 77] g41) [68, 69, 70, 81, 82, 83, 84, 85, 86, 71, 74, 75, 1127, 78, 79, 80, 72, 76, 77, 1143, 1144, 5, 1011, 1150, 1149, 1145, 1113, 1111, 1112, 91, 1147, 1100031, 1148, 73] g49) 1120 0 (0 : Int)) [1120] g58) 1120 0 ((g58 1120 0) + (0 : Int)))) ⟨o75, (by rw [← eS]; exact ok72), h.1⟩ h.2
                      have hb : sv_T sm_XS sm_cs sm_L sm_sh 24 (q_solve S) 294 173 [(0, .ref 0), (1, sv_I l1_50), (2, sv_I (l2_59 + (1 : Int)))] [] (sv_up (sv_sts (sv_up (sv_sts (sv_sts (sv_up (sv_sts (sv_up (sv_up (sv_sts (sv_up (sv_sts (sv_up S 1000 0 (1 : Int)) [88, 89, 87, 1113, 5, 1011, 90] g6) 1121 0 ((S 1046 0) + ((2 : Int) * (S 1032 0)))) [71, 72] g16) 1127 0 (465000 : Int)) 75 (639 : Int) (647340 : Int)) [68, 69, 70, 81, 82, 83, 84, 85, 86, 1143, 1144, 5, 1011, 74, 78, 76, 77] g32) 1100031 0 (-1 : Int)) [68, 69, 70, 81, 82, 83, 84, 85, 86, 71, 74, 75, 1127, 78, 79, 80, 72, 76, 77] g41) [68, 69, 70, 81, 82, 83, 84, 85, 86, 71, 74, 75, 1127, 78, 79, 80, 72, 76, 77, 1143, 1144, 5, 1011, 1150, 1149, 1145, 1113, 1111, 1112, 91, 1147, 1100031, 1148, 73] g49) 1120 0 (0 : Int)) [1120] g58) 1120 0 ((g58 1120 0) + (0 : Int))) := Eq.mpr (congrArg (fun Z => sv_T sm_XS sm_cs sm_L sm_sh 24 (q_solve S) 294 173 [(0, .ref 0), (1, sv_I l1_50), (2, sv_I (l2_59 + (1 : Int)))] [] Z) eS) hb
                      exact sv_less (lv := [(0, .ref 0), (1, sv_I l1_50), (2, sv_I (l2_59 + (1 : Int)))]) (sv_Sub_cons rfl (sv_Sub_cons rfl (sv_Sub_cons rfl sv_Sub_nil))) hb
                    · have h := h.2 (hc)
                      refine sv_iconst (d := (1 : Int)) hM dX12_solve_195 rfl rfl ?_
                      refine sv_goto hM dX12_solve_196 (pc' := 200) rfl ?_
                      refine sv_iadd hM dX12_solve_200 rfl ?_
                      obtain ⟨o76, h⟩ := h
                      refine sv_putI sm_X hM dX12_solve_201 sm_fp_1034 (sm_a0 _) sm_q120 (Or.inl rfl) rfl rfl rfl rfl ?_
                      have ok77 : sm_ok (sv_up (sv_sts (sv_up (sv_sts (sv_sts (sv_up (sv_sts (sv_up (sv_up (sv_sts (sv_up (sv_sts (sv_up S 1000 0 (1 : Int)) [88, 89, 87, 1113, 5, 1011, 90] g6) 1121 0 ((S 1046 0) + ((2 : Int) * (S 1032 0)))) [71, 72] g16) 1127 0 (465000 : Int)) 75 (639 : Int) (647340 : Int)) [68, 69, 70, 81, 82, 83, 84, 85, 86, 1143, 1144, 5, 1011, 74, 78, 76, 77] g32) 1100031 0 (-1 : Int)) [68, 69, 70, 81, 82, 83, 84, 85, 86, 71, 74, 75, 1127, 78, 79, 80, 72, 76, 77] g41) [68, 69, 70, 81, 82, 83, 84, 85, 86, 71, 74, 75, 1127, 78, 79, 80, 72, 76, 77, 1143, 1144, 5, 1011, 1150, 1149, 1145, 1113, 1111, 1112, 91, 1147, 1100031, 1148, 73] g49) 1120 0 (0 : Int)) [1120] g58) 1120 0 ((g58 1120 0) + (1 : Int))) := sm_upI ok62 sm_r1120 o76
                      have md78 : sv_mod [68, 69, 70, 81, 82, 83, 84, 85, 86, 71, 74, 75, 1127, 78, 79, 80, 72, 76, 77, 1143, 1144, 5, 1011, 1150, 1149, 1145, 1113, 1111, 1112, 91, 1147, 1100031, 1148, 73, 88, 89, 87, 90, 1121, 1000, 1119, 1120] S (sv_up (sv_sts (sv_up (sv_sts (sv_sts (sv_up (sv_sts (sv_up (sv_up (sv_sts (sv_up (sv_sts (sv_up S 1000 0 (1 : Int)) [88, 89, 87, 1113, 5, 1011, 90] g6) 1121 0 ((S 1046 0) + ((2 : Int) * (S 1032 0)))) [71, 72] g16) 1127 0 (465000 : Int)) 75 (639 : Int) (647340 : Int)) [68, 69, 70, 81, 82, 83, 84, 85, 86, 1143, 1144, 5, 1011, 74, 78, 76, 77] g32) 1100031 0 (-1 : Int)) [68, 69, 70, 81, 82, 83, 84, 85, 86, 71, 74, 75, 1127, 78, 79, 80, 72, 76, 77] g41) [68, 69, 70, 81, 82, 83, 84, 85, 86, 71, 74, 75, 1127, 78, 79, 80, 72, 76, 77, 1143, 1144, 5, 1011, 1150, 1149, 1145, 1113, 1111, 1112, 91, 1147, 1100031, 1148, 73] g49) 1120 0 (0 : Int)) [1120] g58) 1120 0 ((g58 1120 0) + (1 : Int))) := sv_mod.up md63 (by decide)
                      have md79 : sv_mod [1120] (sv_up (sv_sts (sv_sts (sv_up (sv_sts (sv_up (sv_up (sv_sts (sv_up (sv_sts (sv_up S 1000 0 (1 : Int)) [88, 89, 87, 1113, 5, 1011, 90] g6) 1121 0 ((S 1046 0) + ((2 : Int) * (S 1032 0)))) [71, 72] g16) 1127 0 (465000 : Int)) 75 (639 : Int) (647340 : Int)) [68, 69, 70, 81, 82, 83, 84, 85, 86, 1143, 1144, 5, 1011, 74, 78, 76, 77] g32) 1100031 0 (-1 : Int)) [68, 69, 70, 81, 82, 83, 84, 85, 86, 71, 74, 75, 1127, 78, 79, 80, 72, 76, 77] g41) [68, 69, 70, 81, 82, 83, 84, 85, 86, 71, 74, 75, 1127, 78, 79, 80, 72, 76, 77, 1143, 1144, 5, 1011, 1150, 1149, 1145, 1113, 1111, 1112, 91, 1147, 1100031, 1148, 73] g49) 1120 0 (0 : Int)) (sv_up (sv_sts (sv_up (sv_sts (sv_sts (sv_up (sv_sts (sv_up (sv_up (sv_sts (sv_up (sv_sts (sv_up S 1000 0 (1 : Int)) [88, 89, 87, 1113, 5, 1011, 90] g6) 1121 0 ((S 1046 0) + ((2 : Int) * (S 1032 0)))) [71, 72] g16) 1127 0 (465000 : Int)) 75 (639 : Int) (647340 : Int)) [68, 69, 70, 81, 82, 83, 84, 85, 86, 1143, 1144, 5, 1011, 74, 78, 76, 77] g32) 1100031 0 (-1 : Int)) [68, 69, 70, 81, 82, 83, 84, 85, 86, 71, 74, 75, 1127, 78, 79, 80, 72, 76, 77] g41) [68, 69, 70, 81, 82, 83, 84, 85, 86, 71, 74, 75, 1127, 78, 79, 80, 72, 76, 77, 1143, 1144, 5, 1011, 1150, 1149, 1145, 1113, 1111, 1112, 91, 1147, 1100031, 1148, 73] g49) 1120 0 (0 : Int)) [1120] g58) 1120 0 ((g58 1120 0) + (1 : Int))) := sv_mod.up md64 (by decide)
                      refine sv_iinc (d := (1 : Int)) hM dX12_solve_204 rfl (by decide) rfl rfl ?_
                      show sv_T sm_XS sm_cs sm_L sm_sh 24 (q_solve S) 294 207 [(0, .ref 0), (1, sv_I l1_50), (2, sv_I (l2_59 + (1 : Int)))] [] (sv_up (sv_sts (sv_up (sv_sts (sv_sts (sv_up (sv_sts (sv_up (sv_up (sv_sts (sv_up (sv_sts (sv_up S 1000 0 (1 : Int)) [88, 89, 87, 1113, 5, 1011, 90] g6) 1121 0 ((S 1046 0) + ((2 : Int) * (S 1032 0)))) [71, 72] g16) 1127 0 (465000 : Int)) 75 (639 : Int) (647340 : Int)) [68, 69, 70, 81, 82, 83, 84, 85, 86, 1143, 1144, 5, 1011, 74, 78, 76, 77] g32) 1100031 0 (-1 : Int)) [68, 69, 70, 81, 82, 83, 84, 85, 86, 71, 74, 75, 1127, 78, 79, 80, 72, 76, 77] g41) [68, 69, 70, 81, 82, 83, 84, 85, 86, 71, 74, 75, 1127, 78, 79, 80, 72, 76, 77, 1143, 1144, 5, 1011, 1150, 1149, 1145, 1113, 1111, 1112, 91, 1147, 1100031, 1148, 73] g49) 1120 0 (0 : Int)) [1120] g58) 1120 0 ((g58 1120 0) + (1 : Int)))
                      refine sv_goto hM dX12_solve_207 (pc' := 173) rfl ?_
                      obtain ⟨o80, h⟩ := h
                      have eS := sv_mod.eq md79
                      have hb := ih60 ((l2_59 + (1 : Int)), (sv_up (sv_sts (sv_up (sv_sts (sv_sts (sv_up (sv_sts (sv_up (sv_up (sv_sts (sv_up (sv_sts (sv_up S 1000 0 (1 : Int)) [88, 89, 87, 1113, 5, 1011, 90] g6) 1121 0 ((S 1046 0) + ((2 : Int) * (S 1032 0)))) [71, 72] g16) 1127 0 (465000 : Int)) 75 (639 : Int) (647340 : Int)) [68, 69, 70, 81, 82, 83, 84, 85, 86, 1143, 1144, 5, 1011, 74, 78, 76, 77] g32) 1100031 0 (-1 : Int)) [68, 69, 70, 81, 82, 83, 84, 85, 86, 71, 74, 75, 1127, 78, 79, 80, 72, 76, 77] g41) [68, 69, 70, 81, 82, 83, 84, 85, 86, 71, 74, 75, 1127, 78, 79, 80, 72, 76, 77, 1143, 1144, 5, 1011, 1150, 1149, 1145, 1113, 1111, 1112, 91, 1147, 1100031, 1148, 73] g49) 1120 0 (0 : Int)) [1120] g58) 1120 0 ((g58 1120 0) + (1 : Int)))) ⟨o80, (by rw [← eS]; exact ok77), h.1⟩ h.2
                      have hb : sv_T sm_XS sm_cs sm_L sm_sh 24 (q_solve S) 294 173 [(0, .ref 0), (1, sv_I l1_50), (2, sv_I (l2_59 + (1 : Int)))] [] (sv_up (sv_sts (sv_up (sv_sts (sv_sts (sv_up (sv_sts (sv_up (sv_up (sv_sts (sv_up (sv_sts (sv_up S 1000 0 (1 : Int)) [88, 89, 87, 1113, 5, 1011, 90] g6) 1121 0 ((S 1046 0) + ((2 : Int) * (S 1032 0)))) [71, 72] g16) 1127 0 (465000 : Int)) 75 (639 : Int) (647340 : Int)) [68, 69, 70, 81, 82, 83, 84, 85, 86, 1143, 1144, 5, 1011, 74, 78, 76, 77] g32) 1100031 0 (-1 : Int)) [68, 69, 70, 81, 82, 83, 84, 85, 86, 71, 74, 75, 1127, 78, 79, 80, 72, 76, 77] g41) [68, 69, 70, 81, 82, 83, 84, 85, 86, 71, 74, 75, 1127, 78, 79, 80, 72, 76, 77, 1143, 1144, 5, 1011, 1150, 1149, 1145, 1113, 1111, 1112, 91, 1147, 1100031, 1148, 73] g49) 1120 0 (0 : Int)) [1120] g58) 1120 0 ((g58 1120 0) + (1 : Int))) := Eq.mpr (congrArg (fun Z => sv_T sm_XS sm_cs sm_L sm_sh 24 (q_solve S) 294 173 [(0, .ref 0), (1, sv_I l1_50), (2, sv_I (l2_59 + (1 : Int)))] [] Z) eS) hb
                      exact sv_less (lv := [(0, .ref 0), (1, sv_I l1_50), (2, sv_I (l2_59 + (1 : Int)))]) (sv_Sub_cons rfl (sv_Sub_cons rfl (sv_Sub_cons rfl sv_Sub_nil))) hb
                have eS := sv_mod.eq (sv_mod.rf (l := [1120]) (S := (sv_up (sv_sts (sv_sts (sv_up (sv_sts (sv_up (sv_up (sv_sts (sv_up (sv_sts (sv_up S 1000 0 (1 : Int)) [88, 89, 87, 1113, 5, 1011, 90] g6) 1121 0 ((S 1046 0) + ((2 : Int) * (S 1032 0)))) [71, 72] g16) 1127 0 (465000 : Int)) 75 (639 : Int) (647340 : Int)) [68, 69, 70, 81, 82, 83, 84, 85, 86, 1143, 1144, 5, 1011, 74, 78, 76, 77] g32) 1100031 0 (-1 : Int)) [68, 69, 70, 81, 82, 83, 84, 85, 86, 71, 74, 75, 1127, 78, 79, 80, 72, 76, 77] g41) [68, 69, 70, 81, 82, 83, 84, 85, 86, 71, 74, 75, 1127, 78, 79, 80, 72, 76, 77, 1143, 1144, 5, 1011, 1150, 1149, 1145, 1113, 1111, 1112, 91, 1147, 1100031, 1148, 73] g49) 1120 0 (0 : Int))))
                have hb := hJ ((0 : Int), (sv_up (sv_sts (sv_sts (sv_up (sv_sts (sv_up (sv_up (sv_sts (sv_up (sv_sts (sv_up S 1000 0 (1 : Int)) [88, 89, 87, 1113, 5, 1011, 90] g6) 1121 0 ((S 1046 0) + ((2 : Int) * (S 1032 0)))) [71, 72] g16) 1127 0 (465000 : Int)) 75 (639 : Int) (647340 : Int)) [68, 69, 70, 81, 82, 83, 84, 85, 86, 1143, 1144, 5, 1011, 74, 78, 76, 77] g32) 1100031 0 (-1 : Int)) [68, 69, 70, 81, 82, 83, 84, 85, 86, 71, 74, 75, 1127, 78, 79, 80, 72, 76, 77] g41) [68, 69, 70, 81, 82, 83, 84, 85, 86, 71, 74, 75, 1127, 78, 79, 80, 72, 76, 77, 1143, 1144, 5, 1011, 1150, 1149, 1145, 1113, 1111, 1112, 91, 1147, 1100031, 1148, 73] g49) 1120 0 (0 : Int))) ⟨(⟨by decide, by decide⟩ : sv_R (0 : Int)), (by rw [← eS]; exact ok56), hin61⟩
                have hb : sv_T sm_XS sm_cs sm_L sm_sh 24 (q_solve S) 294 173 [(0, .ref 0), (1, sv_I l1_50), (2, sv_I (0 : Int))] [] (sv_up (sv_sts (sv_sts (sv_up (sv_sts (sv_up (sv_up (sv_sts (sv_up (sv_sts (sv_up S 1000 0 (1 : Int)) [88, 89, 87, 1113, 5, 1011, 90] g6) 1121 0 ((S 1046 0) + ((2 : Int) * (S 1032 0)))) [71, 72] g16) 1127 0 (465000 : Int)) 75 (639 : Int) (647340 : Int)) [68, 69, 70, 81, 82, 83, 84, 85, 86, 1143, 1144, 5, 1011, 74, 78, 76, 77] g32) 1100031 0 (-1 : Int)) [68, 69, 70, 81, 82, 83, 84, 85, 86, 71, 74, 75, 1127, 78, 79, 80, 72, 76, 77] g41) [68, 69, 70, 81, 82, 83, 84, 85, 86, 71, 74, 75, 1127, 78, 79, 80, 72, 76, 77, 1143, 1144, 5, 1011, 1150, 1149, 1145, 1113, 1111, 1112, 91, 1147, 1100031, 1148, 73] g49) 1120 0 (0 : Int)) := Eq.mpr (congrArg (fun Z => sv_T sm_XS sm_cs sm_L sm_sh 24 (q_solve S) 294 173 [(0, .ref 0), (1, sv_I l1_50), (2, sv_I (0 : Int))] [] Z) eS) hb
                exact hb
              · have h := h.2 (hc)
                refine sv_iconst (d := (0 : Int)) hM dX12_solve_119 rfl rfl ?_
                refine sv_istore_n hM dX12_solve_120 (by decide) rfl ?_
                show sv_T sm_XS sm_cs sm_L sm_sh 24 (q_solve S) 294 121 [(0, .ref 0), (1, sv_I (0 : Int))] [] (sv_sts (sv_sts (sv_up (sv_sts (sv_up (sv_up (sv_sts (sv_up (sv_sts (sv_up S 1000 0 (1 : Int)) [88, 89, 87, 1113, 5, 1011, 90] g6) 1121 0 ((S 1046 0) + ((2 : Int) * (S 1032 0)))) [71, 72] g16) 1127 0 (465000 : Int)) 75 (639 : Int) (647340 : Int)) [68, 69, 70, 81, 82, 83, 84, 85, 86, 1143, 1144, 5, 1011, 74, 78, 76, 77] g32) 1100031 0 (-1 : Int)) [68, 69, 70, 81, 82, 83, 84, 85, 86, 71, 74, 75, 1127, 78, 79, 80, 72, 76, 77] g41) [68, 69, 70, 81, 82, 83, 84, 85, 86, 71, 74, 75, 1127, 78, 79, 80, 72, 76, 77, 1143, 1144, 5, 1011, 1150, 1149, 1145, 1113, 1111, 1112, 91, 1147, 1100031, 1148, 73] g49)
                refine sv_iconst (d := (0 : Int)) hM dX12_solve_121 rfl rfl ?_
                refine sv_istore_n hM dX12_solve_122 (by decide) rfl ?_
                show sv_T sm_XS sm_cs sm_L sm_sh 24 (q_solve S) 294 123 [(0, .ref 0), (1, sv_I (0 : Int)), (2, sv_I (0 : Int))] [] (sv_sts (sv_sts (sv_up (sv_sts (sv_up (sv_up (sv_sts (sv_up (sv_sts (sv_up S 1000 0 (1 : Int)) [88, 89, 87, 1113, 5, 1011, 90] g6) 1121 0 ((S 1046 0) + ((2 : Int) * (S 1032 0)))) [71, 72] g16) 1127 0 (465000 : Int)) 75 (639 : Int) (647340 : Int)) [68, 69, 70, 81, 82, 83, 84, 85, 86, 1143, 1144, 5, 1011, 74, 78, 76, 77] g32) 1100031 0 (-1 : Int)) [68, 69, 70, 81, 82, 83, 84, 85, 86, 71, 74, 75, 1127, 78, 79, 80, 72, 76, 77] g41) [68, 69, 70, 81, 82, 83, 84, 85, 86, 71, 74, 75, 1127, 78, 79, 80, 72, 76, 77, 1143, 1144, 5, 1011, 1150, 1149, 1145, 1113, 1111, 1112, 91, 1147, 1100031, 1148, 73] g49)
                obtain ⟨hin85, h⟩ := h
                have hJ : ∀ a : Int × Int × sv_S, (sv_R a.1 ∧ sv_R a.2.1 ∧ sm_ok (sv_sts (sv_sts (sv_sts (sv_up (sv_sts (sv_up (sv_up (sv_sts (sv_up (sv_sts (sv_up S 1000 0 (1 : Int)) [88, 89, 87, 1113, 5, 1011, 90] g6) 1121 0 ((S 1046 0) + ((2 : Int) * (S 1032 0)))) [71, 72] g16) 1127 0 (465000 : Int)) 75 (639 : Int) (647340 : Int)) [68, 69, 70, 81, 82, 83, 84, 85, 86, 1143, 1144, 5, 1011, 74, 78, 76, 77] g32) 1100031 0 (-1 : Int)) [68, 69, 70, 81, 82, 83, 84, 85, 86, 71, 74, 75, 1127, 78, 79, 80, 72, 76, 77] g41) [68, 69, 70, 81, 82, 83, 84, 85, 86, 71, 74, 75, 1127, 78, 79, 80, 72, 76, 77, 1143, 1144, 5, 1011, 1150, 1149, 1145, 1113, 1111, 1112, 91, 1147, 1100031, 1148, 73] g49) [68, 69, 70, 81, 82, 83, 84, 85, 86, 71, 74, 75, 1127, 78, 79, 80, 72, 76, 77, 1143, 1144, 5, 1011, 1150, 1149, 1145, 1113, 1111, 1112, 91, 1147, 1100031, 1148, 73] a.2.2) ∧ ((a.1 = 0 ∨ a.1 = 1) ∧ 0 ≤ a.2.1 ∧ a.2.1 ≤ (S 1046 0) ∧ sm_ST (a.2.2 71) (a.2.2 74) (a.2.2 75) (a.2.2 78) (a.2.2 79) (a.2.2 80) (S 27) (S 1100007) (S 1100023) (S 1100024) (S 1046 0) ((S 1046 0) + 2 * (S 1032 0)) (a.2.2 1127 0) ∧ 465000 ≤ (a.2.2 1127 0) ∧ (a.2.2 1127 0) + sm_hs (a.2.2 71) (S 1100007) ≤ 635000 ∧ (a.2.2 75 639) = 647340 ∧ sm_DR (a.2.2 72) (a.2.2 71) (S 1046 0) ∧ 0 ≤ sm_pl (a.2.2 81) (a.2.2 82) (a.2.2 83) (a.2.2 84) (a.2.2 85) (a.2.2 86) ∧ 0 ≤ sm_cm (a.2.2 71) ∧ 0 ≤ sm_du (a.2.2 72) ∧ (641 * (sm_cm (a.2.2 71) + sm_pt (a.2.2 68) (a.2.2 69) (a.2.2 70) + sm_pl (a.2.2 81) (a.2.2 82) (a.2.2 83) (a.2.2 84) (a.2.2 85) (a.2.2 86) + sm_ps (a.2.2 76) (a.2.2 77)) + sm_du (a.2.2 72)) + a.1 ≤ (641 * (sm_cm (g49 71) + sm_pt (g49 68) (g49 69) (g49 70) + sm_pl (g49 81) (g49 82) (g49 83) (g49 84) (g49 85) (g49 86) + sm_ps (g49 76) (g49 77)) + sm_du (g49 72)))) → sv_T sm_XS sm_cs sm_L sm_sh 24 (q_solve S) 294 123 [(0, .ref 0), (1, sv_I a.1), (2, sv_I a.2.1)] [] (sv_sts (sv_sts (sv_sts (sv_up (sv_sts (sv_up (sv_up (sv_sts (sv_up (sv_sts (sv_up S 1000 0 (1 : Int)) [88, 89, 87, 1113, 5, 1011, 90] g6) 1121 0 ((S 1046 0) + ((2 : Int) * (S 1032 0)))) [71, 72] g16) 1127 0 (465000 : Int)) 75 (639 : Int) (647340 : Int)) [68, 69, 70, 81, 82, 83, 84, 85, 86, 1143, 1144, 5, 1011, 74, 78, 76, 77] g32) 1100031 0 (-1 : Int)) [68, 69, 70, 81, 82, 83, 84, 85, 86, 71, 74, 75, 1127, 78, 79, 80, 72, 76, 77] g41) [68, 69, 70, 81, 82, 83, 84, 85, 86, 71, 74, 75, 1127, 78, 79, 80, 72, 76, 77, 1143, 1144, 5, 1011, 1150, 1149, 1145, 1113, 1111, 1112, 91, 1147, 1100031, 1148, 73] g49) [68, 69, 70, 81, 82, 83, 84, 85, 86, 71, 74, 75, 1127, 78, 79, 80, 72, 76, 77, 1143, 1144, 5, 1011, 1150, 1149, 1145, 1113, 1111, 1112, 91, 1147, 1100031, 1148, 73] a.2.2) := by
                  refine sv_loop (α := Int × Int × sv_S) (fun a => sv_R a.1 ∧ sv_R a.2.1 ∧ sm_ok (sv_sts (sv_sts (sv_sts (sv_up (sv_sts (sv_up (sv_up (sv_sts (sv_up (sv_sts (sv_up S 1000 0 (1 : Int)) [88, 89, 87, 1113, 5, 1011, 90] g6) 1121 0 ((S 1046 0) + ((2 : Int) * (S 1032 0)))) [71, 72] g16) 1127 0 (465000 : Int)) 75 (639 : Int) (647340 : Int)) [68, 69, 70, 81, 82, 83, 84, 85, 86, 1143, 1144, 5, 1011, 74, 78, 76, 77] g32) 1100031 0 (-1 : Int)) [68, 69, 70, 81, 82, 83, 84, 85, 86, 71, 74, 75, 1127, 78, 79, 80, 72, 76, 77] g41) [68, 69, 70, 81, 82, 83, 84, 85, 86, 71, 74, 75, 1127, 78, 79, 80, 72, 76, 77, 1143, 1144, 5, 1011, 1150, 1149, 1145, 1113, 1111, 1112, 91, 1147, 1100031, 1148, 73] g49) [68, 69, 70, 81, 82, 83, 84, 85, 86, 71, 74, 75, 1127, 78, 79, 80, 72, 76, 77, 1143, 1144, 5, 1011, 1150, 1149, 1145, 1113, 1111, 1112, 91, 1147, 1100031, 1148, 73] a.2.2) ∧ ((a.1 = 0 ∨ a.1 = 1) ∧ 0 ≤ a.2.1 ∧ a.2.1 ≤ (S 1046 0) ∧ sm_ST (a.2.2 71) (a.2.2 74) (a.2.2 75) (a.2.2 78) (a.2.2 79) (a.2.2 80) (S 27) (S 1100007) (S 1100023) (S 1100024) (S 1046 0) ((S 1046 0) + 2 * (S 1032 0)) (a.2.2 1127 0) ∧ 465000 ≤ (a.2.2 1127 0) ∧ (a.2.2 1127 0) + sm_hs (a.2.2 71) (S 1100007) ≤ 635000 ∧ (a.2.2 75 639) = 647340 ∧ sm_DR (a.2.2 72) (a.2.2 71) (S 1046 0) ∧ 0 ≤ sm_pl (a.2.2 81) (a.2.2 82) (a.2.2 83) (a.2.2 84) (a.2.2 85) (a.2.2 86) ∧ 0 ≤ sm_cm (a.2.2 71) ∧ 0 ≤ sm_du (a.2.2 72) ∧ (641 * (sm_cm (a.2.2 71) + sm_pt (a.2.2 68) (a.2.2 69) (a.2.2 70) + sm_pl (a.2.2 81) (a.2.2 82) (a.2.2 83) (a.2.2 84) (a.2.2 85) (a.2.2 86) + sm_ps (a.2.2 76) (a.2.2 77)) + sm_du (a.2.2 72)) + a.1 ≤ (641 * (sm_cm (g49 71) + sm_pt (g49 68) (g49 69) (g49 70) + sm_pl (g49 81) (g49 82) (g49 83) (g49 84) (g49 85) (g49 86) + sm_ps (g49 76) (g49 77)) + sm_du (g49 72)))) (fun a => (S 1046 0) - a.2.1) (fun a => sv_T sm_XS sm_cs sm_L sm_sh 24 (q_solve S) 294 123 [(0, .ref 0), (1, sv_I a.1), (2, sv_I a.2.1)] [] (sv_sts (sv_sts (sv_sts (sv_up (sv_sts (sv_up (sv_up (sv_sts (sv_up (sv_sts (sv_up S 1000 0 (1 : Int)) [88, 89, 87, 1113, 5, 1011, 90] g6) 1121 0 ((S 1046 0) + ((2 : Int) * (S 1032 0)))) [71, 72] g16) 1127 0 (465000 : Int)) 75 (639 : Int) (647340 : Int)) [68, 69, 70, 81, 82, 83, 84, 85, 86, 1143, 1144, 5, 1011, 74, 78, 76, 77] g32) 1100031 0 (-1 : Int)) [68, 69, 70, 81, 82, 83, 84, 85, 86, 71, 74, 75, 1127, 78, 79, 80, 72, 76, 77] g41) [68, 69, 70, 81, 82, 83, 84, 85, 86, 71, 74, 75, 1127, 78, 79, 80, 72, 76, 77, 1143, 1144, 5, 1011, 1150, 1149, 1145, 1113, 1111, 1112, 91, 1147, 1100031, 1148, 73] g49) [68, 69, 70, 81, 82, 83, 84, 85, 86, 71, 74, 75, 1127, 78, 79, 80, 72, 76, 77, 1143, 1144, 5, 1011, 1150, 1149, 1145, 1113, 1111, 1112, 91, 1147, 1100031, 1148, 73] a.2.2)) (fun a q => (h a.1 q.1 a.2.1 q.2.1 a.2.2 q.2.2.2).1) (fun a q ih84 => ?_)
                  obtain ⟨l1_82, l2_83, g81⟩ := a
                  obtain ⟨hl1_82, hl2_83, ok86, hin85i⟩ := q
                  have h := (h l1_82 hl1_82 l2_83 hl2_83 g81 hin85i).2
                  show sv_T sm_XS sm_cs sm_L sm_sh 24 (q_solve S) 294 123 [(0, .ref 0), (1, sv_I l1_82), (2, sv_I l2_83)] [] (sv_sts (sv_sts (sv_sts (sv_up (sv_sts (sv_up (sv_up (sv_sts (sv_up (sv_sts (sv_up S 1000 0 (1 : Int)) [88, 89, 87, 1113, 5, 1011, 90] g6) 1121 0 ((S 1046 0) + ((2 : Int) * (S 1032 0)))) [71, 72] g16) 1127 0 (465000 : Int)) 75 (639 : Int) (647340 : Int)) [68, 69, 70, 81, 82, 83, 84, 85, 86, 1143, 1144, 5, 1011, 74, 78, 76, 77] g32) 1100031 0 (-1 : Int)) [68, 69, 70, 81, 82, 83, 84, 85, 86, 71, 74, 75, 1127, 78, 79, 80, 72, 76, 77] g41) [68, 69, 70, 81, 82, 83, 84, 85, 86, 71, 74, 75, 1127, 78, 79, 80, 72, 76, 77, 1143, 1144, 5, 1011, 1150, 1149, 1145, 1113, 1111, 1112, 91, 1147, 1100031, 1148, 73] g49) [68, 69, 70, 81, 82, 83, 84, 85, 86, 71, 74, 75, 1127, 78, 79, 80, 72, 76, 77, 1143, 1144, 5, 1011, 1150, 1149, 1145, 1113, 1111, 1112, 91, 1147, 1100031, 1148, 73] g81)
                  have md87 : sv_mod [68, 69, 70, 81, 82, 83, 84, 85, 86, 71, 74, 75, 1127, 78, 79, 80, 72, 76, 77, 1143, 1144, 5, 1011, 1150, 1149, 1145, 1113, 1111, 1112, 91, 1147, 1100031, 1148, 73, 88, 89, 87, 90, 1121, 1000, 1119, 1120] S (sv_sts (sv_sts (sv_sts (sv_up (sv_sts (sv_up (sv_up (sv_sts (sv_up (sv_sts (sv_up S 1000 0 (1 : Int)) [88, 89, 87, 1113, 5, 1011, 90] g6) 1121 0 ((S 1046 0) + ((2 : Int) * (S 1032 0)))) [71, 72] g16) 1127 0 (465000 : Int)) 75 (639 : Int) (647340 : Int)) [68, 69, 70, 81, 82, 83, 84, 85, 86, 1143, 1144, 5, 1011, 74, 78, 76, 77] g32) 1100031 0 (-1 : Int)) [68, 69, 70, 81, 82, 83, 84, 85, 86, 71, 74, 75, 1127, 78, 79, 80, 72, 76, 77] g41) [68, 69, 70, 81, 82, 83, 84, 85, 86, 71, 74, 75, 1127, 78, 79, 80, 72, 76, 77, 1143, 1144, 5, 1011, 1150, 1149, 1145, 1113, 1111, 1112, 91, 1147, 1100031, 1148, 73] g49) [68, 69, 70, 81, 82, 83, 84, 85, 86, 71, 74, 75, 1127, 78, 79, 80, 72, 76, 77, 1143, 1144, 5, 1011, 1150, 1149, 1145, 1113, 1111, 1112, 91, 1147, 1100031, 1148, 73] g81) := sv_mod.sts md54 (by decide)
                  have md88 : sv_mod [68, 69, 70, 81, 82, 83, 84, 85, 86, 71, 74, 75, 1127, 78, 79, 80, 72, 76, 77, 1143, 1144, 5, 1011, 1150, 1149, 1145, 1113, 1111, 1112, 91, 1147, 1100031, 1148, 73] (sv_sts (sv_up (sv_sts (sv_up (sv_up (sv_sts (sv_up (sv_sts (sv_up S 1000 0 (1 : Int)) [88, 89, 87, 1113, 5, 1011, 90] g6) 1121 0 ((S 1046 0) + ((2 : Int) * (S 1032 0)))) [71, 72] g16) 1127 0 (465000 : Int)) 75 (639 : Int) (647340 : Int)) [68, 69, 70, 81, 82, 83, 84, 85, 86, 1143, 1144, 5, 1011, 74, 78, 76, 77] g32) 1100031 0 (-1 : Int)) [68, 69, 70, 81, 82, 83, 84, 85, 86, 71, 74, 75, 1127, 78, 79, 80, 72, 76, 77] g41) (sv_sts (sv_sts (sv_sts (sv_up (sv_sts (sv_up (sv_up (sv_sts (sv_up (sv_sts (sv_up S 1000 0 (1 : Int)) [88, 89, 87, 1113, 5, 1011, 90] g6) 1121 0 ((S 1046 0) + ((2 : Int) * (S 1032 0)))) [71, 72] g16) 1127 0 (465000 : Int)) 75 (639 : Int) (647340 : Int)) [68, 69, 70, 81, 82, 83, 84, 85, 86, 1143, 1144, 5, 1011, 74, 78, 76, 77] g32) 1100031 0 (-1 : Int)) [68, 69, 70, 81, 82, 83, 84, 85, 86, 71, 74, 75, 1127, 78, 79, 80, 72, 76, 77] g41) [68, 69, 70, 81, 82, 83, 84, 85, 86, 71, 74, 75, 1127, 78, 79, 80, 72, 76, 77, 1143, 1144, 5, 1011, 1150, 1149, 1145, 1113, 1111, 1112, 91, 1147, 1100031, 1148, 73] g49) [68, 69, 70, 81, 82, 83, 84, 85, 86, 71, 74, 75, 1127, 78, 79, 80, 72, 76, 77, 1143, 1144, 5, 1011, 1150, 1149, 1145, 1113, 1111, 1112, 91, 1147, 1100031, 1148, 73] g81) := sv_mod.sts md55 (by decide)
                  have md89 : sv_mod [68, 69, 70, 81, 82, 83, 84, 85, 86, 71, 74, 75, 1127, 78, 79, 80, 72, 76, 77, 1143, 1144, 5, 1011, 1150, 1149, 1145, 1113, 1111, 1112, 91, 1147, 1100031, 1148, 73] (sv_sts (sv_sts (sv_up (sv_sts (sv_up (sv_up (sv_sts (sv_up (sv_sts (sv_up S 1000 0 (1 : Int)) [88, 89, 87, 1113, 5, 1011, 90] g6) 1121 0 ((S 1046 0) + ((2 : Int) * (S 1032 0)))) [71, 72] g16) 1127 0 (465000 : Int)) 75 (639 : Int) (647340 : Int)) [68, 69, 70, 81, 82, 83, 84, 85, 86, 1143, 1144, 5, 1011, 74, 78, 76, 77] g32) 1100031 0 (-1 : Int)) [68, 69, 70, 81, 82, 83, 84, 85, 86, 71, 74, 75, 1127, 78, 79, 80, 72, 76, 77] g41) [68, 69, 70, 81, 82, 83, 84, 85, 86, 71, 74, 75, 1127, 78, 79, 80, 72, 76, 77, 1143, 1144, 5, 1011, 1150, 1149, 1145, 1113, 1111, 1112, 91, 1147, 1100031, 1148, 73] g49) (sv_sts (sv_sts (sv_sts (sv_up (sv_sts (sv_up (sv_up (sv_sts (sv_up (sv_sts (sv_up S 1000 0 (1 : Int)) [88, 89, 87, 1113, 5, 1011, 90] g6) 1121 0 ((S 1046 0) + ((2 : Int) * (S 1032 0)))) [71, 72] g16) 1127 0 (465000 : Int)) 75 (639 : Int) (647340 : Int)) [68, 69, 70, 81, 82, 83, 84, 85, 86, 1143, 1144, 5, 1011, 74, 78, 76, 77] g32) 1100031 0 (-1 : Int)) [68, 69, 70, 81, 82, 83, 84, 85, 86, 71, 74, 75, 1127, 78, 79, 80, 72, 76, 77] g41) [68, 69, 70, 81, 82, 83, 84, 85, 86, 71, 74, 75, 1127, 78, 79, 80, 72, 76, 77, 1143, 1144, 5, 1011, 1150, 1149, 1145, 1113, 1111, 1112, 91, 1147, 1100031, 1148, 73] g49) [68, 69, 70, 81, 82, 83, 84, 85, 86, 71, 74, 75, 1127, 78, 79, 80, 72, 76, 77, 1143, 1144, 5, 1011, 1150, 1149, 1145, 1113, 1111, 1112, 91, 1147, 1100031, 1148, 73] g81) := sv_mod.sts sv_mod.rf (by decide)
                  refine sv_iload_n hM dX12_solve_123 rfl rfl ?_
                  refine sv_aload_n hM dX12_solve_124 rfl rfl ?_
                  refine sv_getI hM dX12_solve_125 sm_fl_606 (sm_a0 _) sm_k46 rfl (x := (S 1046 0)) rfl ?_
                  refine sv_icmp_ge hM dX12_solve_128 hl2_83 k11 (t := 163) rfl rfl (fun hc => ?_) (fun hc => ?_)
                  · have h := h.1 (hc)
                    refine sv_goto hM dX12_solve_163 (pc' := 115) rfl ?_
                    have eS := sv_mod.eq md88
                    have hb := ih51 (l1_82, (sv_sts (sv_sts (sv_sts (sv_up (sv_sts (sv_up (sv_up (sv_sts (sv_up (sv_sts (sv_up S 1000 0 (1 : Int)) [88, 89, 87, 1113, 5, 1011, 90] g6) 1121 0 ((S 1046 0) + ((2 : Int) * (S 1032 0)))) [71, 72] g16) 1127 0 (465000 : Int)) 75 (639 : Int) (647340 : Int)) [68, 69, 70, 81, 82, 83, 84, 85, 86, 1143, 1144, 5, 1011, 74, 78, 76, 77] g32) 1100031 0 (-1 : Int)) [68, 69, 70, 81, 82, 83, 84, 85, 86, 71, 74, 75, 1127, 78, 79, 80, 72, 76, 77] g41) [68, 69, 70, 81, 82, 83, 84, 85, 86, 71, 74, 75, 1127, 78, 79, 80, 72, 76, 77, 1143, 1144, 5, 1011, 1150, 1149, 1145, 1113, 1111, 1112, 91, 1147, 1100031, 1148, 73] g49) [68, 69, 70, 81, 82, 83, 84, 85, 86, 71, 74, 75, 1127, 78, 79, 80, 72, 76, 77, 1143, 1144, 5, 1011, 1150, 1149, 1145, 1113, 1111, 1112, 91, 1147, 1100031, 1148, 73] g81)) ⟨hl1_82, (by rw [← eS]; exact ok86), h.1⟩ h.2
                    have hb : sv_T sm_XS sm_cs sm_L sm_sh 24 (q_solve S) 294 115 [(0, .ref 0), (1, sv_I l1_82)] [] (sv_sts (sv_sts (sv_sts (sv_up (sv_sts (sv_up (sv_up (sv_sts (sv_up (sv_sts (sv_up S 1000 0 (1 : Int)) [88, 89, 87, 1113, 5, 1011, 90] g6) 1121 0 ((S 1046 0) + ((2 : Int) * (S 1032 0)))) [71, 72] g16) 1127 0 (465000 : Int)) 75 (639 : Int) (647340 : Int)) [68, 69, 70, 81, 82, 83, 84, 85, 86, 1143, 1144, 5, 1011, 74, 78, 76, 77] g32) 1100031 0 (-1 : Int)) [68, 69, 70, 81, 82, 83, 84, 85, 86, 71, 74, 75, 1127, 78, 79, 80, 72, 76, 77] g41) [68, 69, 70, 81, 82, 83, 84, 85, 86, 71, 74, 75, 1127, 78, 79, 80, 72, 76, 77, 1143, 1144, 5, 1011, 1150, 1149, 1145, 1113, 1111, 1112, 91, 1147, 1100031, 1148, 73] g49) [68, 69, 70, 81, 82, 83, 84, 85, 86, 71, 74, 75, 1127, 78, 79, 80, 72, 76, 77, 1143, 1144, 5, 1011, 1150, 1149, 1145, 1113, 1111, 1112, 91, 1147, 1100031, 1148, 73] g81) := Eq.mpr (congrArg (fun Z => sv_T sm_XS sm_cs sm_L sm_sh 24 (q_solve S) 294 115 [(0, .ref 0), (1, sv_I l1_82)] [] Z) eS) hb
                    exact sv_less (lv := [(0, .ref 0), (1, sv_I l1_82)]) (sv_Sub_cons rfl (sv_Sub_cons rfl sv_Sub_nil)) hb
                  · have h := h.2 (hc)
                    refine sv_aload_n hM dX12_solve_131 rfl rfl ?_
                    refine sv_getA hM dX12_solve_132 sm_fl_229 (sm_a0 _) sm_k123 rfl ?_
                    refine sv_iload_n hM dX12_solve_135 rfl rfl ?_
                    obtain ⟨o90, h⟩ := h
                    have k91 : (0 ≤ (g81 72 l2_83) ∧ (g81 72 l2_83) ≤ 1) := sm_okZ ok86 sm_r72 l2_83
                    have h := h k91
                    refine sv_zald hM dX12_solve_136 (sm_a72 _) (by decide) o90.1 o90.2 rfl (x := (g81 72 l2_83)) rfl ?_
                    refine sv_cond_ne hM dX12_solve_137 (sv_R01 k91) (t := 143) rfl rfl (fun hc => ?_) (fun hc => ?_)
                    · have h := h.1 (hc)
                      have k92 : (sm_DR (g81 72) (g81 71) (S 1046 0) → 0 ≤ l2_83 → l2_83 < (S 1046 0) → (g81 72 l2_83) = 1 → (g81 71 l2_83) = 1) := fun h a b d => sm_DR_at h l2_83 a b d
                      have h := h k92
                      refine sv_aload_n hM dX12_solve_143 rfl rfl ?_
                      refine sv_getA hM dX12_solve_144 sm_fl_229 (sm_a0 _) sm_k123 rfl ?_
                      refine sv_iload_n hM dX12_solve_147 rfl rfl ?_
                      refine sv_iconst (d := (0 : Int)) hM dX12_solve_148 rfl rfl ?_
                      refine sv_zast sm_X hM dX12_solve_149 (sm_a72 _) (by decide) o90.1 o90.2 (sv_nnZ (⟨by decide, by decide⟩ : 0 ≤ (0 : Int) ∧ (0 : Int) ≤ 1)) rfl ?_
                      have ok93 : sm_ok (sv_up (sv_sts (sv_sts (sv_sts (sv_up (sv_sts (sv_up (sv_up (sv_sts (sv_up (sv_sts (sv_up S 1000 0 (1 : Int)) [88, 89, 87, 1113, 5, 1011, 90] g6) 1121 0 ((S 1046 0) + ((2 : Int) * (S 1032 0)))) [71, 72] g16) 1127 0 (465000 : Int)) 75 (639 : Int) (647340 : Int)) [68, 69, 70, 81, 82, 83, 84, 85, 86, 1143, 1144, 5, 1011, 74, 78, 76, 77] g32) 1100031 0 (-1 : Int)) [68, 69, 70, 81, 82, 83, 84, 85, 86, 71, 74, 75, 1127, 78, 79, 80, 72, 76, 77] g41) [68, 69, 70, 81, 82, 83, 84, 85, 86, 71, 74, 75, 1127, 78, 79, 80, 72, 76, 77, 1143, 1144, 5, 1011, 1150, 1149, 1145, 1113, 1111, 1112, 91, 1147, 1100031, 1148, 73] g49) [68, 69, 70, 81, 82, 83, 84, 85, 86, 71, 74, 75, 1127, 78, 79, 80, 72, 76, 77, 1143, 1144, 5, 1011, 1150, 1149, 1145, 1113, 1111, 1112, 91, 1147, 1100031, 1148, 73] g81) 72 l2_83 (0 : Int)) := sm_upZ ok86 sm_r72 (⟨by decide, by decide⟩ : 0 ≤ (0 : Int) ∧ (0 : Int) ≤ 1)
                      have md94 : sv_mod [68, 69, 70, 81, 82, 83, 84, 85, 86, 71, 74, 75, 1127, 78, 79, 80, 72, 76, 77, 1143, 1144, 5, 1011, 1150, 1149, 1145, 1113, 1111, 1112, 91, 1147, 1100031, 1148, 73, 88, 89, 87, 90, 1121, 1000, 1119, 1120] S (sv_up (sv_sts (sv_sts (sv_sts (sv_up (sv_sts (sv_up (sv_up (sv_sts (sv_up (sv_sts (sv_up S 1000 0 (1 : Int)) [88, 89, 87, 1113, 5, 1011, 90] g6) 1121 0 ((S 1046 0) + ((2 : Int) * (S 1032 0)))) [71, 72] g16) 1127 0 (465000 : Int)) 75 (639 : Int) (647340 : Int)) [68, 69, 70, 81, 82, 83, 84, 85, 86, 1143, 1144, 5, 1011, 74, 78, 76, 77] g32) 1100031 0 (-1 : Int)) [68, 69, 70, 81, 82, 83, 84, 85, 86, 71, 74, 75, 1127, 78, 79, 80, 72, 76, 77] g41) [68, 69, 70, 81, 82, 83, 84, 85, 86, 71, 74, 75, 1127, 78, 79, 80, 72, 76, 77, 1143, 1144, 5, 1011, 1150, 1149, 1145, 1113, 1111, 1112, 91, 1147, 1100031, 1148, 73] g49) [68, 69, 70, 81, 82, 83, 84, 85, 86, 71, 74, 75, 1127, 78, 79, 80, 72, 76, 77, 1143, 1144, 5, 1011, 1150, 1149, 1145, 1113, 1111, 1112, 91, 1147, 1100031, 1148, 73] g81) 72 l2_83 (0 : Int)) := sv_mod.up md87 (by decide)
                      have md95 : sv_mod [68, 69, 70, 81, 82, 83, 84, 85, 86, 71, 74, 75, 1127, 78, 79, 80, 72, 76, 77, 1143, 1144, 5, 1011, 1150, 1149, 1145, 1113, 1111, 1112, 91, 1147, 1100031, 1148, 73] (sv_sts (sv_up (sv_sts (sv_up (sv_up (sv_sts (sv_up (sv_sts (sv_up S 1000 0 (1 : Int)) [88, 89, 87, 1113, 5, 1011, 90] g6) 1121 0 ((S 1046 0) + ((2 : Int) * (S 1032 0)))) [71, 72] g16) 1127 0 (465000 : Int)) 75 (639 : Int) (647340 : Int)) [68, 69, 70, 81, 82, 83, 84, 85, 86, 1143, 1144, 5, 1011, 74, 78, 76, 77] g32) 1100031 0 (-1 : Int)) [68, 69, 70, 81, 82, 83, 84, 85, 86, 71, 74, 75, 1127, 78, 79, 80, 72, 76, 77] g41) (sv_up (sv_sts (sv_sts (sv_sts (sv_up (sv_sts (sv_up (sv_up (sv_sts (sv_up (sv_sts (sv_up S 1000 0 (1 : Int)) [88, 89, 87, 1113, 5, 1011, 90] g6) 1121 0 ((S 1046 0) + ((2 : Int) * (S 1032 0)))) [71, 72] g16) 1127 0 (465000 : Int)) 75 (639 : Int) (647340 : Int)) [68, 69, 70, 81, 82, 83, 84, 85, 86, 1143, 1144, 5, 1011, 74, 78, 76, 77] g32) 1100031 0 (-1 : Int)) [68, 69, 70, 81, 82, 83, 84, 85, 86, 71, 74, 75, 1127, 78, 79, 80, 72, 76, 77] g41) [68, 69, 70, 81, 82, 83, 84, 85, 86, 71, 74, 75, 1127, 78, 79, 80, 72, 76, 77, 1143, 1144, 5, 1011, 1150, 1149, 1145, 1113, 1111, 1112, 91, 1147, 1100031, 1148, 73] g49) [68, 69, 70, 81, 82, 83, 84, 85, 86, 71, 74, 75, 1127, 78, 79, 80, 72, 76, 77, 1143, 1144, 5, 1011, 1150, 1149, 1145, 1113, 1111, 1112, 91, 1147, 1100031, 1148, 73] g81) 72 l2_83 (0 : Int)) := sv_mod.up md88 (by decide)
                      have md96 : sv_mod [68, 69, 70, 81, 82, 83, 84, 85, 86, 71, 74, 75, 1127, 78, 79, 80, 72, 76, 77, 1143, 1144, 5, 1011, 1150, 1149, 1145, 1113, 1111, 1112, 91, 1147, 1100031, 1148, 73] (sv_sts (sv_sts (sv_up (sv_sts (sv_up (sv_up (sv_sts (sv_up (sv_sts (sv_up S 1000 0 (1 : Int)) [88, 89, 87, 1113, 5, 1011, 90] g6) 1121 0 ((S 1046 0) + ((2 : Int) * (S 1032 0)))) [71, 72] g16) 1127 0 (465000 : Int)) 75 (639 : Int) (647340 : Int)) [68, 69, 70, 81, 82, 83, 84, 85, 86, 1143, 1144, 5, 1011, 74, 78, 76, 77] g32) 1100031 0 (-1 : Int)) [68, 69, 70, 81, 82, 83, 84, 85, 86, 71, 74, 75, 1127, 78, 79, 80, 72, 76, 77] g41) [68, 69, 70, 81, 82, 83, 84, 85, 86, 71, 74, 75, 1127, 78, 79, 80, 72, 76, 77, 1143, 1144, 5, 1011, 1150, 1149, 1145, 1113, 1111, 1112, 91, 1147, 1100031, 1148, 73] g49) (sv_up (sv_sts (sv_sts (sv_sts (sv_up (sv_sts (sv_up (sv_up (sv_sts (sv_up (sv_sts (sv_up S 1000 0 (1 : Int)) [88, 89, 87, 1113, 5, 1011, 90] g6) 1121 0 ((S 1046 0) + ((2 : Int) * (S 1032 0)))) [71, 72] g16) 1127 0 (465000 : Int)) 75 (639 : Int) (647340 : Int)) [68, 69, 70, 81, 82, 83, 84, 85, 86, 1143, 1144, 5, 1011, 74, 78, 76, 77] g32) 1100031 0 (-1 : Int)) [68, 69, 70, 81, 82, 83, 84, 85, 86, 71, 74, 75, 1127, 78, 79, 80, 72, 76, 77] g41) [68, 69, 70, 81, 82, 83, 84, 85, 86, 71, 74, 75, 1127, 78, 79, 80, 72, 76, 77, 1143, 1144, 5, 1011, 1150, 1149, 1145, 1113, 1111, 1112, 91, 1147, 1100031, 1148, 73] g49) [68, 69, 70, 81, 82, 83, 84, 85, 86, 71, 74, 75, 1127, 78, 79, 80, 72, 76, 77, 1143, 1144, 5, 1011, 1150, 1149, 1145, 1113, 1111, 1112, 91, 1147, 1100031, 1148, 73] g81) 72 l2_83 (0 : Int)) := sv_mod.up md89 (by decide)
                      refine sv_iconst (d := (1 : Int)) hM dX12_solve_150 rfl rfl ?_
                      refine sv_istore_n hM dX12_solve_151 (by decide) rfl ?_
                      show sv_T sm_XS sm_cs sm_L sm_sh 24 (q_solve S) 294 152 [(0, .ref 0), (1, sv_I (1 : Int)), (2, sv_I l2_83)] [] (sv_up (sv_sts (sv_sts (sv_sts (sv_up (sv_sts (sv_up (sv_up (sv_sts (sv_up (sv_sts (sv_up S 1000 0 (1 : Int)) [88, 89, 87, 1113, 5, 1011, 90] g6) 1121 0 ((S 1046 0) + ((2 : Int) * (S 1032 0)))) [71, 72] g16) 1127 0 (465000 : Int)) 75 (639 : Int) (647340 : Int)) [68, 69, 70, 81, 82, 83, 84, 85, 86, 1143, 1144, 5, 1011, 74, 78, 76, 77] g32) 1100031 0 (-1 : Int)) [68, 69, 70, 81, 82, 83, 84, 85, 86, 71, 74, 75, 1127, 78, 79, 80, 72, 76, 77] g41) [68, 69, 70, 81, 82, 83, 84, 85, 86, 71, 74, 75, 1127, 78, 79, 80, 72, 76, 77, 1143, 1144, 5, 1011, 1150, 1149, 1145, 1113, 1111, 1112, 91, 1147, 1100031, 1148, 73] g49) [68, 69, 70, 81, 82, 83, 84, 85, 86, 71, 74, 75, 1127, 78, 79, 80, 72, 76, 77, 1143, 1144, 5, 1011, 1150, 1149, 1145, 1113, 1111, 1112, 91, 1147, 1100031, 1148, 73] g81) 72 l2_83 (0 : Int))
                      have k97 : (0 ≤ sm_cm (g81 71)) := sm_cm_b (fun x_ => sm_okZ ok93 sm_r71 x_)
                      have h := h k97
                      have k98 : (0 ≤ sm_cm (g81 71)) := sm_cm_b (fun x_ => sm_okZ ok93 sm_r71 x_)
                      have h := h k98
                      refine sv_aload_n hM dX12_solve_152 rfl rfl ?_
                      refine sv_iload_n hM dX12_solve_153 rfl rfl ?_
                      obtain ⟨o99, h⟩ := h
                      refine sv_callV hM dX12_solve_154 sm_iv_1384 (by decide) (sm_a0 _) rfl rfl (Nat.le_of_ble_eq_true rfl) sm_h265 (Nat.le_of_ble_eq_true rfl) (Nat.le_of_ble_eq_true rfl) (F' := 23) (Nat.le_of_ble_eq_true rfl) rfl (t_ways l2_83 (sv_up (sv_sts (sv_sts (sv_sts (sv_up (sv_sts (sv_up (sv_up (sv_sts (sv_up (sv_sts (sv_up S 1000 0 (1 : Int)) [88, 89, 87, 1113, 5, 1011, 90] g6) 1121 0 ((S 1046 0) + ((2 : Int) * (S 1032 0)))) [71, 72] g16) 1127 0 (465000 : Int)) 75 (639 : Int) (647340 : Int)) [68, 69, 70, 81, 82, 83, 84, 85, 86, 1143, 1144, 5, 1011, 74, 78, 76, 77] g32) 1100031 0 (-1 : Int)) [68, 69, 70, 81, 82, 83, 84, 85, 86, 71, 74, 75, 1127, 78, 79, 80, 72, 76, 77] g41) [68, 69, 70, 81, 82, 83, 84, 85, 86, 71, 74, 75, 1127, 78, 79, 80, 72, 76, 77, 1143, 1144, 5, 1011, 1150, 1149, 1145, 1113, 1111, 1112, 91, 1147, 1100031, 1148, 73] g49) [68, 69, 70, 81, 82, 83, 84, 85, 86, 71, 74, 75, 1127, 78, 79, 80, 72, 76, 77, 1143, 1144, 5, 1011, 1150, 1149, 1145, 1113, 1111, 1112, 91, 1147, 1100031, 1148, 73] g81) 72 l2_83 (0 : Int)) ok93 hl2_83 o99) (fun v S1 hq => ?_)
                      obtain ⟨rfl, ok101, md102, hpo103⟩ := hq
                      obtain ⟨g100, rfl⟩ : ∃ g, S1 = sv_sts (sv_up (sv_sts (sv_sts (sv_sts (sv_up (sv_sts (sv_up (sv_up (sv_sts (sv_up (sv_sts (sv_up S 1000 0 (1 : Int)) [88, 89, 87, 1113, 5, 1011, 90] g6) 1121 0 ((S 1046 0) + ((2 : Int) * (S 1032 0)))) [71, 72] g16) 1127 0 (465000 : Int)) 75 (639 : Int) (647340 : Int)) [68, 69, 70, 81, 82, 83, 84, 85, 86, 1143, 1144, 5, 1011, 74, 78, 76, 77] g32) 1100031 0 (-1 : Int)) [68, 69, 70, 81, 82, 83, 84, 85, 86, 71, 74, 75, 1127, 78, 79, 80, 72, 76, 77] g41) [68, 69, 70, 81, 82, 83, 84, 85, 86, 71, 74, 75, 1127, 78, 79, 80, 72, 76, 77, 1143, 1144, 5, 1011, 1150, 1149, 1145, 1113, 1111, 1112, 91, 1147, 1100031, 1148, 73] g49) [68, 69, 70, 81, 82, 83, 84, 85, 86, 71, 74, 75, 1127, 78, 79, 80, 72, 76, 77, 1143, 1144, 5, 1011, 1150, 1149, 1145, 1113, 1111, 1112, 91, 1147, 1100031, 1148, 73] g81) 72 l2_83 (0 : Int)) [68, 69, 70, 81, 82, 83, 84, 85, 86, 71, 74, 75, 1127, 78, 79, 80, 72, 76, 77, 1143, 1144, 5, 1011, 1150, 1149, 1145, 1113, 1111, 1112, 91, 1147, 1100031, 1148, 73] g := ⟨_, md102.eq⟩
                      show sv_T sm_XS sm_cs sm_L sm_sh 24 (q_solve S) 294 157 [(0, .ref 0), (1, sv_I (1 : Int)), (2, sv_I l2_83)] [] (sv_sts (sv_up (sv_sts (sv_sts (sv_sts (sv_up (sv_sts (sv_up (sv_up (sv_sts (sv_up (sv_sts (sv_up S 1000 0 (1 : Int)) [88, 89, 87, 1113, 5, 1011, 90] g6) 1121 0 ((S 1046 0) + ((2 : Int) * (S 1032 0)))) [71, 72] g16) 1127 0 (465000 : Int)) 75 (639 : Int) (647340 : Int)) [68, 69, 70, 81, 82, 83, 84, 85, 86, 1143, 1144, 5, 1011, 74, 78, 76, 77] g32) 1100031 0 (-1 : Int)) [68, 69, 70, 81, 82, 83, 84, 85, 86, 71, 74, 75, 1127, 78, 79, 80, 72, 76, 77] g41) [68, 69, 70, 81, 82, 83, 84, 85, 86, 71, 74, 75, 1127, 78, 79, 80, 72, 76, 77, 1143, 1144, 5, 1011, 1150, 1149, 1145, 1113, 1111, 1112, 91, 1147, 1100031, 1148, 73] g49) [68, 69, 70, 81, 82, 83, 84, 85, 86, 71, 74, 75, 1127, 78, 79, 80, 72, 76, 77, 1143, 1144, 5, 1011, 1150, 1149, 1145, 1113, 1111, 1112, 91, 1147, 1100031, 1148, 73] g81) 72 l2_83 (0 : Int)) [68, 69, 70, 81, 82, 83, 84, 85, 86, 71, 74, 75, 1127, 78, 79, 80, 72, 76, 77, 1143, 1144, 5, 1011, 1150, 1149, 1145, 1113, 1111, 1112, 91, 1147, 1100031, 1148, 73] g100)
                      have md104 : sv_mod [68, 69, 70, 81, 82, 83, 84, 85, 86, 71, 74, 75, 1127, 78, 79, 80, 72, 76, 77, 1143, 1144, 5, 1011, 1150, 1149, 1145, 1113, 1111, 1112, 91, 1147, 1100031, 1148, 73, 88, 89, 87, 90, 1121, 1000, 1119, 1120] S (sv_sts (sv_up (sv_sts (sv_sts (sv_sts (sv_up (sv_sts (sv_up (sv_up (sv_sts (sv_up (sv_sts (sv_up S 1000 0 (1 : Int)) [88, 89, 87, 1113, 5, 1011, 90] g6) 1121 0 ((S 1046 0) + ((2 : Int) * (S 1032 0)))) [71, 72] g16) 1127 0 (465000 : Int)) 75 (639 : Int) (647340 : Int)) [68, 69, 70, 81, 82, 83, 84, 85, 86, 1143, 1144, 5, 1011, 74, 78, 76, 77] g32) 1100031 0 (-1 : Int)) [68, 69, 70, 81, 82, 83, 84, 85, 86, 71, 74, 75, 1127, 78, 79, 80, 72, 76, 77] g41) [68, 69, 70, 81, 82, 83, 84, 85, 86, 71, 74, 75, 1127, 78, 79, 80, 72, 76, 77, 1143, 1144, 5, 1011, 1150, 1149, 1145, 1113, 1111, 1112, 91, 1147, 1100031, 1148, 73] g49) [68, 69, 70, 81, 82, 83, 84, 85, 86, 71, 74, 75, 1127, 78, 79, 80, 72, 76, 77, 1143, 1144, 5, 1011, 1150, 1149, 1145, 1113, 1111, 1112, 91, 1147, 1100031, 1148, 73] g81) 72 l2_83 (0 : Int)) [68, 69, 70, 81, 82, 83, 84, 85, 86, 71, 74, 75, 1127, 78, 79, 80, 72, 76, 77, 1143, 1144, 5, 1011, 1150, 1149, 1145, 1113, 1111, 1112, 91, 1147, 1100031, 1148, 73] g100) := sv_mod.sts md94 (by decide)
                      have md105 : sv_mod [68, 69, 70, 81, 82, 83, 84, 85, 86, 71, 74, 75, 1127, 78, 79, 80, 72, 76, 77, 1143, 1144, 5, 1011, 1150, 1149, 1145, 1113, 1111, 1112, 91, 1147, 1100031, 1148, 73] (sv_sts (sv_up (sv_sts (sv_up (sv_up (sv_sts (sv_up (sv_sts (sv_up S 1000 0 (1 : Int)) [88, 89, 87, 1113, 5, 1011, 90] g6) 1121 0 ((S 1046 0) + ((2 : Int) * (S 1032 0)))) [71, 72] g16) 1127 0 (465000 : Int)) 75 (639 : Int) (647340 : Int)) [68, 69, 70, 81, 82, 83, 84, 85, 86, 1143, 1144, 5, 1011, 74, 78, 76, 77] g32) 1100031 0 (-1 : Int)) [68, 69, 70, 81, 82, 83, 84, 85, 86, 71, 74, 75, 1127, 78, 79, 80, 72, 76, 77] g41) (sv_sts (sv_up (sv_sts (sv_sts (sv_sts (sv_up (sv_sts (sv_up (sv_up (sv_sts (sv_up (sv_sts (sv_up S 1000 0 (1 : Int)) [88, 89, 87, 1113, 5, 1011, 90] g6) 1121 0 ((S 1046 0) + ((2 : Int) * (S 1032 0)))) [71, 72] g16) 1127 0 (465000 : Int)) 75 (639 : Int) (647340 : Int)) [68, 69, 70, 81, 82, 83, 84, 85, 86, 1143, 1144, 5, 1011, 74, 78, 76, 77] g32) 1100031 0 (-1 : Int)) [68, 69, 70, 81, 82, 83, 84, 85, 86, 71, 74, 75, 1127, 78, 79, 80, 72, 76, 77] g41) [68, 69, 70, 81, 82, 83, 84, 85, 86, 71, 74, 75, 1127, 78, 79, 80, 72, 76, 77, 1143, 1144, 5, 1011, 1150, 1149, 1145, 1113, 1111, 1112, 91, 1147, 1100031, 1148, 73] g49) [68, 69, 70, 81, 82, 83, 84, 85, 86, 71, 74, 75, 1127, 78, 79, 80, 72, 76, 77, 1143, 1144, 5, 1011, 1150, 1149, 1145, 1113, 1111, 1112, 91, 1147, 1100031, 1148, 73] g81) 72 l2_83 (0 : Int)) [68, 69, 70, 81, 82, 83, 84, 85, 86, 71, 74, 75, 1127, 78, 79, 80, 72, 76, 77, 1143, 1144, 5, 1011, 1150, 1149, 1145, 1113, 1111, 1112, 91, 1147, 1100031, 1148, 73] g100) := sv_mod.sts md95 (by decide)
                      have md106 : sv_mod [68, 69, 70, 81, 82, 83, 84, 85, 86, 71, 74, 75, 1127, 78, 79, 80, 72, 76, 77, 1143, 1144, 5, 1011, 1150, 1149, 1145, 1113, 1111, 1112, 91, 1147, 1100031, 1148, 73] (sv_sts (sv_sts (sv_up (sv_sts (sv_up (sv_up (sv_sts (sv_up (sv_sts (sv_up S 1000 0 (1 : Int)) [88, 89, 87, 1113, 5, 1011, 90] g6) 1121 0 ((S 1046 0) + ((2 : Int) * (S 1032 0)))) [71, 72] g16) 1127 0 (465000 : Int)) 75 (639 : Int) (647340 : Int)) [68, 69, 70, 81, 82, 83, 84, 85, 86, 1143, 1144, 5, 1011, 74, 78, 76, 77] g32) 1100031 0 (-1 : Int)) [68, 69, 70, 81, 82, 83, 84, 85, 86, 71, 74, 75, 1127, 78, 79, 80, 72, 76, 77] g41) [68, 69, 70, 81, 82, 83, 84, 85, 86, 71, 74, 75, 1127, 78, 79, 80, 72, 76, 77, 1143, 1144, 5, 1011, 1150, 1149, 1145, 1113, 1111, 1112, 91, 1147, 1100031, 1148, 73] g49) (sv_sts (sv_up (sv_sts (sv_sts (sv_sts (sv_up (sv_sts (sv_up (sv_up (sv_sts (sv_up (sv_sts (sv_up S 1000 0 (1 : Int)) [88, 89, 87, 1113, 5, 1011, 90] g6) 1121 0 ((S 1046 0) + ((2 : Int) * (S 1032 0)))) [71, 72] g16) 1127 0 (465000 : Int)) 75 (639 : Int) (647340 : Int)) [68, 69, 70, 81, 82, 83, 84, 85, 86, 1143, 1144, 5, 1011, 74, 78, 76, 77] g32) 1100031 0 (-1 : Int)) [68, 69, 70, 81, 82, 83, 84, 85, 86, 71, 74, 75, 1127, 78, 79, 80, 72, 76, 77] g41) [68, 69, 70, 81, 82, 83, 84, 85, 86, 71, 74, 75, 1127, 78, 79, 80, 72, 76, 77, 1143, 1144, 5, 1011, 1150, 1149, 1145, 1113, 1111, 1112, 91, 1147, 1100031, 1148, 73] g49) [68, 69, 70, 81, 82, 83, 84, 85, 86, 71, 74, 75, 1127, 78, 79, 80, 72, 76, 77, 1143, 1144, 5, 1011, 1150, 1149, 1145, 1113, 1111, 1112, 91, 1147, 1100031, 1148, 73] g81) 72 l2_83 (0 : Int)) [68, 69, 70, 81, 82, 83, 84, 85, 86, 71, 74, 75, 1127, 78, 79, 80, 72, 76, 77, 1143, 1144, 5, 1011, 1150, 1149, 1145, 1113, 1111, 1112, 91, 1147, 1100031, 1148, 73] g100) := sv_mod.sts md96 (by decide)
                      have h := h g100 hpo103
                      have k107 : (0 ≤ sm_pl (g100 81) (g100 82) (g100 83) (g100 84) (g100 85) (g100 86) ∧ sm_pl (g100 81) (g100 82) (g100 83) (g100 84) (g100 85) (g100 86) ≤ 3870000) := sm_pl_r _ _ _ _ (fun x_ => sm_okZ ok101 sm_r81 x_) (fun x_ => sm_okZ ok101 sm_r82 x_)
                      have h := h k107
                      have k108 : (0 ≤ sm_cm (g100 71)) := sm_cm_b (fun x_ => sm_okZ ok101 sm_r71 x_)
                      have h := h k108
                      have k109 : (0 ≤ sm_du (g100 72) ∧ sm_du (g100 72) ≤ 640) := sm_du_b (fun x_ => sm_okZ ok101 sm_r72 x_)
                      have h := h k109
                      refine sv_iinc (d := (1 : Int)) hM dX12_solve_157 rfl (by decide) rfl rfl ?_
                      show sv_T sm_XS sm_cs sm_L sm_sh 24 (q_solve S) 294 160 [(0, .ref 0), (1, sv_I (1 : Int)), (2, sv_I (l2_83 + (1 : Int)))] [] (sv_sts (sv_up (sv_sts (sv_sts (sv_sts (sv_up (sv_sts (sv_up (sv_up (sv_sts (sv_up (sv_sts (sv_up S 1000 0 (1 : Int)) [88, 89, 87, 1113, 5, 1011, 90] g6) 1121 0 ((S 1046 0) + ((2 : Int) * (S 1032 0)))) [71, 72] g16) 1127 0 (465000 : Int)) 75 (639 : Int) (647340 : Int)) [68, 69, 70, 81, 82, 83, 84, 85, 86, 1143, 1144, 5, 1011, 74, 78, 76, 77] g32) 1100031 0 (-1 : Int)) [68, 69, 70, 81, 82, 83, 84, 85, 86, 71, 74, 75, 1127, 78, 79, 80, 72, 76, 77] g41) [68, 69, 70, 81, 82, 83, 84, 85, 86, 71, 74, 75, 1127, 78, 79, 80, 72, 76, 77, 1143, 1144, 5, 1011, 1150, 1149, 1145, 1113, 1111, 1112, 91, 1147, 1100031, 1148, 73] g49) [68, 69, 70, 81, 82, 83, 84, 85, 86, 71, 74, 75, 1127, 78, 79, 80, 72, 76, 77, 1143, 1144, 5, 1011, 1150, 1149, 1145, 1113, 1111, 1112, 91, 1147, 1100031, 1148, 73] g81) 72 l2_83 (0 : Int)) [68, 69, 70, 81, 82, 83, 84, 85, 86, 71, 74, 75, 1127, 78, 79, 80, 72, 76, 77, 1143, 1144, 5, 1011, 1150, 1149, 1145, 1113, 1111, 1112, 91, 1147, 1100031, 1148, 73] g100)
                      refine sv_goto hM dX12_solve_160 (pc' := 123) rfl ?_
                      obtain ⟨o110, h⟩ := h
                      have eS := sv_mod.eq md106
                      have hb := ih84 ((1 : Int), (l2_83 + (1 : Int)), (sv_sts (sv_up (sv_sts (sv_sts (sv_sts (sv_up (sv_sts (sv_up (sv_up (sv_sts (sv_up (sv_sts (sv_up S 1000 0 (1 : Int)) [88, 89, 87, 1113, 5, 1011, 90] g6) 1121 0 ((S 1046 0) + ((2 : Int) * (S 1032 0)))) [71, 72] g16) 1127 0 (465000 : Int)) 75 (639 : Int) (647340 : Int)) [68, 69, 70, 81, 82, 83, 84, 85, 86, 1143, 1144, 5, 1011, 74, 78, 76, 77] g32) 1100031 0 (-1 : Int)) [68, 69, 70, 81, 82, 83, 84, 85, 86, 71, 74, 75, 1127, 78, 79, 80, 72, 76, 77] g41) [68, 69, 70, 81, 82, 83, 84, 85, 86, 71, 74, 75, 1127, 78, 79, 80, 72, 76, 77, 1143, 1144, 5, 1011, 1150, 1149, 1145, 1113, 1111, 1112, 91, 1147, 1100031, 1148, 73] g49) [68, 69, 70, 81, 82, 83, 84, 85, 86, 71, 74, 75, 1127, 78, 79, 80, 72, 76, 77, 1143, 1144, 5, 1011, 1150, 1149, 1145, 1113, 1111, 1112, 91, 1147, 1100031, 1148, 73] g81) 72 l2_83 (0 : Int)) [68, 69, 70, 81, 82, 83, 84, 85, 86, 71, 74, 75, 1127, 78, 79, 80, 72, 76, 77, 1143, 1144, 5, 1011, 1150, 1149, 1145, 1113, 1111, 1112, 91, 1147, 1100031, 1148, 73] g100)) ⟨(⟨by decide, by decide⟩ : sv_R (1 : Int)), o110, (by rw [← eS]; exact ok101), h.1⟩ h.2
                      have hb : sv_T sm_XS sm_cs sm_L sm_sh 24 (q_solve S) 294 123 [(0, .ref 0), (1, sv_I (1 : Int)), (2, sv_I (l2_83 + (1 : Int)))] [] (sv_sts (sv_up (sv_sts (sv_sts (sv_sts (sv_up (sv_sts (sv_up (sv_up (sv_sts (sv_up (sv_sts (sv_up S 1000 0 (1 : Int)) [88, 89, 87, 1113, 5, 1011, 90] g6) 1121 0 ((S 1046 0) + ((2 : Int) * (S 1032 0)))) [71, 72] g16) 1127 0 (465000 : Int)) 75 (639 : Int) (647340 : Int)) [68, 69, 70, 81, 82, 83, 84, 85, 86, 1143, 1144, 5, 1011, 74, 78, 76, 77] g32) 1100031 0 (-1 : Int)) [68, 69, 70, 81, 82, 83, 84, 85, 86, 71, 74, 75, 1127, 78, 79, 80, 72, 76, 77] g41) [68, 69, 70, 81, 82, 83, 84, 85, 86, 71, 74, 75, 1127, 78, 79, 80, 72, 76, 77, 1143, 1144, 5, 1011, 1150, 1149, 1145, 1113, 1111, 1112, 91, 1147, 1100031, 1148, 73] g49) [68, 69, 70, 81, 82, 83, 84, 85, 86, 71, 74, 75, 1127, 78, 79, 80, 72, 76, 77, 1143, 1144, 5, 1011, 1150, 1149, 1145, 1113, 1111, 1112, 91, 1147, 1100031, 1148, 73] g81) 72 l2_83 (0 : Int)) [68, 69, 70, 81, 82, 83, 84, 85, 86, 71, 74, 75, 1127, 78, 79, 80, 72, 76, 77, 1143, 1144, 5, 1011, 1150, 1149, 1145, 1113, 1111, 1112, 91, 1147, 1100031, 1148, 73] g100) := Eq.mpr (congrArg (fun Z => sv_T sm_XS sm_cs sm_L sm_sh 24 (q_solve S) 294 123 [(0, .ref 0), (1, sv_I (1 : Int)), (2, sv_I (l2_83 + (1 : Int)))] [] Z) eS) hb
                      exact sv_less (lv := [(0, .ref 0), (1, sv_I (1 : Int)), (2, sv_I (l2_83 + (1 : Int)))]) (sv_Sub_cons rfl (sv_Sub_cons rfl (sv_Sub_cons rfl sv_Sub_nil))) hb
                    · have h := h.2 (hc)
                      refine sv_goto hM dX12_solve_140 (pc' := 157) rfl ?_
                      have k111 : (0 ≤ sm_pl (g81 81) (g81 82) (g81 83) (g81 84) (g81 85) (g81 86) ∧ sm_pl (g81 81) (g81 82) (g81 83) (g81 84) (g81 85) (g81 86) ≤ 3870000) := sm_pl_r _ _ _ _ (fun x_ => sm_okZ ok86 sm_r81 x_) (fun x_ => sm_okZ ok86 sm_r82 x_)
                      have h := h k111
                      have k112 : (0 ≤ sm_cm (g81 71)) := sm_cm_b (fun x_ => sm_okZ ok86 sm_r71 x_)
                      have h := h k112
                      have k113 : (0 ≤ sm_du (g81 72) ∧ sm_du (g81 72) ≤ 640) := sm_du_b (fun x_ => sm_okZ ok86 sm_r72 x_)
                      have h := h k113
                      refine sv_iinc (d := (1 : Int)) hM dX12_solve_157 rfl (by decide) rfl rfl ?_
                      show sv_T sm_XS sm_cs sm_L sm_sh 24 (q_solve S) 294 160 [(0, .ref 0), (1, sv_I l1_82), (2, sv_I (l2_83 + (1 : Int)))] [] (sv_sts (sv_sts (sv_sts (sv_up (sv_sts (sv_up (sv_up (sv_sts (sv_up (sv_sts (sv_up S 1000 0 (1 : Int)) [88, 89, 87, 1113, 5, 1011, 90] g6) 1121 0 ((S 1046 0) + ((2 : Int) * (S 1032 0)))) [71, 72] g16) 1127 0 (465000 : Int)) 75 (639 : Int) (647340 : Int)) [68, 69, 70, 81, 82, 83, 84, 85, 86, 1143, 1144, 5, 1011, 74, 78, 76, 77] g32) 1100031 0 (-1 : Int)) [68, 69, 70, 81, 82, 83, 84, 85, 86, 71, 74, 75, 1127, 78, 79, 80, 72, 76, 77] g41) [68, 69, 70, 81, 82, 83, 84, 85, 86, 71, 74, 75, 1127, 78, 79, 80, 72, 76, 77, 1143, 1144, 5, 1011, 1150, 1149, 1145, 1113, 1111, 1112, 91, 1147, 1100031, 1148, 73] g49) [68, 69, 70, 81, 82, 83, 84, 85, 86, 71, 74, 75, 1127, 78, 79, 80, 72, 76, 77, 1143, 1144, 5, 1011, 1150, 1149, 1145, 1113, 1111, 1112, 91, 1147, 1100031, 1148, 73] g81)
                      refine sv_goto hM dX12_solve_160 (pc' := 123) rfl ?_
                      obtain ⟨o114, h⟩ := h
                      have eS := sv_mod.eq md89
                      have hb := ih84 (l1_82, (l2_83 + (1 : Int)), (sv_sts (sv_sts (sv_sts (sv_up (sv_sts (sv_up (sv_up (sv_sts (sv_up (sv_sts (sv_up S 1000 0 (1 : Int)) [88, 89, 87, 1113, 5, 1011, 90] g6) 1121 0 ((S 1046 0) + ((2 : Int) * (S 1032 0)))) [71, 72] g16) 1127 0 (465000 : Int)) 75 (639 : Int) (647340 : Int)) [68, 69, 70, 81, 82, 83, 84, 85, 86, 1143, 1144, 5, 1011, 74, 78, 76, 77] g32) 1100031 0 (-1 : Int)) [68, 69, 70, 81, 82, 83, 84, 85, 86, 71, 74, 75, 1127, 78, 79, 80, 72, 76, 77] g41) [68, 69, 70, 81, 82, 83, 84, 85, 86, 71, 74, 75, 1127, 78, 79, 80, 72, 76, 77, 1143, 1144, 5, 1011, 1150, 1149, 1145, 1113, 1111, 1112, 91, 1147, 1100031, 1148, 73] g49) [68, 69, 70, 81, 82, 83, 84, 85, 86, 71, 74, 75, 1127, 78, 79, 80, 72, 76, 77, 1143, 1144, 5, 1011, 1150, 1149, 1145, 1113, 1111, 1112, 91, 1147, 1100031, 1148, 73] g81)) ⟨hl1_82, o114, (by rw [← eS]; exact ok86), h.1⟩ h.2
                      have hb : sv_T sm_XS sm_cs sm_L sm_sh 24 (q_solve S) 294 123 [(0, .ref 0), (1, sv_I l1_82), (2, sv_I (l2_83 + (1 : Int)))] [] (sv_sts (sv_sts (sv_sts (sv_up (sv_sts (sv_up (sv_up (sv_sts (sv_up (sv_sts (sv_up S 1000 0 (1 : Int)) [88, 89, 87, 1113, 5, 1011, 90] g6) 1121 0 ((S 1046 0) + ((2 : Int) * (S 1032 0)))) [71, 72] g16) 1127 0 (465000 : Int)) 75 (639 : Int) (647340 : Int)) [68, 69, 70, 81, 82, 83, 84, 85, 86, 1143, 1144, 5, 1011, 74, 78, 76, 77] g32) 1100031 0 (-1 : Int)) [68, 69, 70, 81, 82, 83, 84, 85, 86, 71, 74, 75, 1127, 78, 79, 80, 72, 76, 77] g41) [68, 69, 70, 81, 82, 83, 84, 85, 86, 71, 74, 75, 1127, 78, 79, 80, 72, 76, 77, 1143, 1144, 5, 1011, 1150, 1149, 1145, 1113, 1111, 1112, 91, 1147, 1100031, 1148, 73] g49) [68, 69, 70, 81, 82, 83, 84, 85, 86, 71, 74, 75, 1127, 78, 79, 80, 72, 76, 77, 1143, 1144, 5, 1011, 1150, 1149, 1145, 1113, 1111, 1112, 91, 1147, 1100031, 1148, 73] g81) := Eq.mpr (congrArg (fun Z => sv_T sm_XS sm_cs sm_L sm_sh 24 (q_solve S) 294 123 [(0, .ref 0), (1, sv_I l1_82), (2, sv_I (l2_83 + (1 : Int)))] [] Z) eS) hb
                      exact sv_less (lv := [(0, .ref 0), (1, sv_I l1_82), (2, sv_I (l2_83 + (1 : Int)))]) (sv_Sub_cons rfl (sv_Sub_cons rfl (sv_Sub_cons rfl sv_Sub_nil))) hb
                have eS := sv_mod.eq (sv_mod.rf (l := [68, 69, 70, 81, 82, 83, 84, 85, 86, 71, 74, 75, 1127, 78, 79, 80, 72, 76, 77, 1143, 1144, 5, 1011, 1150, 1149, 1145, 1113, 1111, 1112, 91, 1147, 1100031, 1148, 73]) (S := (sv_sts (sv_sts (sv_up (sv_sts (sv_up (sv_up (sv_sts (sv_up (sv_sts (sv_up S 1000 0 (1 : Int)) [88, 89, 87, 1113, 5, 1011, 90] g6) 1121 0 ((S 1046 0) + ((2 : Int) * (S 1032 0)))) [71, 72] g16) 1127 0 (465000 : Int)) 75 (639 : Int) (647340 : Int)) [68, 69, 70, 81, 82, 83, 84, 85, 86, 1143, 1144, 5, 1011, 74, 78, 76, 77] g32) 1100031 0 (-1 : Int)) [68, 69, 70, 81, 82, 83, 84, 85, 86, 71, 74, 75, 1127, 78, 79, 80, 72, 76, 77] g41) [68, 69, 70, 81, 82, 83, 84, 85, 86, 71, 74, 75, 1127, 78, 79, 80, 72, 76, 77, 1143, 1144, 5, 1011, 1150, 1149, 1145, 1113, 1111, 1112, 91, 1147, 1100031, 1148, 73] g49)))
                have hb := hJ ((0 : Int), (0 : Int), (sv_sts (sv_sts (sv_up (sv_sts (sv_up (sv_up (sv_sts (sv_up (sv_sts (sv_up S 1000 0 (1 : Int)) [88, 89, 87, 1113, 5, 1011, 90] g6) 1121 0 ((S 1046 0) + ((2 : Int) * (S 1032 0)))) [71, 72] g16) 1127 0 (465000 : Int)) 75 (639 : Int) (647340 : Int)) [68, 69, 70, 81, 82, 83, 84, 85, 86, 1143, 1144, 5, 1011, 74, 78, 76, 77] g32) 1100031 0 (-1 : Int)) [68, 69, 70, 81, 82, 83, 84, 85, 86, 71, 74, 75, 1127, 78, 79, 80, 72, 76, 77] g41) [68, 69, 70, 81, 82, 83, 84, 85, 86, 71, 74, 75, 1127, 78, 79, 80, 72, 76, 77, 1143, 1144, 5, 1011, 1150, 1149, 1145, 1113, 1111, 1112, 91, 1147, 1100031, 1148, 73] g49)) ⟨(⟨by decide, by decide⟩ : sv_R (0 : Int)), (⟨by decide, by decide⟩ : sv_R (0 : Int)), (by rw [← eS]; exact ok53), hin85⟩
                have hb : sv_T sm_XS sm_cs sm_L sm_sh 24 (q_solve S) 294 123 [(0, .ref 0), (1, sv_I (0 : Int)), (2, sv_I (0 : Int))] [] (sv_sts (sv_sts (sv_up (sv_sts (sv_up (sv_up (sv_sts (sv_up (sv_sts (sv_up S 1000 0 (1 : Int)) [88, 89, 87, 1113, 5, 1011, 90] g6) 1121 0 ((S 1046 0) + ((2 : Int) * (S 1032 0)))) [71, 72] g16) 1127 0 (465000 : Int)) 75 (639 : Int) (647340 : Int)) [68, 69, 70, 81, 82, 83, 84, 85, 86, 1143, 1144, 5, 1011, 74, 78, 76, 77] g32) 1100031 0 (-1 : Int)) [68, 69, 70, 81, 82, 83, 84, 85, 86, 71, 74, 75, 1127, 78, 79, 80, 72, 76, 77] g41) [68, 69, 70, 81, 82, 83, 84, 85, 86, 71, 74, 75, 1127, 78, 79, 80, 72, 76, 77, 1143, 1144, 5, 1011, 1150, 1149, 1145, 1113, 1111, 1112, 91, 1147, 1100031, 1148, 73] g49) := Eq.mpr (congrArg (fun Z => sv_T sm_XS sm_cs sm_L sm_sh 24 (q_solve S) 294 123 [(0, .ref 0), (1, sv_I (0 : Int)), (2, sv_I (0 : Int))] [] Z) eS) hb
                exact hb
            have eS := sv_mod.eq (sv_mod.rf (l := [68, 69, 70, 81, 82, 83, 84, 85, 86, 71, 74, 75, 1127, 78, 79, 80, 72, 76, 77, 1143, 1144, 5, 1011, 1150, 1149, 1145, 1113, 1111, 1112, 91, 1147, 1100031, 1148, 73]) (S := (sv_sts (sv_up (sv_sts (sv_up (sv_up (sv_sts (sv_up (sv_sts (sv_up S 1000 0 (1 : Int)) [88, 89, 87, 1113, 5, 1011, 90] g6) 1121 0 ((S 1046 0) + ((2 : Int) * (S 1032 0)))) [71, 72] g16) 1127 0 (465000 : Int)) 75 (639 : Int) (647340 : Int)) [68, 69, 70, 81, 82, 83, 84, 85, 86, 1143, 1144, 5, 1011, 74, 78, 76, 77] g32) 1100031 0 (-1 : Int)) [68, 69, 70, 81, 82, 83, 84, 85, 86, 71, 74, 75, 1127, 78, 79, 80, 72, 76, 77] g41)))
            have hb := hJ ((1 : Int), (sv_sts (sv_up (sv_sts (sv_up (sv_up (sv_sts (sv_up (sv_sts (sv_up S 1000 0 (1 : Int)) [88, 89, 87, 1113, 5, 1011, 90] g6) 1121 0 ((S 1046 0) + ((2 : Int) * (S 1032 0)))) [71, 72] g16) 1127 0 (465000 : Int)) 75 (639 : Int) (647340 : Int)) [68, 69, 70, 81, 82, 83, 84, 85, 86, 1143, 1144, 5, 1011, 74, 78, 76, 77] g32) 1100031 0 (-1 : Int)) [68, 69, 70, 81, 82, 83, 84, 85, 86, 71, 74, 75, 1127, 78, 79, 80, 72, 76, 77] g41)) ⟨(⟨by decide, by decide⟩ : sv_R (1 : Int)), (by rw [← eS]; exact ok42), hin52⟩
            have hb : sv_T sm_XS sm_cs sm_L sm_sh 24 (q_solve S) 294 115 [(0, .ref 0), (1, sv_I (1 : Int))] [] (sv_sts (sv_up (sv_sts (sv_up (sv_up (sv_sts (sv_up (sv_sts (sv_up S 1000 0 (1 : Int)) [88, 89, 87, 1113, 5, 1011, 90] g6) 1121 0 ((S 1046 0) + ((2 : Int) * (S 1032 0)))) [71, 72] g16) 1127 0 (465000 : Int)) 75 (639 : Int) (647340 : Int)) [68, 69, 70, 81, 82, 83, 84, 85, 86, 1143, 1144, 5, 1011, 74, 78, 76, 77] g32) 1100031 0 (-1 : Int)) [68, 69, 70, 81, 82, 83, 84, 85, 86, 71, 74, 75, 1127, 78, 79, 80, 72, 76, 77] g41) := Eq.mpr (congrArg (fun Z => sv_T sm_XS sm_cs sm_L sm_sh 24 (q_solve S) 294 115 [(0, .ref 0), (1, sv_I (1 : Int))] [] Z) eS) hb
            exact hb
          · have h := h.2 (hc)
            refine sv_aload_n hM dX12_solve_66 rfl rfl ?_
            refine sv_getA hM dX12_solve_67 sm_fl_226 (sm_a0 _) sm_k122 rfl ?_
            refine sv_iload_n hM dX12_solve_70 rfl rfl ?_
            refine sv_iconst (d := (0 : Int)) hM dX12_solve_71 rfl rfl ?_
            obtain ⟨o115, h⟩ := h
            refine sv_zast sm_X hM dX12_solve_72 (sm_a71 _) (by decide) o115.1 o115.2 (sv_nnZ (⟨by decide, by decide⟩ : 0 ≤ (0 : Int) ∧ (0 : Int) ≤ 1)) rfl ?_
            have ok116 : sm_ok (sv_up (sv_sts (sv_up (sv_sts (sv_up S 1000 0 (1 : Int)) [88, 89, 87, 1113, 5, 1011, 90] g6) 1121 0 ((S 1046 0) + ((2 : Int) * (S 1032 0)))) [71, 72] g16) 71 l1_17 (0 : Int)) := sm_upZ ok20 sm_r71 (⟨by decide, by decide⟩ : 0 ≤ (0 : Int) ∧ (0 : Int) ≤ 1)
            have md117 : sv_mod [68, 69, 70, 81, 82, 83, 84, 85, 86, 71, 74, 75, 1127, 78, 79, 80, 72, 76, 77, 1143, 1144, 5, 1011, 1150, 1149, 1145, 1113, 1111, 1112, 91, 1147, 1100031, 1148, 73, 88, 89, 87, 90, 1121, 1000, 1119, 1120] S (sv_up (sv_sts (sv_up (sv_sts (sv_up S 1000 0 (1 : Int)) [88, 89, 87, 1113, 5, 1011, 90] g6) 1121 0 ((S 1046 0) + ((2 : Int) * (S 1032 0)))) [71, 72] g16) 71 l1_17 (0 : Int)) := sv_mod.up md21 (by decide)
            have md118 : sv_mod [71, 72] (sv_up (sv_sts (sv_up S 1000 0 (1 : Int)) [88, 89, 87, 1113, 5, 1011, 90] g6) 1121 0 ((S 1046 0) + ((2 : Int) * (S 1032 0)))) (sv_up (sv_sts (sv_up (sv_sts (sv_up S 1000 0 (1 : Int)) [88, 89, 87, 1113, 5, 1011, 90] g6) 1121 0 ((S 1046 0) + ((2 : Int) * (S 1032 0)))) [71, 72] g16) 71 l1_17 (0 : Int)) := sv_mod.up md22 (by decide)
            refine sv_aload_n hM dX12_solve_73 rfl rfl ?_
            refine sv_getA hM dX12_solve_74 sm_fl_229 (sm_a0 _) sm_k123 rfl ?_
            refine sv_iload_n hM dX12_solve_77 rfl rfl ?_
            refine sv_iconst (d := (0 : Int)) hM dX12_solve_78 rfl rfl ?_
            refine sv_zast sm_X hM dX12_solve_79 (sm_a72 _) (by decide) o115.1 o115.2 (sv_nnZ (⟨by decide, by decide⟩ : 0 ≤ (0 : Int) ∧ (0 : Int) ≤ 1)) rfl ?_
            have ok119 : sm_ok (sv_up (sv_up (sv_sts (sv_up (sv_sts (sv_up S 1000 0 (1 : Int)) [88, 89, 87, 1113, 5, 1011, 90] g6) 1121 0 ((S 1046 0) + ((2 : Int) * (S 1032 0)))) [71, 72] g16) 71 l1_17 (0 : Int)) 72 l1_17 (0 : Int)) := sm_upZ ok116 sm_r72 (⟨by decide, by decide⟩ : 0 ≤ (0 : Int) ∧ (0 : Int) ≤ 1)
            have md120 : sv_mod [68, 69, 70, 81, 82, 83, 84, 85, 86, 71, 74, 75, 1127, 78, 79, 80, 72, 76, 77, 1143, 1144, 5, 1011, 1150, 1149, 1145, 1113, 1111, 1112, 91, 1147, 1100031, 1148, 73, 88, 89, 87, 90, 1121, 1000, 1119, 1120] S (sv_up (sv_up (sv_sts (sv_up (sv_sts (sv_up S 1000 0 (1 : Int)) [88, 89, 87, 1113, 5, 1011, 90] g6) 1121 0 ((S 1046 0) + ((2 : Int) * (S 1032 0)))) [71, 72] g16) 71 l1_17 (0 : Int)) 72 l1_17 (0 : Int)) := sv_mod.up md117 (by decide)
            have md121 : sv_mod [71, 72] (sv_up (sv_sts (sv_up S 1000 0 (1 : Int)) [88, 89, 87, 1113, 5, 1011, 90] g6) 1121 0 ((S 1046 0) + ((2 : Int) * (S 1032 0)))) (sv_up (sv_up (sv_sts (sv_up (sv_sts (sv_up S 1000 0 (1 : Int)) [88, 89, 87, 1113, 5, 1011, 90] g6) 1121 0 ((S 1046 0) + ((2 : Int) * (S 1032 0)))) [71, 72] g16) 71 l1_17 (0 : Int)) 72 l1_17 (0 : Int)) := sv_mod.up md118 (by decide)
            refine sv_iinc (d := (1 : Int)) hM dX12_solve_80 rfl (by decide) rfl rfl ?_
            show sv_T sm_XS sm_cs sm_L sm_sh 24 (q_solve S) 294 83 [(0, .ref 0), (1, sv_I (l1_17 + (1 : Int)))] [] (sv_up (sv_up (sv_sts (sv_up (sv_sts (sv_up S 1000 0 (1 : Int)) [88, 89, 87, 1113, 5, 1011, 90] g6) 1121 0 ((S 1046 0) + ((2 : Int) * (S 1032 0)))) [71, 72] g16) 71 l1_17 (0 : Int)) 72 l1_17 (0 : Int))
            refine sv_goto hM dX12_solve_83 (pc' := 58) rfl ?_
            obtain ⟨o122, h⟩ := h
            have eS := sv_mod.eq md121
            have hb := ih18 ((l1_17 + (1 : Int)), (sv_up (sv_up (sv_sts (sv_up (sv_sts (sv_up S 1000 0 (1 : Int)) [88, 89, 87, 1113, 5, 1011, 90] g6) 1121 0 ((S 1046 0) + ((2 : Int) * (S 1032 0)))) [71, 72] g16) 71 l1_17 (0 : Int)) 72 l1_17 (0 : Int))) ⟨o122, (by rw [← eS]; exact ok119), h.1⟩ h.2
            have hb : sv_T sm_XS sm_cs sm_L sm_sh 24 (q_solve S) 294 58 [(0, .ref 0), (1, sv_I (l1_17 + (1 : Int)))] [] (sv_up (sv_up (sv_sts (sv_up (sv_sts (sv_up S 1000 0 (1 : Int)) [88, 89, 87, 1113, 5, 1011, 90] g6) 1121 0 ((S 1046 0) + ((2 : Int) * (S 1032 0)))) [71, 72] g16) 71 l1_17 (0 : Int)) 72 l1_17 (0 : Int)) := Eq.mpr (congrArg (fun Z => sv_T sm_XS sm_cs sm_L sm_sh 24 (q_solve S) 294 58 [(0, .ref 0), (1, sv_I (l1_17 + (1 : Int)))] [] Z) eS) hb
            exact sv_less (lv := [(0, .ref 0), (1, sv_I (l1_17 + (1 : Int)))]) (sv_Sub_cons rfl (sv_Sub_cons rfl sv_Sub_nil)) hb
        have eS := sv_mod.eq (sv_mod.rf (l := [71, 72]) (S := (sv_up (sv_sts (sv_up S 1000 0 (1 : Int)) [88, 89, 87, 1113, 5, 1011, 90] g6) 1121 0 ((S 1046 0) + ((2 : Int) * (S 1032 0))))))
        have hb := hJ ((0 : Int), (sv_up (sv_sts (sv_up S 1000 0 (1 : Int)) [88, 89, 87, 1113, 5, 1011, 90] g6) 1121 0 ((S 1046 0) + ((2 : Int) * (S 1032 0))))) ⟨(⟨by decide, by decide⟩ : sv_R (0 : Int)), (by rw [← eS]; exact ok14), hin19⟩
        have hb : sv_T sm_XS sm_cs sm_L sm_sh 24 (q_solve S) 294 58 [(0, .ref 0), (1, sv_I (0 : Int))] [] (sv_up (sv_sts (sv_up S 1000 0 (1 : Int)) [88, 89, 87, 1113, 5, 1011, 90] g6) 1121 0 ((S 1046 0) + ((2 : Int) * (S 1032 0)))) := Eq.mpr (congrArg (fun Z => sv_T sm_XS sm_cs sm_L sm_sh 24 (q_solve S) 294 58 [(0, .ref 0), (1, sv_I (0 : Int))] [] Z) eS) hb
        exact hb
      · have h := h.2 (hc)
        refine sv_aload_n hM dX12_solve_32 rfl rfl ?_
        have k123 : sv_R (S 1120 0) := sm_okI ok2 sm_r1120 0
        have h := h k123
        refine sv_getI hM dX12_solve_33 sm_fl_1034 (sm_a0 _) sm_k120 rfl (x := (S 1120 0)) rfl ?_
        exact sv_iret hM dX12_solve_36 rfl rfl ⟨(S 1120 0), rfl, k123, ok2, md3, h⟩
    · have h := h.2 (hc)
      refine sv_iconst (d := (0 : Int)) hM dX12_solve_23 rfl rfl ?_
      exact sv_iret hM dX12_solve_24 rfl rfl ⟨(0 : Int), rfl, (⟨by decide, by decide⟩ : sv_R (0 : Int)), ok2, md3, h⟩
  · have h := h.2 (hc)
    refine sv_iconst (d := (0 : Int)) hM dX12_solve_8 rfl rfl ?_
    refine sv_goto hM dX12_solve_9 (pc' := 13) rfl ?_
    refine sv_putI sm_X hM dX12_solve_13 sm_fp_289 (sm_a0 _) sm_q0 (Or.inl rfl) rfl rfl rfl rfl ?_
    have ok124 : sm_ok (sv_up S 1000 0 (0 : Int)) := sm_upI hok sm_r1000 (⟨by decide, by decide⟩ : sv_R (0 : Int))
    have md125 : sv_mod [68, 69, 70, 81, 82, 83, 84, 85, 86, 71, 74, 75, 1127, 78, 79, 80, 72, 76, 77, 1143, 1144, 5, 1011, 1150, 1149, 1145, 1113, 1111, 1112, 91, 1147, 1100031, 1148, 73, 88, 89, 87, 90, 1121, 1000, 1119, 1120] S (sv_up S 1000 0 (0 : Int)) := sv_mod.up sv_mod.rf (by decide)
    refine sv_aload_n hM dX12_solve_16 rfl rfl ?_
    refine sv_getI hM dX12_solve_17 sm_fl_289 (sm_a0 _) sm_k0 rfl (x := (0 : Int)) rfl ?_
    refine sv_cond_le hM dX12_solve_20 (⟨by decide, by decide⟩ : sv_R (0 : Int)) (t := 25) rfl rfl (fun hc => ?_) (fun hc => ?_)
    · have h := h.1 (hc)
      refine sv_aload_n hM dX12_solve_25 rfl rfl ?_
      have k126 : (0 ≤ (S 1119 0) ∧ (S 1119 0) ≤ 1) := sm_okZ ok124 sm_r1119 0
      have h := h k126
      refine sv_getI hM dX12_solve_26 sm_fl_776 (sm_a0 _) sm_k119 rfl (x := (S 1119 0)) rfl ?_
      refine sv_cond_eq hM dX12_solve_29 (sv_R01 k126) (t := 37) rfl rfl (fun hc => ?_) (fun hc => ?_)
      · have h := h.1 (hc)
        refine sv_aload_n hM dX12_solve_37 rfl rfl ?_
        obtain ⟨o127, h⟩ := h
        refine sv_callV hM dX12_solve_38 sm_iv_1373 (by decide) (sm_a0 _) rfl rfl (Nat.le_of_ble_eq_true rfl) sm_h291 (Nat.le_of_ble_eq_true rfl) (Nat.le_of_ble_eq_true rfl) (F' := 2) (Nat.le_of_ble_eq_true rfl) rfl (t_findSorts  (sv_up S 1000 0 (0 : Int)) ok124 o127) (fun v S1 hq => ?_)
        obtain ⟨rfl, ok129, md130, hpo131⟩ := hq
        obtain ⟨g128, rfl⟩ : ∃ g, S1 = sv_sts (sv_up S 1000 0 (0 : Int)) [88, 89, 87, 1113, 5, 1011, 90] g := ⟨_, md130.eq⟩
        show sv_T sm_XS sm_cs sm_L sm_sh 24 (q_solve S) 294 41 [(0, .ref 0)] [] (sv_sts (sv_up S 1000 0 (0 : Int)) [88, 89, 87, 1113, 5, 1011, 90] g128)
        have md132 : sv_mod [68, 69, 70, 81, 82, 83, 84, 85, 86, 71, 74, 75, 1127, 78, 79, 80, 72, 76, 77, 1143, 1144, 5, 1011, 1150, 1149, 1145, 1113, 1111, 1112, 91, 1147, 1100031, 1148, 73, 88, 89, 87, 90, 1121, 1000, 1119, 1120] S (sv_sts (sv_up S 1000 0 (0 : Int)) [88, 89, 87, 1113, 5, 1011, 90] g128) := sv_mod.sts md125 (by decide)
        have h := h g128 hpo131
        refine sv_aload_n hM dX12_solve_41 rfl rfl ?_
        refine sv_aload_n hM dX12_solve_42 rfl rfl ?_
        have k133 : sv_R (S 1046 0) := sm_okI ok129 sm_r1046 0
        have h := h k133
        refine sv_getI hM dX12_solve_43 sm_fl_606 (sm_a0 _) sm_k46 rfl (x := (S 1046 0)) rfl ?_
        refine sv_iconst (d := (2 : Int)) hM dX12_solve_46 rfl rfl ?_
        refine sv_aload_n hM dX12_solve_47 rfl rfl ?_
        have k134 : sv_R (S 1032 0) := sm_okI ok129 sm_r1032 0
        have h := h k134
        refine sv_getI hM dX12_solve_48 sm_fl_527 (sm_a0 _) sm_k32 rfl (x := (S 1032 0)) rfl ?_
        refine sv_imul hM dX12_solve_51 rfl ?_
        refine sv_iadd hM dX12_solve_52 rfl ?_
        obtain ⟨o135, h⟩ := h
        refine sv_putI sm_X hM dX12_solve_53 sm_fp_1376 (sm_a0 _) sm_q121 (Or.inl rfl) rfl rfl rfl rfl ?_
        have ok136 : sm_ok (sv_up (sv_sts (sv_up S 1000 0 (0 : Int)) [88, 89, 87, 1113, 5, 1011, 90] g128) 1121 0 ((S 1046 0) + ((2 : Int) * (S 1032 0)))) := sm_upI ok129 sm_r1121 o135
        have md137 : sv_mod [68, 69, 70, 81, 82, 83, 84, 85, 86, 71, 74, 75, 1127, 78, 79, 80, 72, 76, 77, 1143, 1144, 5, 1011, 1150, 1149, 1145, 1113, 1111, 1112, 91, 1147, 1100031, 1148, 73, 88, 89, 87, 90, 1121, 1000, 1119, 1120] S (sv_up (sv_sts (sv_up S 1000 0 (0 : Int)) [88, 89, 87, 1113, 5, 1011, 90] g128) 1121 0 ((S 1046 0) + ((2 : Int) * (S 1032 0)))) := sv_mod.up md132 (by decide)
        refine sv_iconst (d := (0 : Int)) hM dX12_solve_56 rfl rfl ?_
        refine sv_istore_n hM dX12_solve_57 (by decide) rfl ?_
        show sv_T sm_XS sm_cs sm_L sm_sh 24 (q_solve S) 294 58 [(0, .ref 0), (1, sv_I (0 : Int))] [] (sv_up (sv_sts (sv_up S 1000 0 (0 : Int)) [88, 89, 87, 1113, 5, 1011, 90] g128) 1121 0 ((S 1046 0) + ((2 : Int) * (S 1032 0))))
        obtain ⟨hin141, h⟩ := h
        have hJ : ∀ a : Int × sv_S, (sv_R a.1 ∧ sm_ok (sv_sts (sv_up (sv_sts (sv_up S 1000 0 (0 : Int)) [88, 89, 87, 1113, 5, 1011, 90] g128) 1121 0 ((S 1046 0) + ((2 : Int) * (S 1032 0)))) [71, 72] a.2) ∧ (0 ≤ a.1 ∧ a.1 ≤ ((S 1046 0) + ((2 : Int) * (S 1032 0))) ∧ (∀ k : Int, 0 ≤ k → k < a.1 → (a.2 71 k) = 0) ∧ (∀ k : Int, 0 ≤ k → k < a.1 → (a.2 72 k) = 0))) → sv_T sm_XS sm_cs sm_L sm_sh 24 (q_solve S) 294 58 [(0, .ref 0), (1, sv_I a.1)] [] (sv_sts (sv_up (sv_sts (sv_up S 1000 0 (0 : Int)) [88, 89, 87, 1113, 5, 1011, 90] g128) 1121 0 ((S 1046 0) + ((2 : Int) * (S 1032 0)))) [71, 72] a.2) := by
          refine sv_loop (α := Int × sv_S) (fun a => sv_R a.1 ∧ sm_ok (sv_sts (sv_up (sv_sts (sv_up S 1000 0 (0 : Int)) [88, 89, 87, 1113, 5, 1011, 90] g128) 1121 0 ((S 1046 0) + ((2 : Int) * (S 1032 0)))) [71, 72] a.2) ∧ (0 ≤ a.1 ∧ a.1 ≤ ((S 1046 0) + ((2 : Int) * (S 1032 0))) ∧ (∀ k : Int, 0 ≤ k → k < a.1 → (a.2 71 k) = 0) ∧ (∀ k : Int, 0 ≤ k → k < a.1 → (a.2 72 k) = 0))) (fun a => ((S 1046 0) + ((2 : Int) * (S 1032 0))) - a.1) (fun a => sv_T sm_XS sm_cs sm_L sm_sh 24 (q_solve S) 294 58 [(0, .ref 0), (1, sv_I a.1)] [] (sv_sts (sv_up (sv_sts (sv_up S 1000 0 (0 : Int)) [88, 89, 87, 1113, 5, 1011, 90] g128) 1121 0 ((S 1046 0) + ((2 : Int) * (S 1032 0)))) [71, 72] a.2)) (fun a q => (h a.1 q.1 a.2 q.2.2).1) (fun a q ih140 => ?_)
          obtain ⟨l1_139, g138⟩ := a
          obtain ⟨hl1_139, ok142, hin141i⟩ := q
          have h := (h l1_139 hl1_139 g138 hin141i).2
          show sv_T sm_XS sm_cs sm_L sm_sh 24 (q_solve S) 294 58 [(0, .ref 0), (1, sv_I l1_139)] [] (sv_sts (sv_up (sv_sts (sv_up S 1000 0 (0 : Int)) [88, 89, 87, 1113, 5, 1011, 90] g128) 1121 0 ((S 1046 0) + ((2 : Int) * (S 1032 0)))) [71, 72] g138)
          have md143 : sv_mod [68, 69, 70, 81, 82, 83, 84, 85, 86, 71, 74, 75, 1127, 78, 79, 80, 72, 76, 77, 1143, 1144, 5, 1011, 1150, 1149, 1145, 1113, 1111, 1112, 91, 1147, 1100031, 1148, 73, 88, 89, 87, 90, 1121, 1000, 1119, 1120] S (sv_sts (sv_up (sv_sts (sv_up S 1000 0 (0 : Int)) [88, 89, 87, 1113, 5, 1011, 90] g128) 1121 0 ((S 1046 0) + ((2 : Int) * (S 1032 0)))) [71, 72] g138) := sv_mod.sts md137 (by decide)
          have md144 : sv_mod [71, 72] (sv_up (sv_sts (sv_up S 1000 0 (0 : Int)) [88, 89, 87, 1113, 5, 1011, 90] g128) 1121 0 ((S 1046 0) + ((2 : Int) * (S 1032 0)))) (sv_sts (sv_up (sv_sts (sv_up S 1000 0 (0 : Int)) [88, 89, 87, 1113, 5, 1011, 90] g128) 1121 0 ((S 1046 0) + ((2 : Int) * (S 1032 0)))) [71, 72] g138) := sv_mod.sts sv_mod.rf (by decide)
          refine sv_iload_n hM dX12_solve_58 rfl rfl ?_
          refine sv_aload_n hM dX12_solve_59 rfl rfl ?_
          refine sv_getI hM dX12_solve_60 sm_fl_1376 (sm_a0 _) sm_k121 rfl (x := ((S 1046 0) + ((2 : Int) * (S 1032 0)))) rfl ?_
          refine sv_icmp_ge hM dX12_solve_63 hl1_139 o135 (t := 86) rfl rfl (fun hc => ?_) (fun hc => ?_)
          · have h := h.1 (hc)
            have k145 : ((∀ k : Int, 0 ≤ k → k < ((S 1046 0) + 2 * (S 1032 0)) → (g138 71 k) = 0) → sm_ST (g138 71) (S 74) (S 75) (S 78) (S 79) (S 80) (S 27) (S 1100007) (S 1100023) (S 1100024) (S 1046 0) ((S 1046 0) + 2 * (S 1032 0)) 465000) := fun h => sm_ST_z h
            have h := h k145
            have k146 : (sm_NH (S 1100007) → sm_hs (g138 71) (S 1100007) ≤ sm_su (S 1100007) 640) := fun h => sm_hs_le h (fun x_ => sm_okZ ok142 sm_r71 x_)
            have h := h k146
            refine sv_aload_n hM dX12_solve_86 rfl rfl ?_
            refine sv_ldc_w (d := (465000 : Int)) hM dX12_solve_87 sm_ck_1379 rfl rfl ?_
            refine sv_putI sm_X hM dX12_solve_90 sm_fp_1107 (sm_a0 _) sm_q127 (Or.inl rfl) rfl rfl rfl rfl ?_
            have ok147 : sm_ok (sv_up (sv_sts (sv_up (sv_sts (sv_up S 1000 0 (0 : Int)) [88, 89, 87, 1113, 5, 1011, 90] g128) 1121 0 ((S 1046 0) + ((2 : Int) * (S 1032 0)))) [71, 72] g138) 1127 0 (465000 : Int)) := sm_upI ok142 sm_r1127 (⟨by decide, by decide⟩ : sv_R (465000 : Int))
            have md148 : sv_mod [68, 69, 70, 81, 82, 83, 84, 85, 86, 71, 74, 75, 1127, 78, 79, 80, 72, 76, 77, 1143, 1144, 5, 1011, 1150, 1149, 1145, 1113, 1111, 1112, 91, 1147, 1100031, 1148, 73, 88, 89, 87, 90, 1121, 1000, 1119, 1120] S (sv_up (sv_sts (sv_up (sv_sts (sv_up S 1000 0 (0 : Int)) [88, 89, 87, 1113, 5, 1011, 90] g128) 1121 0 ((S 1046 0) + ((2 : Int) * (S 1032 0)))) [71, 72] g138) 1127 0 (465000 : Int)) := sv_mod.up md143 (by decide)
            refine sv_aload_n hM dX12_solve_93 rfl rfl ?_
            refine sv_getA hM dX12_solve_94 sm_fl_238 (sm_a0 _) sm_k126 rfl ?_
            refine sv_sipush (d := (639 : Int)) hM dX12_solve_97 rfl rfl ?_
            refine sv_ldc_w (d := (647340 : Int)) hM dX12_solve_100 sm_ck_1380 rfl rfl ?_
            have k149 : ((∀ k : Int, 0 ≤ k → k < (S 1046 0) → (g138 72 k) = 0) → sm_DR (g138 72) (g138 71) (S 1046 0)) := fun h => sm_DR_z h
            have h := h k149
            obtain ⟨o150, h⟩ := h
            refine sv_iast sm_X hM dX12_solve_103 (sm_a75 _) (by decide) o150.1 o150.2 rfl ?_
            have ok151 : sm_ok (sv_up (sv_up (sv_sts (sv_up (sv_sts (sv_up S 1000 0 (0 : Int)) [88, 89, 87, 1113, 5, 1011, 90] g128) 1121 0 ((S 1046 0) + ((2 : Int) * (S 1032 0)))) [71, 72] g138) 1127 0 (465000 : Int)) 75 (639 : Int) (647340 : Int)) := sm_upI ok147 sm_r75 (⟨by decide, by decide⟩ : sv_R (647340 : Int))
            have md152 : sv_mod [68, 69, 70, 81, 82, 83, 84, 85, 86, 71, 74, 75, 1127, 78, 79, 80, 72, 76, 77, 1143, 1144, 5, 1011, 1150, 1149, 1145, 1113, 1111, 1112, 91, 1147, 1100031, 1148, 73, 88, 89, 87, 90, 1121, 1000, 1119, 1120] S (sv_up (sv_up (sv_sts (sv_up (sv_sts (sv_up S 1000 0 (0 : Int)) [88, 89, 87, 1113, 5, 1011, 90] g128) 1121 0 ((S 1046 0) + ((2 : Int) * (S 1032 0)))) [71, 72] g138) 1127 0 (465000 : Int)) 75 (639 : Int) (647340 : Int)) := sv_mod.up md148 (by decide)
            refine sv_aload_n hM dX12_solve_104 rfl rfl ?_
            obtain ⟨o153, h⟩ := h
            refine sv_callV hM dX12_solve_105 sm_iv_1381 (by decide) (sm_a0 _) rfl rfl (Nat.le_of_ble_eq_true rfl) sm_h293 (Nat.le_of_ble_eq_true rfl) (Nat.le_of_ble_eq_true rfl) (F' := 4) (Nat.le_of_ble_eq_true rfl) rfl (t_beginWork  (sv_up (sv_up (sv_sts (sv_up (sv_sts (sv_up S 1000 0 (0 : Int)) [88, 89, 87, 1113, 5, 1011, 90] g128) 1121 0 ((S 1046 0) + ((2 : Int) * (S 1032 0)))) [71, 72] g138) 1127 0 (465000 : Int)) 75 (639 : Int) (647340 : Int)) ok151 o153) (fun v S1 hq => ?_)
            obtain ⟨rfl, ok155, md156, hpo157⟩ := hq
            obtain ⟨g154, rfl⟩ : ∃ g, S1 = sv_sts (sv_up (sv_up (sv_sts (sv_up (sv_sts (sv_up S 1000 0 (0 : Int)) [88, 89, 87, 1113, 5, 1011, 90] g128) 1121 0 ((S 1046 0) + ((2 : Int) * (S 1032 0)))) [71, 72] g138) 1127 0 (465000 : Int)) 75 (639 : Int) (647340 : Int)) [68, 69, 70, 81, 82, 83, 84, 85, 86, 1143, 1144, 5, 1011, 74, 78, 76, 77] g := ⟨_, md156.eq⟩
            show sv_T sm_XS sm_cs sm_L sm_sh 24 (q_solve S) 294 108 [(0, .ref 0), (1, sv_I l1_139)] [] (sv_sts (sv_up (sv_up (sv_sts (sv_up (sv_sts (sv_up S 1000 0 (0 : Int)) [88, 89, 87, 1113, 5, 1011, 90] g128) 1121 0 ((S 1046 0) + ((2 : Int) * (S 1032 0)))) [71, 72] g138) 1127 0 (465000 : Int)) 75 (639 : Int) (647340 : Int)) [68, 69, 70, 81, 82, 83, 84, 85, 86, 1143, 1144, 5, 1011, 74, 78, 76, 77] g154)
            have md158 : sv_mod [68, 69, 70, 81, 82, 83, 84, 85, 86, 71, 74, 75, 1127, 78, 79, 80, 72, 76, 77, 1143, 1144, 5, 1011, 1150, 1149, 1145, 1113, 1111, 1112, 91, 1147, 1100031, 1148, 73, 88, 89, 87, 90, 1121, 1000, 1119, 1120] S (sv_sts (sv_up (sv_up (sv_sts (sv_up (sv_sts (sv_up S 1000 0 (0 : Int)) [88, 89, 87, 1113, 5, 1011, 90] g128) 1121 0 ((S 1046 0) + ((2 : Int) * (S 1032 0)))) [71, 72] g138) 1127 0 (465000 : Int)) 75 (639 : Int) (647340 : Int)) [68, 69, 70, 81, 82, 83, 84, 85, 86, 1143, 1144, 5, 1011, 74, 78, 76, 77] g154) := sv_mod.sts md152 (by decide)
            have h := h g154 hpo157
            refine sv_ghost sm_X 1100031 0 (-1 : Int) (by decide) ?_
            have ok159 : sm_ok (sv_up (sv_sts (sv_up (sv_up (sv_sts (sv_up (sv_sts (sv_up S 1000 0 (0 : Int)) [88, 89, 87, 1113, 5, 1011, 90] g128) 1121 0 ((S 1046 0) + ((2 : Int) * (S 1032 0)))) [71, 72] g138) 1127 0 (465000 : Int)) 75 (639 : Int) (647340 : Int)) [68, 69, 70, 81, 82, 83, 84, 85, 86, 1143, 1144, 5, 1011, 74, 78, 76, 77] g154) 1100031 0 (-1 : Int)) := sm_upI ok155 sm_r1100031 (⟨by decide, by decide⟩ : sv_R (-1 : Int))
            have md160 : sv_mod [68, 69, 70, 81, 82, 83, 84, 85, 86, 71, 74, 75, 1127, 78, 79, 80, 72, 76, 77, 1143, 1144, 5, 1011, 1150, 1149, 1145, 1113, 1111, 1112, 91, 1147, 1100031, 1148, 73, 88, 89, 87, 90, 1121, 1000, 1119, 1120] S (sv_up (sv_sts (sv_up (sv_up (sv_sts (sv_up (sv_sts (sv_up S 1000 0 (0 : Int)) [88, 89, 87, 1113, 5, 1011, 90] g128) 1121 0 ((S 1046 0) + ((2 : Int) * (S 1032 0)))) [71, 72] g138) 1127 0 (465000 : Int)) 75 (639 : Int) (647340 : Int)) [68, 69, 70, 81, 82, 83, 84, 85, 86, 1143, 1144, 5, 1011, 74, 78, 76, 77] g154) 1100031 0 (-1 : Int)) := sv_mod.up md158 (by decide)
            have k161 : (sm_dp (S 1100024) (-1) = 0) := sm_dp_n (by decide)
            have h := h k161
            refine sv_aload_n hM dX12_solve_108 rfl rfl ?_
            refine sv_iconst (d := (0 : Int)) hM dX12_solve_109 rfl rfl ?_
            obtain ⟨o162, h⟩ := h
            refine sv_callV hM dX12_solve_110 sm_iv_1191 (by decide) (sm_a0 _) rfl rfl (Nat.le_of_ble_eq_true rfl) sm_h235 (Nat.le_of_ble_eq_true rfl) (Nat.le_of_ble_eq_true rfl) (F' := 3) (Nat.le_of_ble_eq_true rfl) rfl (t_flow (0 : Int) (sv_up (sv_sts (sv_up (sv_up (sv_sts (sv_up (sv_sts (sv_up S 1000 0 (0 : Int)) [88, 89, 87, 1113, 5, 1011, 90] g128) 1121 0 ((S 1046 0) + ((2 : Int) * (S 1032 0)))) [71, 72] g138) 1127 0 (465000 : Int)) 75 (639 : Int) (647340 : Int)) [68, 69, 70, 81, 82, 83, 84, 85, 86, 1143, 1144, 5, 1011, 74, 78, 76, 77] g154) 1100031 0 (-1 : Int)) ok159 (⟨by decide, by decide⟩ : sv_R (0 : Int)) o162) (fun v S1 hq => ?_)
            obtain ⟨rfl, ok164, md165, hpo166⟩ := hq
            obtain ⟨g163, rfl⟩ : ∃ g, S1 = sv_sts (sv_up (sv_sts (sv_up (sv_up (sv_sts (sv_up (sv_sts (sv_up S 1000 0 (0 : Int)) [88, 89, 87, 1113, 5, 1011, 90] g128) 1121 0 ((S 1046 0) + ((2 : Int) * (S 1032 0)))) [71, 72] g138) 1127 0 (465000 : Int)) 75 (639 : Int) (647340 : Int)) [68, 69, 70, 81, 82, 83, 84, 85, 86, 1143, 1144, 5, 1011, 74, 78, 76, 77] g154) 1100031 0 (-1 : Int)) [68, 69, 70, 81, 82, 83, 84, 85, 86, 71, 74, 75, 1127, 78, 79, 80, 72, 76, 77] g := ⟨_, md165.eq⟩
            show sv_T sm_XS sm_cs sm_L sm_sh 24 (q_solve S) 294 113 [(0, .ref 0), (1, sv_I l1_139)] [] (sv_sts (sv_up (sv_sts (sv_up (sv_up (sv_sts (sv_up (sv_sts (sv_up S 1000 0 (0 : Int)) [88, 89, 87, 1113, 5, 1011, 90] g128) 1121 0 ((S 1046 0) + ((2 : Int) * (S 1032 0)))) [71, 72] g138) 1127 0 (465000 : Int)) 75 (639 : Int) (647340 : Int)) [68, 69, 70, 81, 82, 83, 84, 85, 86, 1143, 1144, 5, 1011, 74, 78, 76, 77] g154) 1100031 0 (-1 : Int)) [68, 69, 70, 81, 82, 83, 84, 85, 86, 71, 74, 75, 1127, 78, 79, 80, 72, 76, 77] g163)
            have md167 : sv_mod [68, 69, 70, 81, 82, 83, 84, 85, 86, 71, 74, 75, 1127, 78, 79, 80, 72, 76, 77, 1143, 1144, 5, 1011, 1150, 1149, 1145, 1113, 1111, 1112, 91, 1147, 1100031, 1148, 73, 88, 89, 87, 90, 1121, 1000, 1119, 1120] S (sv_sts (sv_up (sv_sts (sv_up (sv_up (sv_sts (sv_up (sv_sts (sv_up S 1000 0 (0 : Int)) [88, 89, 87, 1113, 5, 1011, 90] g128) 1121 0 ((S 1046 0) + ((2 : Int) * (S 1032 0)))) [71, 72] g138) 1127 0 (465000 : Int)) 75 (639 : Int) (647340 : Int)) [68, 69, 70, 81, 82, 83, 84, 85, 86, 1143, 1144, 5, 1011, 74, 78, 76, 77] g154) 1100031 0 (-1 : Int)) [68, 69, 70, 81, 82, 83, 84, 85, 86, 71, 74, 75, 1127, 78, 79, 80, 72, 76, 77] g163) := sv_mod.sts md160 (by decide)
            have h := h g163 hpo166
            have k168 : (0 ≤ sm_pl (g163 81) (g163 82) (g163 83) (g163 84) (g163 85) (g163 86) ∧ sm_pl (g163 81) (g163 82) (g163 83) (g163 84) (g163 85) (g163 86) ≤ 3870000) := sm_pl_r _ _ _ _ (fun x_ => sm_okZ ok164 sm_r81 x_) (fun x_ => sm_okZ ok164 sm_r82 x_)
            have h := h k168
            have k169 : (0 ≤ sm_cm (g163 71)) := sm_cm_b (fun x_ => sm_okZ ok164 sm_r71 x_)
            have h := h k169
            have k170 : (0 ≤ sm_du (g163 72) ∧ sm_du (g163 72) ≤ 640) := sm_du_b (fun x_ => sm_okZ ok164 sm_r72 x_)
            have h := h k170
            refine sv_iconst (d := (1 : Int)) hM dX12_solve_113 rfl rfl ?_
            refine sv_istore_n hM dX12_solve_114 (by decide) rfl ?_
            show sv_T sm_XS sm_cs sm_L sm_sh 24 (q_solve S) 294 115 [(0, .ref 0), (1, sv_I (1 : Int))] [] (sv_sts (sv_up (sv_sts (sv_up (sv_up (sv_sts (sv_up (sv_sts (sv_up S 1000 0 (0 : Int)) [88, 89, 87, 1113, 5, 1011, 90] g128) 1121 0 ((S 1046 0) + ((2 : Int) * (S 1032 0)))) [71, 72] g138) 1127 0 (465000 : Int)) 75 (639 : Int) (647340 : Int)) [68, 69, 70, 81, 82, 83, 84, 85, 86, 1143, 1144, 5, 1011, 74, 78, 76, 77] g154) 1100031 0 (-1 : Int)) [68, 69, 70, 81, 82, 83, 84, 85, 86, 71, 74, 75, 1127, 78, 79, 80, 72, 76, 77] g163)
            obtain ⟨hin174, h⟩ := h
            have hJ : ∀ a : Int × sv_S, (sv_R a.1 ∧ sm_ok (sv_sts (sv_sts (sv_up (sv_sts (sv_up (sv_up (sv_sts (sv_up (sv_sts (sv_up S 1000 0 (0 : Int)) [88, 89, 87, 1113, 5, 1011, 90] g128) 1121 0 ((S 1046 0) + ((2 : Int) * (S 1032 0)))) [71, 72] g138) 1127 0 (465000 : Int)) 75 (639 : Int) (647340 : Int)) [68, 69, 70, 81, 82, 83, 84, 85, 86, 1143, 1144, 5, 1011, 74, 78, 76, 77] g154) 1100031 0 (-1 : Int)) [68, 69, 70, 81, 82, 83, 84, 85, 86, 71, 74, 75, 1127, 78, 79, 80, 72, 76, 77] g163) [68, 69, 70, 81, 82, 83, 84, 85, 86, 71, 74, 75, 1127, 78, 79, 80, 72, 76, 77, 1143, 1144, 5, 1011, 1150, 1149, 1145, 1113, 1111, 1112, 91, 1147, 1100031, 1148, 73] a.2) ∧ ((a.1 = 0 ∨ a.1 = 1) ∧ sm_ST (a.2 71) (a.2 74) (a.2 75) (a.2 78) (a.2 79) (a.2 80) (S 27) (S 1100007) (S 1100023) (S 1100024) (S 1046 0) ((S 1046 0) + 2 * (S 1032 0)) (a.2 1127 0) ∧ 465000 ≤ (a.2 1127 0) ∧ (a.2 1127 0) + sm_hs (a.2 71) (S 1100007) ≤ 635000 ∧ (a.2 75 639) = 647340 ∧ sm_DR (a.2 72) (a.2 71) (S 1046 0) ∧ 0 ≤ sm_pl (a.2 81) (a.2 82) (a.2 83) (a.2 84) (a.2 85) (a.2 86) ∧ 0 ≤ sm_cm (a.2 71) ∧ 0 ≤ sm_du (a.2 72))) → sv_T sm_XS sm_cs sm_L sm_sh 24 (q_solve S) 294 115 [(0, .ref 0), (1, sv_I a.1)] [] (sv_sts (sv_sts (sv_up (sv_sts (sv_up (sv_up (sv_sts (sv_up (sv_sts (sv_up S 1000 0 (0 : Int)) [88, 89, 87, 1113, 5, 1011, 90] g128) 1121 0 ((S 1046 0) + ((2 : Int) * (S 1032 0)))) [71, 72] g138) 1127 0 (465000 : Int)) 75 (639 : Int) (647340 : Int)) [68, 69, 70, 81, 82, 83, 84, 85, 86, 1143, 1144, 5, 1011, 74, 78, 76, 77] g154) 1100031 0 (-1 : Int)) [68, 69, 70, 81, 82, 83, 84, 85, 86, 71, 74, 75, 1127, 78, 79, 80, 72, 76, 77] g163) [68, 69, 70, 81, 82, 83, 84, 85, 86, 71, 74, 75, 1127, 78, 79, 80, 72, 76, 77, 1143, 1144, 5, 1011, 1150, 1149, 1145, 1113, 1111, 1112, 91, 1147, 1100031, 1148, 73] a.2) := by
              refine sv_loop (α := Int × sv_S) (fun a => sv_R a.1 ∧ sm_ok (sv_sts (sv_sts (sv_up (sv_sts (sv_up (sv_up (sv_sts (sv_up (sv_sts (sv_up S 1000 0 (0 : Int)) [88, 89, 87, 1113, 5, 1011, 90] g128) 1121 0 ((S 1046 0) + ((2 : Int) * (S 1032 0)))) [71, 72] g138) 1127 0 (465000 : Int)) 75 (639 : Int) (647340 : Int)) [68, 69, 70, 81, 82, 83, 84, 85, 86, 1143, 1144, 5, 1011, 74, 78, 76, 77] g154) 1100031 0 (-1 : Int)) [68, 69, 70, 81, 82, 83, 84, 85, 86, 71, 74, 75, 1127, 78, 79, 80, 72, 76, 77] g163) [68, 69, 70, 81, 82, 83, 84, 85, 86, 71, 74, 75, 1127, 78, 79, 80, 72, 76, 77, 1143, 1144, 5, 1011, 1150, 1149, 1145, 1113, 1111, 1112, 91, 1147, 1100031, 1148, 73] a.2) ∧ ((a.1 = 0 ∨ a.1 = 1) ∧ sm_ST (a.2 71) (a.2 74) (a.2 75) (a.2 78) (a.2 79) (a.2 80) (S 27) (S 1100007) (S 1100023) (S 1100024) (S 1046 0) ((S 1046 0) + 2 * (S 1032 0)) (a.2 1127 0) ∧ 465000 ≤ (a.2 1127 0) ∧ (a.2 1127 0) + sm_hs (a.2 71) (S 1100007) ≤ 635000 ∧ (a.2 75 639) = 647340 ∧ sm_DR (a.2 72) (a.2 71) (S 1046 0) ∧ 0 ≤ sm_pl (a.2 81) (a.2 82) (a.2 83) (a.2 84) (a.2 85) (a.2 86) ∧ 0 ≤ sm_cm (a.2 71) ∧ 0 ≤ sm_du (a.2 72))) (fun a => (641 * (sm_cm (a.2 71) + sm_pt (a.2 68) (a.2 69) (a.2 70) + sm_pl (a.2 81) (a.2 82) (a.2 83) (a.2 84) (a.2 85) (a.2 86) + sm_ps (a.2 76) (a.2 77)) + sm_du (a.2 72)) + a.1) (fun a => sv_T sm_XS sm_cs sm_L sm_sh 24 (q_solve S) 294 115 [(0, .ref 0), (1, sv_I a.1)] [] (sv_sts (sv_sts (sv_up (sv_sts (sv_up (sv_up (sv_sts (sv_up (sv_sts (sv_up S 1000 0 (0 : Int)) [88, 89, 87, 1113, 5, 1011, 90] g128) 1121 0 ((S 1046 0) + ((2 : Int) * (S 1032 0)))) [71, 72] g138) 1127 0 (465000 : Int)) 75 (639 : Int) (647340 : Int)) [68, 69, 70, 81, 82, 83, 84, 85, 86, 1143, 1144, 5, 1011, 74, 78, 76, 77] g154) 1100031 0 (-1 : Int)) [68, 69, 70, 81, 82, 83, 84, 85, 86, 71, 74, 75, 1127, 78, 79, 80, 72, 76, 77] g163) [68, 69, 70, 81, 82, 83, 84, 85, 86, 71, 74, 75, 1127, 78, 79, 80, 72, 76, 77, 1143, 1144, 5, 1011, 1150, 1149, 1145, 1113, 1111, 1112, 91, 1147, 1100031, 1148, 73] a.2)) (fun a q => (h a.1 q.1 a.2 q.2.2).1) (fun a q ih173 => ?_)
              obtain ⟨l1_172, g171⟩ := a
              obtain ⟨hl1_172, ok175, hin174i⟩ := q
              have h := (h l1_172 hl1_172 g171 hin174i).2
              show sv_T sm_XS sm_cs sm_L sm_sh 24 (q_solve S) 294 115 [(0, .ref 0), (1, sv_I l1_172)] [] (sv_sts (sv_sts (sv_up (sv_sts (sv_up (sv_up (sv_sts (sv_up (sv_sts (sv_up S 1000 0 (0 : Int)) [88, 89, 87, 1113, 5, 1011, 90] g128) 1121 0 ((S 1046 0) + ((2 : Int) * (S 1032 0)))) [71, 72] g138) 1127 0 (465000 : Int)) 75 (639 : Int) (647340 : Int)) [68, 69, 70, 81, 82, 83, 84, 85, 86, 1143, 1144, 5, 1011, 74, 78, 76, 77] g154) 1100031 0 (-1 : Int)) [68, 69, 70, 81, 82, 83, 84, 85, 86, 71, 74, 75, 1127, 78, 79, 80, 72, 76, 77] g163) [68, 69, 70, 81, 82, 83, 84, 85, 86, 71, 74, 75, 1127, 78, 79, 80, 72, 76, 77, 1143, 1144, 5, 1011, 1150, 1149, 1145, 1113, 1111, 1112, 91, 1147, 1100031, 1148, 73] g171)
              have md176 : sv_mod [68, 69, 70, 81, 82, 83, 84, 85, 86, 71, 74, 75, 1127, 78, 79, 80, 72, 76, 77, 1143, 1144, 5, 1011, 1150, 1149, 1145, 1113, 1111, 1112, 91, 1147, 1100031, 1148, 73, 88, 89, 87, 90, 1121, 1000, 1119, 1120] S (sv_sts (sv_sts (sv_up (sv_sts (sv_up (sv_up (sv_sts (sv_up (sv_sts (sv_up S 1000 0 (0 : Int)) [88, 89, 87, 1113, 5, 1011, 90] g128) 1121 0 ((S 1046 0) + ((2 : Int) * (S 1032 0)))) [71, 72] g138) 1127 0 (465000 : Int)) 75 (639 : Int) (647340 : Int)) [68, 69, 70, 81, 82, 83, 84, 85, 86, 1143, 1144, 5, 1011, 74, 78, 76, 77] g154) 1100031 0 (-1 : Int)) [68, 69, 70, 81, 82, 83, 84, 85, 86, 71, 74, 75, 1127, 78, 79, 80, 72, 76, 77] g163) [68, 69, 70, 81, 82, 83, 84, 85, 86, 71, 74, 75, 1127, 78, 79, 80, 72, 76, 77, 1143, 1144, 5, 1011, 1150, 1149, 1145, 1113, 1111, 1112, 91, 1147, 1100031, 1148, 73] g171) := sv_mod.sts md167 (by decide)
              have md177 : sv_mod [68, 69, 70, 81, 82, 83, 84, 85, 86, 71, 74, 75, 1127, 78, 79, 80, 72, 76, 77, 1143, 1144, 5, 1011, 1150, 1149, 1145, 1113, 1111, 1112, 91, 1147, 1100031, 1148, 73] (sv_sts (sv_up (sv_sts (sv_up (sv_up (sv_sts (sv_up (sv_sts (sv_up S 1000 0 (0 : Int)) [88, 89, 87, 1113, 5, 1011, 90] g128) 1121 0 ((S 1046 0) + ((2 : Int) * (S 1032 0)))) [71, 72] g138) 1127 0 (465000 : Int)) 75 (639 : Int) (647340 : Int)) [68, 69, 70, 81, 82, 83, 84, 85, 86, 1143, 1144, 5, 1011, 74, 78, 76, 77] g154) 1100031 0 (-1 : Int)) [68, 69, 70, 81, 82, 83, 84, 85, 86, 71, 74, 75, 1127, 78, 79, 80, 72, 76, 77] g163) (sv_sts (sv_sts (sv_up (sv_sts (sv_up (sv_up (sv_sts (sv_up (sv_sts (sv_up S 1000 0 (0 : Int)) [88, 89, 87, 1113, 5, 1011, 90] g128) 1121 0 ((S 1046 0) + ((2 : Int) * (S 1032 0)))) [71, 72] g138) 1127 0 (465000 : Int)) 75 (639 : Int) (647340 : Int)) [68, 69, 70, 81, 82, 83, 84, 85, 86, 1143, 1144, 5, 1011, 74, 78, 76, 77] g154) 1100031 0 (-1 : Int)) [68, 69, 70, 81, 82, 83, 84, 85, 86, 71, 74, 75, 1127, 78, 79, 80, 72, 76, 77] g163) [68, 69, 70, 81, 82, 83, 84, 85, 86, 71, 74, 75, 1127, 78, 79, 80, 72, 76, 77, 1143, 1144, 5, 1011, 1150, 1149, 1145, 1113, 1111, 1112, 91, 1147, 1100031, 1148, 73] g171) := sv_mod.sts sv_mod.rf (by decide)
              refine sv_iload_n hM dX12_solve_115 rfl rfl ?_
              refine sv_cond_eq hM dX12_solve_116 hl1_172 (t := 166) rfl rfl (fun hc => ?_) (fun hc => ?_)
              · have h := h.1 (hc)
                refine sv_aload_n hM dX12_solve_166 rfl rfl ?_
                refine sv_iconst (d := (0 : Int)) hM dX12_solve_167 rfl rfl ?_
                refine sv_putI sm_X hM dX12_solve_168 sm_fp_1034 (sm_a0 _) sm_q120 (Or.inl rfl) rfl rfl rfl rfl ?_
                have ok178 : sm_ok (sv_up (sv_sts (sv_sts (sv_up (sv_sts (sv_up (sv_up (sv_sts (sv_up (sv_sts (sv_up S 1000 0 (0 : Int)) [88, 89, 87, 1113, 5, 1011, 90] g128) 1121 0 ((S 1046 0) + ((2 : Int) * (S 1032 0)))) [71, 72] g138) 1127 0 (465000 : Int)) 75 (639 : Int) (647340 : Int)) [68, 69, 70, 81, 82, 83, 84, 85, 86, 1143, 1144, 5, 1011, 74, 78, 76, 77] g154) 1100031 0 (-1 : Int)) [68, 69, 70, 81, 82, 83, 84, 85, 86, 71, 74, 75, 1127, 78, 79, 80, 72, 76, 77] g163) [68, 69, 70, 81, 82, 83, 84, 85, 86, 71, 74, 75, 1127, 78, 79, 80, 72, 76, 77, 1143, 1144, 5, 1011, 1150, 1149, 1145, 1113, 1111, 1112, 91, 1147, 1100031, 1148, 73] g171) 1120 0 (0 : Int)) := sm_upI ok175 sm_r1120 (⟨by decide, by decide⟩ : sv_R (0 : Int))
                have md179 : sv_mod [68, 69, 70, 81, 82, 83, 84, 85, 86, 71, 74, 75, 1127, 78, 79, 80, 72, 76, 77, 1143, 1144, 5, 1011, 1150, 1149, 1145, 1113, 1111, 1112, 91, 1147, 1100031, 1148, 73, 88, 89, 87, 90, 1121, 1000, 1119, 1120] S (sv_up (sv_sts (sv_sts (sv_up (sv_sts (sv_up (sv_up (sv_sts (sv_up (sv_sts (sv_up S 1000 0 (0 : Int)) [88, 89, 87, 1113, 5, 1011, 90] g128) 1121 0 ((S 1046 0) + ((2 : Int) * (S 1032 0)))) [71, 72] g138) 1127 0 (465000 : Int)) 75 (639 : Int) (647340 : Int)) [68, 69, 70, 81, 82, 83, 84, 85, 86, 1143, 1144, 5, 1011, 74, 78, 76, 77] g154) 1100031 0 (-1 : Int)) [68, 69, 70, 81, 82, 83, 84, 85, 86, 71, 74, 75, 1127, 78, 79, 80, 72, 76, 77] g163) [68, 69, 70, 81, 82, 83, 84, 85, 86, 71, 74, 75, 1127, 78, 79, 80, 72, 76, 77, 1143, 1144, 5, 1011, 1150, 1149, 1145, 1113, 1111, 1112, 91, 1147, 1100031, 1148, 73] g171) 1120 0 (0 : Int)) := sv_mod.up md176 (by decide)
                refine sv_iconst (d := (0 : Int)) hM dX12_solve_171 rfl rfl ?_
                refine sv_istore_n hM dX12_solve_172 (by decide) rfl ?_
                show sv_T sm_XS sm_cs sm_L sm_sh 24 (q_solve S) 294 173 [(0, .ref 0), (1, sv_I l1_172), (2, sv_I (0 : Int))] [] (sv_up (sv_sts (sv_sts (sv_up (sv_sts (sv_up (sv_up (sv_sts (sv_up (sv_sts (sv_up S 1000 0 (0 : Int)) [88, 89, 87, 1113, 5, 1011, 90] g128) 1121 0 ((S 1046 0) + ((2 : Int) * (S 1032 0)))) [71, 72] g138) 1127 0 (465000 : Int)) 75 (639 : Int) (647340 : Int)) [68, 69, 70, 81, 82, 83, 84, 85, 86, 1143, 1144, 5, 1011, 74, 78, 76, 77] g154) 1100031 0 (-1 : Int)) [68, 69, 70, 81, 82, 83, 84, 85, 86, 71, 74, 75, 1127, 78, 79, 80, 72, 76, 77] g163) [68, 69, 70, 81, 82, 83, 84, 85, 86, 71, 74, 75, 1127, 78, 79, 80, 72, 76, 77, 1143, 1144, 5, 1011, 1150, 1149, 1145, 1113, 1111, 1112, 91, 1147, 1100031, 1148, 73] g171) 1120 0 (0 : Int))
                obtain ⟨hin183, h⟩ := h
                have hJ : ∀ a : Int × sv_S, (sv_R a.1 ∧ sm_ok (sv_sts (sv_up (sv_sts (sv_sts (sv_up (sv_sts (sv_up (sv_up (sv_sts (sv_up (sv_sts (sv_up S 1000 0 (0 : Int)) [88, 89, 87, 1113, 5, 1011, 90] g128) 1121 0 ((S 1046 0) + ((2 : Int) * (S 1032 0)))) [71, 72] g138) 1127 0 (465000 : Int)) 75 (639 : Int) (647340 : Int)) [68, 69, 70, 81, 82, 83, 84, 85, 86, 1143, 1144, 5, 1011, 74, 78, 76, 77] g154) 1100031 0 (-1 : Int)) [68, 69, 70, 81, 82, 83, 84, 85, 86, 71, 74, 75, 1127, 78, 79, 80, 72, 76, 77] g163) [68, 69, 70, 81, 82, 83, 84, 85, 86, 71, 74, 75, 1127, 78, 79, 80, 72, 76, 77, 1143, 1144, 5, 1011, 1150, 1149, 1145, 1113, 1111, 1112, 91, 1147, 1100031, 1148, 73] g171) 1120 0 (0 : Int)) [1120] a.2) ∧ (0 ≤ a.1 ∧ a.1 ≤ (S 1046 0) ∧ 0 ≤ (a.2 1120 0) ∧ (a.2 1120 0) ≤ a.1)) → sv_T sm_XS sm_cs sm_L sm_sh 24 (q_solve S) 294 173 [(0, .ref 0), (1, sv_I l1_172), (2, sv_I a.1)] [] (sv_sts (sv_up (sv_sts (sv_sts (sv_up (sv_sts (sv_up (sv_up (sv_sts (sv_up (sv_sts (sv_up S 1000 0 (0 : Int)) [88, 89, 87, 1113, 5, 1011, 90] g128) 1121 0 ((S 1046 0) + ((2 : Int) * (S 1032 0)))) [71, 72] g138) 1127 0 (465000 : Int)) 75 (639 : Int) (647340 : Int)) [68, 69, 70, 81, 82, 83, 84, 85, 86, 1143, 1144, 5, 1011, 74, 78, 76, 77] g154) 1100031 0 (-1 : Int)) [68, 69, 70, 81, 82, 83, 84, 85, 86, 71, 74, 75, 1127, 78, 79, 80, 72, 76, 77] g163) [68, 69, 70, 81, 82, 83, 84, 85, 86, 71, 74, 75, 1127, 78, 79, 80, 72, 76, 77, 1143, 1144, 5, 1011, 1150, 1149, 1145, 1113, 1111, 1112, 91, 1147, 1100031, 1148, 73] g171) 1120 0 (0 : Int)) [1120] a.2) := by
                  refine sv_loop (α := Int × sv_S) (fun a => sv_R a.1 ∧ sm_ok (sv_sts (sv_up (sv_sts (sv_sts (sv_up (sv_sts (sv_up (sv_up (sv_sts (sv_up (sv_sts (sv_up S 1000 0 (0 : Int)) [88, 89, 87, 1113, 5, 1011, 90] g128) 1121 0 ((S 1046 0) + ((2 : Int) * (S 1032 0)))) [71, 72] g138) 1127 0 (465000 : Int)) 75 (639 : Int) (647340 : Int)) [68, 69, 70, 81, 82, 83, 84, 85, 86, 1143, 1144, 5, 1011, 74, 78, 76, 77] g154) 1100031 0 (-1 : Int)) [68, 69, 70, 81, 82, 83, 84, 85, 86, 71, 74, 75, 1127, 78, 79, 80, 72, 76, 77] g163) [68, 69, 70, 81, 82, 83, 84, 85, 86, 71, 74, 75, 1127, 78, 79, 80, 72, 76, 77, 1143, 1144, 5, 1011, 1150, 1149, 1145, 1113, 1111, 1112, 91, 1147, 1100031, 1148, 73] g171) 1120 0 (0 : Int)) [1120] a.2) ∧ (0 ≤ a.1 ∧ a.1 ≤ (S 1046 0) ∧ 0 ≤ (a.2 1120 0) ∧ (a.2 1120 0) ≤ a.1)) (fun a => (S 1046 0) - a.1) (fun a => sv_T sm_XS sm_cs sm_L sm_sh 24 (q_solve S) 294 173 [(0, .ref 0), (1, sv_I l1_172), (2, sv_I a.1)] [] (sv_sts (sv_up (sv_sts (sv_sts (sv_up (sv_sts (sv_up (sv_up (sv_sts (sv_up (sv_sts (sv_up S 1000 0 (0 : Int)) [88, 89, 87, 1113, 5, 1011, 90] g128) 1121 0 ((S 1046 0) + ((2 : Int) * (S 1032 0)))) [71, 72] g138) 1127 0 (465000 : Int)) 75 (639 : Int) (647340 : Int)) [68, 69, 70, 81, 82, 83, 84, 85, 86, 1143, 1144, 5, 1011, 74, 78, 76, 77] g154) 1100031 0 (-1 : Int)) [68, 69, 70, 81, 82, 83, 84, 85, 86, 71, 74, 75, 1127, 78, 79, 80, 72, 76, 77] g163) [68, 69, 70, 81, 82, 83, 84, 85, 86, 71, 74, 75, 1127, 78, 79, 80, 72, 76, 77, 1143, 1144, 5, 1011, 1150, 1149, 1145, 1113, 1111, 1112, 91, 1147, 1100031, 1148, 73] g171) 1120 0 (0 : Int)) [1120] a.2)) (fun a q => (h a.1 q.1 a.2 q.2.2).1) (fun a q ih182 => ?_)
                  obtain ⟨l2_181, g180⟩ := a
                  obtain ⟨hl2_181, ok184, hin183i⟩ := q
                  have h := (h l2_181 hl2_181 g180 hin183i).2
                  show sv_T sm_XS sm_cs sm_L sm_sh 24 (q_solve S) 294 173 [(0, .ref 0), (1, sv_I l1_172), (2, sv_I l2_181)] [] (sv_sts (sv_up (sv_sts (sv_sts (sv_up (sv_sts (sv_up (sv_up (sv_sts (sv_up (sv_sts (sv_up S 1000 0 (0 : Int)) [88, 89, 87, 1113, 5, 1011, 90] g128) 1121 0 ((S 1046 0) + ((2 : Int) * (S 1032 0)))) [71, 72] g138) 1127 0 (465000 : Int)) 75 (639 : Int) (647340 : Int)) [68, 69, 70, 81, 82, 83, 84, 85, 86, 1143, 1144, 5, 1011, 74, 78, 76, 77] g154) 1100031 0 (-1 : Int)) [68, 69, 70, 81, 82, 83, 84, 85, 86, 71, 74, 75, 1127, 78, 79, 80, 72, 76, 77] g163) [68, 69, 70, 81, 82, 83, 84, 85, 86, 71, 74, 75, 1127, 78, 79, 80, 72, 76, 77, 1143, 1144, 5, 1011, 1150, 1149, 1145, 1113, 1111, 1112, 91, 1147, 1100031, 1148, 73] g171) 1120 0 (0 : Int)) [1120] g180)
                  have md185 : sv_mod [68, 69, 70, 81, 82, 83, 84, 85, 86, 71, 74, 75, 1127, 78, 79, 80, 72, 76, 77, 1143, 1144, 5, 1011, 1150, 1149, 1145, 1113, 1111, 1112, 91, 1147, 1100031, 1148, 73, 88, 89, 87, 90, 1121, 1000, 1119, 1120] S (sv_sts (sv_up (sv_sts (sv_sts (sv_up (sv_sts (sv_up (sv_up (sv_sts (sv_up (sv_sts (sv_up S 1000 0 (0 : Int)) [88, 89, 87, 1113, 5, 1011, 90] g128) 1121 0 ((S 1046 0) + ((2 : Int) * (S 1032 0)))) [71, 72] g138) 1127 0 (465000 : Int)) 75 (639 : Int) (647340 : Int)) [68, 69, 70, 81, 82, 83, 84, 85, 86, 1143, 1144, 5, 1011, 74, 78, 76, 77] g154) 1100031 0 (-1 : Int)) [68, 69, 70, 81, 82, 83, 84, 85, 86, 71, 74, 75, 1127, 78, 79, 80, 72, 76, 77] g163) [68, 69, 70, 81, 82, 83, 84, 85, 86, 71, 74, 75, 1127, 78, 79, 80, 72, 76, 77, 1143, 1144, 5, 1011, 1150, 1149, 1145, 1113, 1111, 1112, 91, 1147, 1100031, 1148, 73] g171) 1120 0 (0 : Int)) [1120] g180) := sv_mod.sts md179 (by decide)
                  have md186 : sv_mod [1120] (sv_up (sv_sts (sv_sts (sv_up (sv_sts (sv_up (sv_up (sv_sts (sv_up (sv_sts (sv_up S 1000 0 (0 : Int)) [88, 89, 87, 1113, 5, 1011, 90] g128) 1121 0 ((S 1046 0) + ((2 : Int) * (S 1032 0)))) [71, 72] g138) 1127 0 (465000 : Int)) 75 (639 : Int) (647340 : Int)) [68, 69, 70, 81, 82, 83, 84, 85, 86, 1143, 1144, 5, 1011, 74, 78, 76, 77] g154) 1100031 0 (-1 : Int)) [68, 69, 70, 81, 82, 83, 84, 85, 86, 71, 74, 75, 1127, 78, 79, 80, 72, 76, 77] g163) [68, 69, 70, 81, 82, 83, 84, 85, 86, 71, 74, 75, 1127, 78, 79, 80, 72, 76, 77, 1143, 1144, 5, 1011, 1150, 1149, 1145, 1113, 1111, 1112, 91, 1147, 1100031, 1148, 73] g171) 1120 0 (0 : Int)) (sv_sts (sv_up (sv_sts (sv_sts (sv_up (sv_sts (sv_up (sv_up (sv_sts (sv_up (sv_sts (sv_up S 1000 0 (0 : Int)) [88, 89, 87, 1113, 5, 1011, 90] g128) 1121 0 ((S 1046 0) + ((2 : Int) * (S 1032 0)))) [71, 72] g138) 1127 0 (465000 : Int)) 75 (639 : Int) (647340 : Int)) [68, 69, 70, 81, 82, 83, 84, 85, 86, 1143, 1144, 5, 1011, 74, 78, 76, 77] g154) 1100031 0 (-1 : Int)) [68, 69, 70, 81, 82, 83, 84, 85, 86, 71, 74, 75, 1127, 78, 79, 80, 72, 76, 77] g163) [68, 69, 70, 81, 82, 83, 84, 85, 86, 71, 74, 75, 1127, 78, 79, 80, 72, 76, 77, 1143, 1144, 5, 1011, 1150, 1149, 1145, 1113, 1111, 1112, 91, 1147, 1100031, 1148, 73] g171) 1120 0 (0 : Int)) [1120] g180) := sv_mod.sts sv_mod.rf (by decide)
                  refine sv_iload_n hM dX12_solve_173 rfl rfl ?_
                  refine sv_aload_n hM dX12_solve_174 rfl rfl ?_
                  refine sv_getI hM dX12_solve_175 sm_fl_606 (sm_a0 _) sm_k46 rfl (x := (S 1046 0)) rfl ?_
                  refine sv_icmp_ge hM dX12_solve_178 hl2_181 k133 (t := 210) rfl rfl (fun hc => ?_) (fun hc => ?_)
                  · have h := h.1 (hc)
                    refine sv_aload_n hM dX12_solve_210 rfl rfl ?_
                    refine sv_iconst (d := (1 : Int)) hM dX12_solve_211 rfl rfl ?_
                    refine sv_putI sm_X hM dX12_solve_212 sm_fp_776 (sm_a0 _) sm_q119 (Or.inr rfl) rfl (sv_nz (⟨by decide, by decide⟩ : 0 ≤ (1 : Int) ∧ (1 : Int) ≤ 1)) (sv_fz (⟨by decide, by decide⟩ : 0 ≤ (1 : Int) ∧ (1 : Int) ≤ 1)) rfl ?_
                    have ok187 : sm_ok (sv_up (sv_sts (sv_up (sv_sts (sv_sts (sv_up (sv_sts (sv_up (sv_up (sv_sts (sv_up (sv_sts (sv_up S 1000 0 (0 : Int)) [88, 89, 87, 1113, 5, 1011, 90] g128) 1121 0 ((S 1046 0) + ((2 : Int) * (S 1032 0)))) [71, 72] g138) 1127 0 (465000 : Int)) 75 (639 : Int) (647340 : Int)) [68, 69, 70, 81, 82, 83, 84, 85, 86, 1143, 1144, 5, 1011, 74, 78, 76, 77] g154) 1100031 0 (-1 : Int)) [68, 69, 70, 81, 82, 83, 84, 85, 86, 71, 74, 75, 1127, 78, 79, 80, 72, 76, 77] g163) [68, 69, 70, 81, 82, 83, 84, 85, 86, 71, 74, 75, 1127, 78, 79, 80, 72, 76, 77, 1143, 1144, 5, 1011, 1150, 1149, 1145, 1113, 1111, 1112, 91, 1147, 1100031, 1148, 73] g171) 1120 0 (0 : Int)) [1120] g180) 1119 0 (1 : Int)) := sm_upZ ok184 sm_r1119 (⟨by decide, by decide⟩ : 0 ≤ (1 : Int) ∧ (1 : Int) ≤ 1)
                    have md188 : sv_mod [68, 69, 70, 81, 82, 83, 84, 85, 86, 71, 74, 75, 1127, 78, 79, 80, 72, 76, 77, 1143, 1144, 5, 1011, 1150, 1149, 1145, 1113, 1111, 1112, 91, 1147, 1100031, 1148, 73, 88, 89, 87, 90, 1121, 1000, 1119, 1120] S (sv_up (sv_sts (sv_up (sv_sts (sv_sts (sv_up (sv_sts (sv_up (sv_up (sv_sts (sv_up (sv_sts (sv_up S 1000 0 (0 : Int)) [88, 89, 87, 1113, 5, 1011, 90] g128) 1121 0 ((S 1046 0) + ((2 : Int) * (S 1032 0)))) [71, 72] g138) 1127 0 (465000 : Int)) 75 (639 : Int) (647340 : Int)) [68, 69, 70, 81, 82, 83, 84, 85, 86, 1143, 1144, 5, 1011, 74, 78, 76, 77] g154) 1100031 0 (-1 : Int)) [68, 69, 70, 81, 82, 83, 84, 85, 86, 71, 74, 75, 1127, 78, 79, 80, 72, 76, 77] g163) [68, 69, 70, 81, 82, 83, 84, 85, 86, 71, 74, 75, 1127, 78, 79, 80, 72, 76, 77, 1143, 1144, 5, 1011, 1150, 1149, 1145, 1113, 1111, 1112, 91, 1147, 1100031, 1148, 73] g171) 1120 0 (0 : Int)) [1120] g180) 1119 0 (1 : Int)) := sv_mod.up md185 (by decide)
                    refine sv_aload_n hM dX12_solve_215 rfl rfl ?_
                    have k189 : sv_R (g180 1120 0) := sm_okI ok187 sm_r1120 0
                    have h := h k189
                    refine sv_getI hM dX12_solve_216 sm_fl_1034 (sm_a0 _) sm_k120 rfl (x := (g180 1120 0)) rfl ?_
                    exact sv_iret hM dX12_solve_219 rfl rfl ⟨(g180 1120 0), rfl, k189, ok187, md188, h⟩
                  · have h := h.2 (hc)
                    refine sv_aload_n hM dX12_solve_181 rfl rfl ?_
                    refine sv_dupA hM dX12_solve_182 rfl ?_
                    have k190 : sv_R (g180 1120 0) := sm_okI ok184 sm_r1120 0
                    have h := h k190
                    refine sv_getI hM dX12_solve_183 sm_fl_1034 (sm_a0 _) sm_k120 rfl (x := (g180 1120 0)) rfl ?_
                    refine sv_aload_n hM dX12_solve_186 rfl rfl ?_
                    refine sv_getA hM dX12_solve_187 sm_fl_226 (sm_a0 _) sm_k122 rfl ?_
                    refine sv_iload_n hM dX12_solve_190 rfl rfl ?_
                    obtain ⟨o191, h⟩ := h
                    have k192 : (0 ≤ (g171 71 l2_181) ∧ (g171 71 l2_181) ≤ 1) := sm_okZ ok184 sm_r71 l2_181
                    have h := h k192
                    refine sv_zald hM dX12_solve_191 (sm_a71 _) (by decide) o191.1 o191.2 rfl (x := (g171 71 l2_181)) rfl ?_
                    refine sv_cond_eq hM dX12_solve_192 (sv_R01 k192) (t := 199) rfl rfl (fun hc => ?_) (fun hc => ?_)
                    · have h := h.1 (hc)
                      refine sv_iconst (d := (0 : Int)) hM dX12_solve_199 rfl rfl ?_
                      refine sv_iadd hM dX12_solve_200 rfl ?_
                      obtain ⟨o193, h⟩ := h
                      refine sv_putI sm_X hM dX12_solve_201 sm_fp_1034 (sm_a0 _) sm_q120 (Or.inl rfl) rfl rfl rfl rfl ?_
                      have ok194 : sm_ok (sv_up (sv_sts (sv_up (sv_sts (sv_sts (sv_up (sv_sts (sv_up (sv_up (sv_sts (sv_up (sv_sts (sv_up S 1000 0 (0 : Int)) [88, 89, 87, 1113, 5, 1011, 90] g128) 1121 0 ((S 1046 0) + ((2 : Int) * (S 1032 0)))) [71, 72] g138) 1127 0 (465000 : Int)) 75 (639 : Int) (647340 : Int)) [68, 69, 70, 81, 82, 83, 84, 85, 86, 1143, 1144, 5, 1011, 74, 78, 76, 77] g154) 1100031 0 (-1 : Int)) [68, 69, 70, 81, 82, 83, 84, 85, 86, 71, 74, 75, 1127, 78, 79, 80, 72, 76, 77] g163) [68, 69, 70, 81, 82, 83, 84, 85, 86, 71, 74, 75, 1127, 78, 79, 80, 72, 76, 77, 1143, 1144, 5, 1011, 1150, 1149, 1145, 1113, 1111, 1112, 91, 1147, 1100031, 1148, 73] g171) 1120 0 (0 : Int)) [1120] g180) 1120 0 ((g180 1120 0) + (0 : Int))) := sm_upI ok184 sm_r1120 o193
                      have md195 : sv_mod [68, 69, 70, 81, 82, 83, 84, 85, 86, 71, 74, 75, 1127, 78, 79, 80, 72, 76, 77, 1143, 1144, 5, 1011, 1150, 1149, 1145, 1113, 1111, 1112, 91, 1147, 1100031, 1148, 73, 88, 89, 87, 90, 1121, 1000, 1119, 1120] S (sv_up (sv_sts (sv_up (sv_sts (sv_sts (sv_up (sv_sts (sv_up (sv_up (sv_sts (sv_up (sv_sts (sv_up S 1000 0 (0 : Int)) [88, 89, 87, 1113, 5, 1011, 90] g128) 1121 0 ((S 1046 0) + ((2 : Int) * (S 1032 0)))) [71, 72] g138) 1127 0 (465000 : Int)) 75 (639 : Int) (647340 : Int)) [68, 69, 70, 81, 82, 83, 84, 85, 86, 1143, 1144, 5, 1011, 74, 78, 76, 77] g154) 1100031 0 (-1 : Int)) [68, 69, 70, 81, 82, 83, 84, 85, 86, 71, 74, 75, 1127, 78, 79, 80, 72, 76, 77] g163) [68, 69, 70, 81, 82, 83, 84, 85, 86, 71, 74, 75, 1127, 78, 79, 80, 72, 76, 77, 1143, 1144, 5, 1011, 1150, 1149, 1145, 1113, 1111, 1112, 91, 1147, 1100031, 1148, 73] g171) 1120 0 (0 : Int)) [1120] g180) 1120 0 ((g180 1120 0) + (0 : Int))) := sv_mod.up md185 (by decide)
                      have md196 : sv_mod [1120] (sv_up (sv_sts (sv_sts (sv_up (sv_sts (sv_up (sv_up (sv_sts (sv_up (sv_sts (sv_up S 1000 0 (0 : Int)) [88, 89, 87, 1113, 5, 1011, 90] g128) 1121 0 ((S 1046 0) + ((2 : Int) * (S 1032 0)))) [71, 72] g138) 1127 0 (465000 : Int)) 75 (639 : Int) (647340 : Int)) [68, 69, 70, 81, 82, 83, 84, 85, 86, 1143, 1144, 5, 1011, 74, 78, 76, 77] g154) 1100031 0 (-1 : Int)) [68, 69, 70, 81, 82, 83, 84, 85, 86, 71, 74, 75, 1127, 78, 79, 80, 72, 76, 77] g163) [68, 69, 70, 81, 82, 83, 84, 85, 86, 71, 74, 75, 1127, 78, 79, 80, 72, 76, 77, 1143, 1144, 5, 1011, 1150, 1149, 1145, 1113, 1111, 1112, 91, 1147, 1100031, 1148, 73] g171) 1120 0 (0 : Int)) (sv_up (sv_sts (sv_up (sv_sts (sv_sts (sv_up (sv_sts (sv_up (sv_up (sv_sts (sv_up (sv_sts (sv_up S 1000 0 (0 : Int)) [88, 89, 87, 1113, 5, 1011, 90] g128) 1121 0 ((S 1046 0) + ((2 : Int) * (S 1032 0)))) [71, 72] g138) 1127 0 (465000 : Int)) 75 (639 : Int) (647340 : Int)) [68, 69, 70, 81, 82, 83, 84, 85, 86, 1143, 1144, 5, 1011, 74, 78, 76, 77] g154) 1100031 0 (-1 : Int)) [68, 69, 70, 81, 82, 83, 84, 85, 86, 71, 74, 75, 1127, 78, 79, 80, 72, 76, 77] g163) [68, 69, 70, 81, 82, 83, 84, 85, 86, 71, 74, 75, 1127, 78, 79, 80, 72, 76, 77, 1143, 1144, 5, 1011, 1150, 1149, 1145, 1113, 1111, 1112, 91, 1147, 1100031, 1148, 73] g171) 1120 0 (0 : Int)) [1120] g180) 1120 0 ((g180 1120 0) + (0 : Int))) := sv_mod.up md186 (by decide)
                      refine sv_iinc (d := (1 : Int)) hM dX12_solve_204 rfl (by decide) rfl rfl ?_
                      show sv_T sm_XS sm_cs sm_L sm_sh 24 (q_solve S) 294 207 [(0, .ref 0), (1, sv_I l1_172), (2, sv_I (l2_181 + (1 : Int)))] [] (sv_up (sv_sts (sv_up (sv_sts (sv_sts (sv_up (sv_sts (sv_up (sv_up (sv_sts (sv_up (sv_sts (sv_up S 1000 0 (0 : Int)) [88, 89, 87, 1113, 5, 1011, 90] g128) 1121 0 ((S 1046 0) + ((2 : Int) * (S 1032 0)))) [71, 72] g138) 1127 0 (465000 : Int)) 75 (639 : Int) (647340 : Int)) [68, 69, 70, 81, 82, 83, 84, 85, 86, 1143, 1144, 5, 1011, 74, 78, 76, 77] g154) 1100031 0 (-1 : Int)) [68, 69, 70, 81, 82, 83, 84, 85, 86, 71, 74, 75, 1127, 78, 79, 80, 72, 76, 77] g163) [68, 69, 70, 81, 82, 83, 84, 85, 86, 71, 74, 75, 1127, 78, 79, 80, 72, 76, 77, 1143, 1144, 5, 1011, 1150, 1149, 1145, 1113, 1111, 1112, 91, 1147, 1100031, 1148, 73] g171) 1120 0 (0 : Int)) [1120] g180) 1120 0 ((g180 1120 0) + (0 : Int)))
                      refine sv_goto hM dX12_solve_207 (pc' := 173) rfl ?_
                      obtain ⟨o197, h⟩ := h
                      have eS := sv_mod.eq md196
                      have hb := ih182 ((l2_181 + (1 : Int)), (sv_up (sv_sts (sv_up (sv_sts (sv_sts (sv_up (sv_sts (sv_up (sv_up (sv_sts (sv_up (sv_sts (sv_up S 1000 0 (0 : Int)) [88, 89, 87, 1113, 5, 1011, 90] g128) 1121 0 ((S 1046 0) + ((2 : Int) * (S 1032 0)))) [71, 72] g138) 1127 0 (465000 : Int)) 75 (639 : Int) (647340 : Int)) [68, 69, 70, 81, 82, 83, 84, 85, 86, 1143, 1144, 5, 1011, 74, 78, 76, 77] g154) 1100031 0 (-1 : Int)) [68, 69, 70, 81, 82, 83, 84, 85, 86, 71, 74, 75, 1127, 78, 79, 80, 72, 76, 77] g163) [68, 69, 70, 81, 82, 83, 84, 85, 86, 71, 74, 75, 1127, 78, 79, 80, 72, 76, 77, 1143, 1144, 5, 1011, 1150, 1149, 1145, 1113, 1111, 1112, 91, 1147, 1100031, 1148, 73] g171) 1120 0 (0 : Int)) [1120] g180) 1120 0 ((g180 1120 0) + (0 : Int)))) ⟨o197, (by rw [← eS]; exact ok194), h.1⟩ h.2
                      have hb : sv_T sm_XS sm_cs sm_L sm_sh 24 (q_solve S) 294 173 [(0, .ref 0), (1, sv_I l1_172), (2, sv_I (l2_181 + (1 : Int)))] [] (sv_up (sv_sts (sv_up (sv_sts (sv_sts (sv_up (sv_sts (sv_up (sv_up (sv_sts (sv_up (sv_sts (sv_up S 1000 0 (0 : Int)) [88, 89, 87, 1113, 5, 1011, 90] g128) 1121 0 ((S 1046 0) + ((2 : Int) * (S 1032 0)))) [71, 72] g138) 1127 0 (465000 : Int)) 75 (639 : Int) (647340 : Int)) [68, 69, 70, 81, 82, 83, 84, 85, 86, 1143, 1144, 5, 1011, 74, 78, 76, 77] g154) 1100031 0 (-1 : Int)) [68, 69, 70, 81, 82, 83, 84, 85, 86, 71, 74, 75, 1127, 78, 79, 80, 72, 76, 77] g163) [68, 69, 70, 81, 82, 83, 84, 85, 86, 71, 74, 75, 1127, 78, 79, 80, 72, 76, 77, 1143, 1144, 5, 1011, 1150, 1149, 1145, 1113, 1111, 1112, 91, 1147, 1100031, 1148, 73] g171) 1120 0 (0 : Int)) [1120] g180) 1120 0 ((g180 1120 0) + (0 : Int))) := Eq.mpr (congrArg (fun Z => sv_T sm_XS sm_cs sm_L sm_sh 24 (q_solve S) 294 173 [(0, .ref 0), (1, sv_I l1_172), (2, sv_I (l2_181 + (1 : Int)))] [] Z) eS) hb
                      exact sv_less (lv := [(0, .ref 0), (1, sv_I l1_172), (2, sv_I (l2_181 + (1 : Int)))]) (sv_Sub_cons rfl (sv_Sub_cons rfl (sv_Sub_cons rfl sv_Sub_nil))) hb
                    · have h := h.2 (hc)
                      refine sv_iconst (d := (1 : Int)) hM dX12_solve_195 rfl rfl ?_
                      refine sv_goto hM dX12_solve_196 (pc' := 200) rfl ?_
                      refine sv_iadd hM dX12_solve_200 rfl ?_
                      obtain ⟨o198, h⟩ := h
                      refine sv_putI sm_X hM dX12_solve_201 sm_fp_1034 (sm_a0 _) sm_q120 (Or.inl rfl) rfl rfl rfl rfl ?_
                      have ok199 : sm_ok (sv_up (sv_sts (sv_up (sv_sts (sv_sts (sv_up (sv_sts (sv_up (sv_up (sv_sts (sv_up (sv_sts (sv_up S 1000 0 (0 : Int)) [88, 89, 87, 1113, 5, 1011, 90] g128) 1121 0 ((S 1046 0) + ((2 : Int) * (S 1032 0)))) [71, 72] g138) 1127 0 (465000 : Int)) 75 (639 : Int) (647340 : Int)) [68, 69, 70, 81, 82, 83, 84, 85, 86, 1143, 1144, 5, 1011, 74, 78, 76, 77] g154) 1100031 0 (-1 : Int)) [68, 69, 70, 81, 82, 83, 84, 85, 86, 71, 74, 75, 1127, 78, 79, 80, 72, 76, 77] g163) [68, 69, 70, 81, 82, 83, 84, 85, 86, 71, 74, 75, 1127, 78, 79, 80, 72, 76, 77, 1143, 1144, 5, 1011, 1150, 1149, 1145, 1113, 1111, 1112, 91, 1147, 1100031, 1148, 73] g171) 1120 0 (0 : Int)) [1120] g180) 1120 0 ((g180 1120 0) + (1 : Int))) := sm_upI ok184 sm_r1120 o198
                      have md200 : sv_mod [68, 69, 70, 81, 82, 83, 84, 85, 86, 71, 74, 75, 1127, 78, 79, 80, 72, 76, 77, 1143, 1144, 5, 1011, 1150, 1149, 1145, 1113, 1111, 1112, 91, 1147, 1100031, 1148, 73, 88, 89, 87, 90, 1121, 1000, 1119, 1120] S (sv_up (sv_sts (sv_up (sv_sts (sv_sts (sv_up (sv_sts (sv_up (sv_up (sv_sts (sv_up (sv_sts (sv_up S 1000 0 (0 : Int)) [88, 89, 87, 1113, 5, 1011, 90] g128) 1121 0 ((S 1046 0) + ((2 : Int) * (S 1032 0)))) [71, 72] g138) 1127 0 (465000 : Int)) 75 (639 : Int) (647340 : Int)) [68, 69, 70, 81, 82, 83, 84, 85, 86, 1143, 1144, 5, 1011, 74, 78, 76, 77] g154) 1100031 0 (-1 : Int)) [68, 69, 70, 81, 82, 83, 84, 85, 86, 71, 74, 75, 1127, 78, 79, 80, 72, 76, 77] g163) [68, 69, 70, 81, 82, 83, 84, 85, 86, 71, 74, 75, 1127, 78, 79, 80, 72, 76, 77, 1143, 1144, 5, 1011, 1150, 1149, 1145, 1113, 1111, 1112, 91, 1147, 1100031, 1148, 73] g171) 1120 0 (0 : Int)) [1120] g180) 1120 0 ((g180 1120 0) + (1 : Int))) := sv_mod.up md185 (by decide)
                      have md201 : sv_mod [1120] (sv_up (sv_sts (sv_sts (sv_up (sv_sts (sv_up (sv_up (sv_sts (sv_up (sv_sts (sv_up S 1000 0 (0 : Int)) [88, 89, 87, 1113, 5, 1011, 90] g128) 1121 0 ((S 1046 0) + ((2 : Int) * (S 1032 0)))) [71, 72] g138) 1127 0 (465000 : Int)) 75 (639 : Int) (647340 : Int)) [68, 69, 70, 81, 82, 83, 84, 85, 86, 1143, 1144, 5, 1011, 74, 78, 76, 77] g154) 1100031 0 (-1 : Int)) [68, 69, 70, 81, 82, 83, 84, 85, 86, 71, 74, 75, 1127, 78, 79, 80, 72, 76, 77] g163) [68, 69, 70, 81, 82, 83, 84, 85, 86, 71, 74, 75, 1127, 78, 79, 80, 72, 76, 77, 1143, 1144, 5, 1011, 1150, 1149, 1145, 1113, 1111, 1112, 91, 1147, 1100031, 1148, 73] g171) 1120 0 (0 : Int)) (sv_up (sv_sts (sv_up (sv_sts (sv_sts (sv_up (sv_sts (sv_up (sv_up (sv_sts (sv_up (sv_sts (sv_up S 1000 0 (0 : Int)) [88, 89, 87, 1113, 5, 1011, 90] g128) 1121 0 ((S 1046 0) + ((2 : Int) * (S 1032 0)))) [71, 72] g138) 1127 0 (465000 : Int)) 75 (639 : Int) (647340 : Int)) [68, 69, 70, 81, 82, 83, 84, 85, 86, 1143, 1144, 5, 1011, 74, 78, 76, 77] g154) 1100031 0 (-1 : Int)) [68, 69, 70, 81, 82, 83, 84, 85, 86, 71, 74, 75, 1127, 78, 79, 80, 72, 76, 77] g163) [68, 69, 70, 81, 82, 83, 84, 85, 86, 71, 74, 75, 1127, 78, 79, 80, 72, 76, 77, 1143, 1144, 5, 1011, 1150, 1149, 1145, 1113, 1111, 1112, 91, 1147, 1100031, 1148, 73] g171) 1120 0 (0 : Int)) [1120] g180) 1120 0 ((g180 1120 0) + (1 : Int))) := sv_mod.up md186 (by decide)
                      refine sv_iinc (d := (1 : Int)) hM dX12_solve_204 rfl (by decide) rfl rfl ?_
                      show sv_T sm_XS sm_cs sm_L sm_sh 24 (q_solve S) 294 207 [(0, .ref 0), (1, sv_I l1_172), (2, sv_I (l2_181 + (1 : Int)))] [] (sv_up (sv_sts (sv_up (sv_sts (sv_sts (sv_up (sv_sts (sv_up (sv_up (sv_sts (sv_up (sv_sts (sv_up S 1000 0 (0 : Int)) [88, 89, 87, 1113, 5, 1011, 90] g128) 1121 0 ((S 1046 0) + ((2 : Int) * (S 1032 0)))) [71, 72] g138) 1127 0 (465000 : Int)) 75 (639 : Int) (647340 : Int)) [68, 69, 70, 81, 82, 83, 84, 85, 86, 1143, 1144, 5, 1011, 74, 78, 76, 77] g154) 1100031 0 (-1 : Int)) [68, 69, 70, 81, 82, 83, 84, 85, 86, 71, 74, 75, 1127, 78, 79, 80, 72, 76, 77] g163) [68, 69, 70, 81, 82, 83, 84, 85, 86, 71, 74, 75, 1127, 78, 79, 80, 72, 76, 77, 1143, 1144, 5, 1011, 1150, 1149, 1145, 1113, 1111, 1112, 91, 1147, 1100031, 1148, 73] g171) 1120 0 (0 : Int)) [1120] g180) 1120 0 ((g180 1120 0) + (1 : Int)))
                      refine sv_goto hM dX12_solve_207 (pc' := 173) rfl ?_
                      obtain ⟨o202, h⟩ := h
                      have eS := sv_mod.eq md201
                      have hb := ih182 ((l2_181 + (1 : Int)), (sv_up (sv_sts (sv_up (sv_sts (sv_sts (sv_up (sv_sts (sv_up (sv_up (sv_sts (sv_up (sv_sts (sv_up S 1000 0 (0 : Int)) [88, 89, 87, 1113, 5, 1011, 90] g128) 1121 0 ((S 1046 0) + ((2 : Int) * (S 1032 0)))) [71, 72] g138) 1127 0 (465000 : Int)) 75 (639 : Int) (647340 : Int)) [68, 69, 70, 81, 82, 83, 84, 85, 86, 1143, 1144, 5, 1011, 74, 78, 76, 77] g154) 1100031 0 (-1 : Int)) [68, 69, 70, 81, 82, 83, 84, 85, 86, 71, 74, 75, 1127, 78, 79, 80, 72, 76, 77] g163) [68, 69, 70, 81, 82, 83, 84, 85, 86, 71, 74, 75, 1127, 78, 79, 80, 72, 76, 77, 1143, 1144, 5, 1011, 1150, 1149, 1145, 1113, 1111, 1112, 91, 1147, 1100031, 1148, 73] g171) 1120 0 (0 : Int)) [1120] g180) 1120 0 ((g180 1120 0) + (1 : Int)))) ⟨o202, (by rw [← eS]; exact ok199), h.1⟩ h.2
                      have hb : sv_T sm_XS sm_cs sm_L sm_sh 24 (q_solve S) 294 173 [(0, .ref 0), (1, sv_I l1_172), (2, sv_I (l2_181 + (1 : Int)))] [] (sv_up (sv_sts (sv_up (sv_sts (sv_sts (sv_up (sv_sts (sv_up (sv_up (sv_sts (sv_up (sv_sts (sv_up S 1000 0 (0 : Int)) [88, 89, 87, 1113, 5, 1011, 90] g128) 1121 0 ((S 1046 0) + ((2 : Int) * (S 1032 0)))) [71, 72] g138) 1127 0 (465000 : Int)) 75 (639 : Int) (647340 : Int)) [68, 69, 70, 81, 82, 83, 84, 85, 86, 1143, 1144, 5, 1011, 74, 78, 76, 77] g154) 1100031 0 (-1 : Int)) [68, 69, 70, 81, 82, 83, 84, 85, 86, 71, 74, 75, 1127, 78, 79, 80, 72, 76, 77] g163) [68, 69, 70, 81, 82, 83, 84, 85, 86, 71, 74, 75, 1127, 78, 79, 80, 72, 76, 77, 1143, 1144, 5, 1011, 1150, 1149, 1145, 1113, 1111, 1112, 91, 1147, 1100031, 1148, 73] g171) 1120 0 (0 : Int)) [1120] g180) 1120 0 ((g180 1120 0) + (1 : Int))) := Eq.mpr (congrArg (fun Z => sv_T sm_XS sm_cs sm_L sm_sh 24 (q_solve S) 294 173 [(0, .ref 0), (1, sv_I l1_172), (2, sv_I (l2_181 + (1 : Int)))] [] Z) eS) hb
                      exact sv_less (lv := [(0, .ref 0), (1, sv_I l1_172), (2, sv_I (l2_181 + (1 : Int)))]) (sv_Sub_cons rfl (sv_Sub_cons rfl (sv_Sub_cons rfl sv_Sub_nil))) hb
                have eS := sv_mod.eq (sv_mod.rf (l := [1120]) (S := (sv_up (sv_sts (sv_sts (sv_up (sv_sts (sv_up (sv_up (sv_sts (sv_up (sv_sts (sv_up S 1000 0 (0 : Int)) [88, 89, 87, 1113, 5, 1011, 90] g128) 1121 0 ((S 1046 0) + ((2 : Int) * (S 1032 0)))) [71, 72] g138) 1127 0 (465000 : Int)) 75 (639 : Int) (647340 : Int)) [68, 69, 70, 81, 82, 83, 84, 85, 86, 1143, 1144, 5, 1011, 74, 78, 76, 77] g154) 1100031 0 (-1 : Int)) [68, 69, 70, 81, 82, 83, 84, 85, 86, 71, 74, 75, 1127, 78, 79, 80, 72, 76, 77] g163) [68, 69, 70, 81, 82, 83, 84, 85, 86, 71, 74, 75, 1127, 78, 79, 80, 72, 76, 77, 1143, 1144, 5, 1011, 1150, 1149, 1145, 1113, 1111, 1112, 91, 1147, 1100031, 1148, 73] g171) 1120 0 (0 : Int))))
                have hb := hJ ((0 : Int), (sv_up (sv_sts (sv_sts (sv_up (sv_sts (sv_up (sv_up (sv_sts (sv_up (sv_sts (sv_up S 1000 0 (0 : Int)) [88, 89, 87, 1113, 5, 1011, 90] g128) 1121 0 ((S 1046 0) + ((2 : Int) * (S 1032 0)))) [71, 72] g138) 1127 0 (465000 : Int)) 75 (639 : Int) (647340 : Int)) [68, 69, 70, 81, 82, 83, 84, 85, 86, 1143, 1144, 5, 1011, 74, 78, 76, 77] g154) 1100031 0 (-1 : Int)) [68, 69, 70, 81, 82, 83, 84, 85, 86, 71, 74, 75, 1127, 78, 79, 80, 72, 76, 77] g163) [68, 69, 70, 81, 82, 83, 84, 85, 86, 71, 74, 75, 1127, 78, 79, 80, 72, 76, 77, 1143, 1144, 5, 1011, 1150, 1149, 1145, 1113, 1111, 1112, 91, 1147, 1100031, 1148, 73] g171) 1120 0 (0 : Int))) ⟨(⟨by decide, by decide⟩ : sv_R (0 : Int)), (by rw [← eS]; exact ok178), hin183⟩
                have hb : sv_T sm_XS sm_cs sm_L sm_sh 24 (q_solve S) 294 173 [(0, .ref 0), (1, sv_I l1_172), (2, sv_I (0 : Int))] [] (sv_up (sv_sts (sv_sts (sv_up (sv_sts (sv_up (sv_up (sv_sts (sv_up (sv_sts (sv_up S 1000 0 (0 : Int)) [88, 89, 87, 1113, 5, 1011, 90] g128) 1121 0 ((S 1046 0) + ((2 : Int) * (S 1032 0)))) [71, 72] g138) 1127 0 (465000 : Int)) 75 (639 : Int) (647340 : Int)) [68, 69, 70, 81, 82, 83, 84, 85, 86, 1143, 1144, 5, 1011, 74, 78, 76, 77] g154) 1100031 0 (-1 : Int)) [68, 69, 70, 81, 82, 83, 84, 85, 86, 71, 74, 75, 1127, 78, 79, 80, 72, 76, 77] g163) [68, 69, 70, 81, 82, 83, 84, 85, 86, 71, 74, 75, 1127, 78, 79, 80, 72, 76, 77, 1143, 1144, 5, 1011, 1150, 1149, 1145, 1113, 1111, 1112, 91, 1147, 1100031, 1148, 73] g171) 1120 0 (0 : Int)) := Eq.mpr (congrArg (fun Z => sv_T sm_XS sm_cs sm_L sm_sh 24 (q_solve S) 294 173 [(0, .ref 0), (1, sv_I l1_172), (2, sv_I (0 : Int))] [] Z) eS) hb
                exact hb
              · have h := h.2 (hc)
                refine sv_iconst (d := (0 : Int)) hM dX12_solve_119 rfl rfl ?_
                refine sv_istore_n hM dX12_solve_120 (by decide) rfl ?_
                show sv_T sm_XS sm_cs sm_L sm_sh 24 (q_solve S) 294 121 [(0, .ref 0), (1, sv_I (0 : Int))] [] (sv_sts (sv_sts (sv_up (sv_sts (sv_up (sv_up (sv_sts (sv_up (sv_sts (sv_up S 1000 0 (0 : Int)) [88, 89, 87, 1113, 5, 1011, 90] g128) 1121 0 ((S 1046 0) + ((2 : Int) * (S 1032 0)))) [71, 72] g138) 1127 0 (465000 : Int)) 75 (639 : Int) (647340 : Int)) [68, 69, 70, 81, 82, 83, 84, 85, 86, 1143, 1144, 5, 1011, 74, 78, 76, 77] g154) 1100031 0 (-1 : Int)) [68, 69, 70, 81, 82, 83, 84, 85, 86, 71, 74, 75, 1127, 78, 79, 80, 72, 76, 77] g163) [68, 69, 70, 81, 82, 83, 84, 85, 86, 71, 74, 75, 1127, 78, 79, 80, 72, 76, 77, 1143, 1144, 5, 1011, 1150, 1149, 1145, 1113, 1111, 1112, 91, 1147, 1100031, 1148, 73] g171)
                refine sv_iconst (d := (0 : Int)) hM dX12_solve_121 rfl rfl ?_
                refine sv_istore_n hM dX12_solve_122 (by decide) rfl ?_
                show sv_T sm_XS sm_cs sm_L sm_sh 24 (q_solve S) 294 123 [(0, .ref 0), (1, sv_I (0 : Int)), (2, sv_I (0 : Int))] [] (sv_sts (sv_sts (sv_up (sv_sts (sv_up (sv_up (sv_sts (sv_up (sv_sts (sv_up S 1000 0 (0 : Int)) [88, 89, 87, 1113, 5, 1011, 90] g128) 1121 0 ((S 1046 0) + ((2 : Int) * (S 1032 0)))) [71, 72] g138) 1127 0 (465000 : Int)) 75 (639 : Int) (647340 : Int)) [68, 69, 70, 81, 82, 83, 84, 85, 86, 1143, 1144, 5, 1011, 74, 78, 76, 77] g154) 1100031 0 (-1 : Int)) [68, 69, 70, 81, 82, 83, 84, 85, 86, 71, 74, 75, 1127, 78, 79, 80, 72, 76, 77] g163) [68, 69, 70, 81, 82, 83, 84, 85, 86, 71, 74, 75, 1127, 78, 79, 80, 72, 76, 77, 1143, 1144, 5, 1011, 1150, 1149, 1145, 1113, 1111, 1112, 91, 1147, 1100031, 1148, 73] g171)
                obtain ⟨hin207, h⟩ := h
                have hJ : ∀ a : Int × Int × sv_S, (sv_R a.1 ∧ sv_R a.2.1 ∧ sm_ok (sv_sts (sv_sts (sv_sts (sv_up (sv_sts (sv_up (sv_up (sv_sts (sv_up (sv_sts (sv_up S 1000 0 (0 : Int)) [88, 89, 87, 1113, 5, 1011, 90] g128) 1121 0 ((S 1046 0) + ((2 : Int) * (S 1032 0)))) [71, 72] g138) 1127 0 (465000 : Int)) 75 (639 : Int) (647340 : Int)) [68, 69, 70, 81, 82, 83, 84, 85, 86, 1143, 1144, 5, 1011, 74, 78, 76, 77] g154) 1100031 0 (-1 : Int)) [68, 69, 70, 81, 82, 83, 84, 85, 86, 71, 74, 75, 1127, 78, 79, 80, 72, 76, 77] g163) [68, 69, 70, 81, 82, 83, 84, 85, 86, 71, 74, 75, 1127, 78, 79, 80, 72, 76, 77, 1143, 1144, 5, 1011, 1150, 1149, 1145, 1113, 1111, 1112, 91, 1147, 1100031, 1148, 73] g171) [68, 69, 70, 81, 82, 83, 84, 85, 86, 71, 74, 75, 1127, 78, 79, 80, 72, 76, 77, 1143, 1144, 5, 1011, 1150, 1149, 1145, 1113, 1111, 1112, 91, 1147, 1100031, 1148, 73] a.2.2) ∧ ((a.1 = 0 ∨ a.1 = 1) ∧ 0 ≤ a.2.1 ∧ a.2.1 ≤ (S 1046 0) ∧ sm_ST (a.2.2 71) (a.2.2 74) (a.2.2 75) (a.2.2 78) (a.2.2 79) (a.2.2 80) (S 27) (S 1100007) (S 1100023) (S 1100024) (S 1046 0) ((S 1046 0) + 2 * (S 1032 0)) (a.2.2 1127 0) ∧ 465000 ≤ (a.2.2 1127 0) ∧ (a.2.2 1127 0) + sm_hs (a.2.2 71) (S 1100007) ≤ 635000 ∧ (a.2.2 75 639) = 647340 ∧ sm_DR (a.2.2 72) (a.2.2 71) (S 1046 0) ∧ 0 ≤ sm_pl (a.2.2 81) (a.2.2 82) (a.2.2 83) (a.2.2 84) (a.2.2 85) (a.2.2 86) ∧ 0 ≤ sm_cm (a.2.2 71) ∧ 0 ≤ sm_du (a.2.2 72) ∧ (641 * (sm_cm (a.2.2 71) + sm_pt (a.2.2 68) (a.2.2 69) (a.2.2 70) + sm_pl (a.2.2 81) (a.2.2 82) (a.2.2 83) (a.2.2 84) (a.2.2 85) (a.2.2 86) + sm_ps (a.2.2 76) (a.2.2 77)) + sm_du (a.2.2 72)) + a.1 ≤ (641 * (sm_cm (g171 71) + sm_pt (g171 68) (g171 69) (g171 70) + sm_pl (g171 81) (g171 82) (g171 83) (g171 84) (g171 85) (g171 86) + sm_ps (g171 76) (g171 77)) + sm_du (g171 72)))) → sv_T sm_XS sm_cs sm_L sm_sh 24 (q_solve S) 294 123 [(0, .ref 0), (1, sv_I a.1), (2, sv_I a.2.1)] [] (sv_sts (sv_sts (sv_sts (sv_up (sv_sts (sv_up (sv_up (sv_sts (sv_up (sv_sts (sv_up S 1000 0 (0 : Int)) [88, 89, 87, 1113, 5, 1011, 90] g128) 1121 0 ((S 1046 0) + ((2 : Int) * (S 1032 0)))) [71, 72] g138) 1127 0 (465000 : Int)) 75 (639 : Int) (647340 : Int)) [68, 69, 70, 81, 82, 83, 84, 85, 86, 1143, 1144, 5, 1011, 74, 78, 76, 77] g154) 1100031 0 (-1 : Int)) [68, 69, 70, 81, 82, 83, 84, 85, 86, 71, 74, 75, 1127, 78, 79, 80, 72, 76, 77] g163) [68, 69, 70, 81, 82, 83, 84, 85, 86, 71, 74, 75, 1127, 78, 79, 80, 72, 76, 77, 1143, 1144, 5, 1011, 1150, 1149, 1145, 1113, 1111, 1112, 91, 1147, 1100031, 1148, 73] g171) [68, 69, 70, 81, 82, 83, 84, 85, 86, 71, 74, 75, 1127, 78, 79, 80, 72, 76, 77, 1143, 1144, 5, 1011, 1150, 1149, 1145, 1113, 1111, 1112, 91, 1147, 1100031, 1148, 73] a.2.2) := by
                  refine sv_loop (α := Int × Int × sv_S) (fun a => sv_R a.1 ∧ sv_R a.2.1 ∧ sm_ok (sv_sts (sv_sts (sv_sts (sv_up (sv_sts (sv_up (sv_up (sv_sts (sv_up (sv_sts (sv_up S 1000 0 (0 : Int)) [88, 89, 87, 1113, 5, 1011, 90] g128) 1121 0 ((S 1046 0) + ((2 : Int) * (S 1032 0)))) [71, 72] g138) 1127 0 (465000 : Int)) 75 (639 : Int) (647340 : Int)) [68, 69, 70, 81, 82, 83, 84, 85, 86, 1143, 1144, 5, 1011, 74, 78, 76, 77] g154) 1100031 0 (-1 : Int)) [68, 69, 70, 81, 82, 83, 84, 85, 86, 71, 74, 75, 1127, 78, 79, 80, 72, 76, 77] g163) [68, 69, 70, 81, 82, 83, 84, 85, 86, 71, 74, 75, 1127, 78, 79, 80, 72, 76, 77, 1143, 1144, 5, 1011, 1150, 1149, 1145, 1113, 1111, 1112, 91, 1147, 1100031, 1148, 73] g171) [68, 69, 70, 81, 82, 83, 84, 85, 86, 71, 74, 75, 1127, 78, 79, 80, 72, 76, 77, 1143, 1144, 5, 1011, 1150, 1149, 1145, 1113, 1111, 1112, 91, 1147, 1100031, 1148, 73] a.2.2) ∧ ((a.1 = 0 ∨ a.1 = 1) ∧ 0 ≤ a.2.1 ∧ a.2.1 ≤ (S 1046 0) ∧ sm_ST (a.2.2 71) (a.2.2 74) (a.2.2 75) (a.2.2 78) (a.2.2 79) (a.2.2 80) (S 27) (S 1100007) (S 1100023) (S 1100024) (S 1046 0) ((S 1046 0) + 2 * (S 1032 0)) (a.2.2 1127 0) ∧ 465000 ≤ (a.2.2 1127 0) ∧ (a.2.2 1127 0) + sm_hs (a.2.2 71) (S 1100007) ≤ 635000 ∧ (a.2.2 75 639) = 647340 ∧ sm_DR (a.2.2 72) (a.2.2 71) (S 1046 0) ∧ 0 ≤ sm_pl (a.2.2 81) (a.2.2 82) (a.2.2 83) (a.2.2 84) (a.2.2 85) (a.2.2 86) ∧ 0 ≤ sm_cm (a.2.2 71) ∧ 0 ≤ sm_du (a.2.2 72) ∧ (641 * (sm_cm (a.2.2 71) + sm_pt (a.2.2 68) (a.2.2 69) (a.2.2 70) + sm_pl (a.2.2 81) (a.2.2 82) (a.2.2 83) (a.2.2 84) (a.2.2 85) (a.2.2 86) + sm_ps (a.2.2 76) (a.2.2 77)) + sm_du (a.2.2 72)) + a.1 ≤ (641 * (sm_cm (g171 71) + sm_pt (g171 68) (g171 69) (g171 70) + sm_pl (g171 81) (g171 82) (g171 83) (g171 84) (g171 85) (g171 86) + sm_ps (g171 76) (g171 77)) + sm_du (g171 72)))) (fun a => (S 1046 0) - a.2.1) (fun a => sv_T sm_XS sm_cs sm_L sm_sh 24 (q_solve S) 294 123 [(0, .ref 0), (1, sv_I a.1), (2, sv_I a.2.1)] [] (sv_sts (sv_sts (sv_sts (sv_up (sv_sts (sv_up (sv_up (sv_sts (sv_up (sv_sts (sv_up S 1000 0 (0 : Int)) [88, 89, 87, 1113, 5, 1011, 90] g128) 1121 0 ((S 1046 0) + ((2 : Int) * (S 1032 0)))) [71, 72] g138) 1127 0 (465000 : Int)) 75 (639 : Int) (647340 : Int)) [68, 69, 70, 81, 82, 83, 84, 85, 86, 1143, 1144, 5, 1011, 74, 78, 76, 77] g154) 1100031 0 (-1 : Int)) [68, 69, 70, 81, 82, 83, 84, 85, 86, 71, 74, 75, 1127, 78, 79, 80, 72, 76, 77] g163) [68, 69, 70, 81, 82, 83, 84, 85, 86, 71, 74, 75, 1127, 78, 79, 80, 72, 76, 77, 1143, 1144, 5, 1011, 1150, 1149, 1145, 1113, 1111, 1112, 91, 1147, 1100031, 1148, 73] g171) [68, 69, 70, 81, 82, 83, 84, 85, 86, 71, 74, 75, 1127, 78, 79, 80, 72, 76, 77, 1143, 1144, 5, 1011, 1150, 1149, 1145, 1113, 1111, 1112, 91, 1147, 1100031, 1148, 73] a.2.2)) (fun a q => (h a.1 q.1 a.2.1 q.2.1 a.2.2 q.2.2.2).1) (fun a q ih206 => ?_)
                  obtain ⟨l1_204, l2_205, g203⟩ := a
                  obtain ⟨hl1_204, hl2_205, ok208, hin207i⟩ := q
                  have h := (h l1_204 hl1_204 l2_205 hl2_205 g203 hin207i).2
                  show sv_T sm_XS sm_cs sm_L sm_sh 24 (q_solve S) 294 123 [(0, .ref 0), (1, sv_I l1_204), (2, sv_I l2_205)] [] (sv_sts (sv_sts (sv_sts (sv_up (sv_sts (sv_up (sv_up (sv_sts (sv_up (sv_sts (sv_up S 1000 0 (0 : Int)) [88, 89, 87, 1113, 5, 1011, 90] g128) 1121 0 ((S 1046 0) + ((2 : Int) * (S 1032 0)))) [71, 72] g138) 1127 0 (465000 : Int)) 75 (639 : Int) (647340 : Int)) [68, 69, 70, 81, 82, 83, 84, 85, 86, 1143, 1144, 5, 1011, 74, 78, 76, 77] g154) 1100031 0 (-1 : Int)) [68, 69, 70, 81, 82, 83, 84, 85, 86, 71, 74, 75, 1127, 78, 79, 80, 72, 76, 77] g163) [68, 69, 70, 81, 82, 83, 84, 85, 86, 71, 74, 75, 1127, 78, 79, 80, 72, 76, 77, 1143, 1144, 5, 1011, 1150, 1149, 1145, 1113, 1111, 1112, 91, 1147, 1100031, 1148, 73] g171) [68, 69, 70, 81, 82, 83, 84, 85, 86, 71, 74, 75, 1127, 78, 79, 80, 72, 76, 77, 1143, 1144, 5, 1011, 1150, 1149, 1145, 1113, 1111, 1112, 91, 1147, 1100031, 1148, 73] g203)
                  have md209 : sv_mod [68, 69, 70, 81, 82, 83, 84, 85, 86, 71, 74, 75, 1127, 78, 79, 80, 72, 76, 77, 1143, 1144, 5, 1011, 1150, 1149, 1145, 1113, 1111, 1112, 91, 1147, 1100031, 1148, 73, 88, 89, 87, 90, 1121, 1000, 1119, 1120] S (sv_sts (sv_sts (sv_sts (sv_up (sv_sts (sv_up (sv_up (sv_sts (sv_up (sv_sts (sv_up S 1000 0 (0 : Int)) [88, 89, 87, 1113, 5, 1011, 90] g128) 1121 0 ((S 1046 0) + ((2 : Int) * (S 1032 0)))) [71, 72] g138) 1127 0 (465000 : Int)) 75 (639 : Int) (647340 : Int)) [68, 69, 70, 81, 82, 83, 84, 85, 86, 1143, 1144, 5, 1011, 74, 78, 76, 77] g154) 1100031 0 (-1 : Int)) [68, 69, 70, 81, 82, 83, 84, 85, 86, 71, 74, 75, 1127, 78, 79, 80, 72, 76, 77] g163) [68, 69, 70, 81, 82, 83, 84, 85, 86, 71, 74, 75, 1127, 78, 79, 80, 72, 76, 77, 1143, 1144, 5, 1011, 1150, 1149, 1145, 1113, 1111, 1112, 91, 1147, 1100031, 1148, 73] g171) [68, 69, 70, 81, 82, 83, 84, 85, 86, 71, 74, 75, 1127, 78, 79, 80, 72, 76, 77, 1143, 1144, 5, 1011, 1150, 1149, 1145, 1113, 1111, 1112, 91, 1147, 1100031, 1148, 73] g203) := sv_mod.sts md176 (by decide)
                  have md210 : sv_mod [68, 69, 70, 81, 82, 83, 84, 85, 86, 71, 74, 75, 1127, 78, 79, 80, 72, 76, 77, 1143, 1144, 5, 1011, 1150, 1149, 1145, 1113, 1111, 1112, 91, 1147, 1100031, 1148, 73] (sv_sts (sv_up (sv_sts (sv_up (sv_up (sv_sts (sv_up (sv_sts (sv_up S 1000 0 (0 : Int)) [88, 89, 87, 1113, 5, 1011, 90] g128) 1121 0 ((S 1046 0) + ((2 : Int) * (S 1032 0)))) [71, 72] g138) 1127 0 (465000 : Int)) 75 (639 : Int) (647340 : Int)) [68, 69, 70, 81, 82, 83, 84, 85, 86, 1143, 1144, 5, 1011, 74, 78, 76, 77] g154) 1100031 0 (-1 : Int)) [68, 69, 70, 81, 82, 83, 84, 85, 86, 71, 74, 75, 1127, 78, 79, 80, 72, 76, 77] g163) (sv_sts (sv_sts (sv_sts (sv_up (sv_sts (sv_up (sv_up (sv_sts (sv_up (sv_sts (sv_up S 1000 0 (0 : Int)) [88, 89, 87, 1113, 5, 1011, 90] g128) 1121 0 ((S 1046 0) + ((2 : Int) * (S 1032 0)))) [71, 72] g138) 1127 0 (465000 : Int)) 75 (639 : Int) (647340 : Int)) [68, 69, 70, 81, 82, 83, 84, 85, 86, 1143, 1144, 5, 1011, 74, 78, 76, 77] g154) 1100031 0 (-1 : Int)) [68, 69, 70, 81, 82, 83, 84, 85, 86, 71, 74, 75, 1127, 78, 79, 80, 72, 76, 77] g163) [68, 69, 70, 81, 82, 83, 84, 85, 86, 71, 74, 75, 1127, 78, 79, 80, 72, 76, 77, 1143, 1144, 5, 1011, 1150, 1149, 1145, 1113, 1111, 1112, 91, 1147, 1100031, 1148, 73] g171) [68, 69, 70, 81, 82, 83, 84, 85, 86, 71, 74, 75, 1127, 78, 79, 80, 72, 76, 77, 1143, 1144, 5, 1011, 1150, 1149, 1145, 1113, 1111, 1112, 91, 1147, 1100031, 1148, 73] g203) := sv_mod.sts md177 (by decide)
                  have md211 : sv_mod [68, 69, 70, 81, 82, 83, 84, 85, 86, 71, 74, 75, 1127, 78, 79, 80, 72, 76, 77, 1143, 1144, 5, 1011, 1150, 1149, 1145, 1113, 1111, 1112, 91, 1147, 1100031, 1148, 73] (sv_sts (sv_sts (sv_up (sv_sts (sv_up (sv_up (sv_sts (sv_up (sv_sts (sv_up S 1000 0 (0 : Int)) [88, 89, 87, 1113, 5, 1011, 90] g128) 1121 0 ((S 1046 0) + ((2 : Int) * (S 1032 0)))) [71, 72] g138) 1127 0 (465000 : Int)) 75 (639 : Int) (647340 : Int)) [68, 69, 70, 81, 82, 83, 84, 85, 86, 1143, 1144, 5, 1011, 74, 78, 76, 77] g154) 1100031 0 (-1 : Int)) [68, 69, 70, 81, 82, 83, 84, 85, 86, 71, 74, 75, 1127, 78, 79, 80, 72, 76, 77] g163) [68, 69, 70, 81, 82, 83, 84, 85, 86, 71, 74, 75, 1127, 78, 79, 80, 72, 76, 77, 1143, 1144, 5, 1011, 1150, 1149, 1145, 1113, 1111, 1112, 91, 1147, 1100031, 1148, 73] g171) (sv_sts (sv_sts (sv_sts (sv_up (sv_sts (sv_up (sv_up (sv_sts (sv_up (sv_sts (sv_up S 1000 0 (0 : Int)) [88, 89, 87, 1113, 5, 1011, 90] g128) 1121 0 ((S 1046 0) + ((2 : Int) * (S 1032 0)))) [71, 72] g138) 1127 0 (465000 : Int)) 75 (639 : Int) (647340 : Int)) [68, 69, 70, 81, 82, 83, 84, 85, 86, 1143, 1144, 5, 1011, 74, 78, 76, 77] g154) 1100031 0 (-1 : Int)) [68, 69, 70, 81, 82, 83, 84, 85, 86, 71, 74, 75, 1127, 78, 79, 80, 72, 76, 77] g163) [68, 69, 70, 81, 82, 83, 84, 85, 86, 71, 74, 75, 1127, 78, 79, 80, 72, 76, 77, 1143, 1144, 5, 1011, 1150, 1149, 1145, 1113, 1111, 1112, 91, 1147, 1100031, 1148, 73] g171) [68, 69, 70, 81, 82, 83, 84, 85, 86, 71, 74, 75, 1127, 78, 79, 80, 72, 76, 77, 1143, 1144, 5, 1011, 1150, 1149, 1145, 1113, 1111, 1112, 91, 1147, 1100031, 1148, 73] g203) := sv_mod.sts sv_mod.rf (by decide)
                  refine sv_iload_n hM dX12_solve_123 rfl rfl ?_
                  refine sv_aload_n hM dX12_solve_124 rfl rfl ?_
                  refine sv_getI hM dX12_solve_125 sm_fl_606 (sm_a0 _) sm_k46 rfl (x := (S 1046 0)) rfl ?_
                  refine sv_icmp_ge hM dX12_solve_128 hl2_205 k133 (t := 163) rfl rfl (fun hc => ?_) (fun hc => ?_)
                  · have h := h.1 (hc)
                    refine sv_goto hM dX12_solve_163 (pc' := 115) rfl ?_
                    have eS := sv_mod.eq md210
                    have hb := ih173 (l1_204, (sv_sts (sv_sts (sv_sts (sv_up (sv_sts (sv_up (sv_up (sv_sts (sv_up (sv_sts (sv_up S 1000 0 (0 : Int)) [88, 89, 87, 1113, 5, 1011, 90] g128) 1121 0 ((S 1046 0) + ((2 : Int) * (S 1032 0)))) [71, 72] g138) 1127 0 (465000 : Int)) 75 (639 : Int) (647340 : Int)) [68, 69, 70, 81, 82, 83, 84, 85, 86, 1143, 1144, 5, 1011, 74, 78, 76, 77] g154) 1100031 0 (-1 : Int)) [68, 69, 70, 81, 82, 83, 84, 85, 86, 71, 74, 75, 1127, 78, 79, 80, 72, 76, 77] g163) [68, 69, 70, 81, 82, 83, 84, 85, 86, 71, 74, 75, 1127, 78, 79, 80, 72, 76, 77, 1143, 1144, 5, 1011, 1150, 1149, 1145, 1113, 1111, 1112, 91, 1147, 1100031, 1148, 73] g171) [68, 69, 70, 81, 82, 83, 84, 85, 86, 71, 74, 75, 1127, 78, 79, 80, 72, 76, 77, 1143, 1144, 5, 1011, 1150, 1149, 1145, 1113, 1111, 1112, 91, 1147, 1100031, 1148, 73] g203)) ⟨hl1_204, (by rw [← eS]; exact ok208), h.1⟩ h.2
                    have hb : sv_T sm_XS sm_cs sm_L sm_sh 24 (q_solve S) 294 115 [(0, .ref 0), (1, sv_I l1_204)] [] (sv_sts (sv_sts (sv_sts (sv_up (sv_sts (sv_up (sv_up (sv_sts (sv_up (sv_sts (sv_up S 1000 0 (0 : Int)) [88, 89, 87, 1113, 5, 1011, 90] g128) 1121 0 ((S 1046 0) + ((2 : Int) * (S 1032 0)))) [71, 72] g138) 1127 0 (465000 : Int)) 75 (639 : Int) (647340 : Int)) [68, 69, 70, 81, 82, 83, 84, 85, 86, 1143, 1144, 5, 1011, 74, 78, 76, 77] g154) 1100031 0 (-1 : Int)) [68, 69, 70, 81, 82, 83, 84, 85, 86, 71, 74, 75, 1127, 78, 79, 80, 72, 76, 77] g163) [68, 69, 70, 81, 82, 83, 84, 85, 86, 71, 74, 75, 1127, 78, 79, 80, 72, 76, 77, 1143, 1144, 5, 1011, 1150, 1149, 1145, 1113, 1111, 1112, 91, 1147, 1100031, 1148, 73] g171) [68, 69, 70, 81, 82, 83, 84, 85, 86, 71, 74, 75, 1127, 78, 79, 80, 72, 76, 77, 1143, 1144, 5, 1011, 1150, 1149, 1145, 1113, 1111, 1112, 91, 1147, 1100031, 1148, 73] g203) := Eq.mpr (congrArg (fun Z => sv_T sm_XS sm_cs sm_L sm_sh 24 (q_solve S) 294 115 [(0, .ref 0), (1, sv_I l1_204)] [] Z) eS) hb
                    exact sv_less (lv := [(0, .ref 0), (1, sv_I l1_204)]) (sv_Sub_cons rfl (sv_Sub_cons rfl sv_Sub_nil)) hb
                  · have h := h.2 (hc)
                    refine sv_aload_n hM dX12_solve_131 rfl rfl ?_
                    refine sv_getA hM dX12_solve_132 sm_fl_229 (sm_a0 _) sm_k123 rfl ?_
                    refine sv_iload_n hM dX12_solve_135 rfl rfl ?_
                    obtain ⟨o212, h⟩ := h
                    have k213 : (0 ≤ (g203 72 l2_205) ∧ (g203 72 l2_205) ≤ 1) := sm_okZ ok208 sm_r72 l2_205
                    have h := h k213
                    refine sv_zald hM dX12_solve_136 (sm_a72 _) (by decide) o212.1 o212.2 rfl (x := (g203 72 l2_205)) rfl ?_
                    refine sv_cond_ne hM dX12_solve_137 (sv_R01 k213) (t := 143) rfl rfl (fun hc => ?_) (fun hc => ?_)
                    · have h := h.1 (hc)
                      have k214 : (sm_DR (g203 72) (g203 71) (S 1046 0) → 0 ≤ l2_205 → l2_205 < (S 1046 0) → (g203 72 l2_205) = 1 → (g203 71 l2_205) = 1) := fun h a b d => sm_DR_at h l2_205 a b d
                      have h := h k214
                      refine sv_aload_n hM dX12_solve_143 rfl rfl ?_
                      refine sv_getA hM dX12_solve_144 sm_fl_229 (sm_a0 _) sm_k123 rfl ?_
                      refine sv_iload_n hM dX12_solve_147 rfl rfl ?_
                      refine sv_iconst (d := (0 : Int)) hM dX12_solve_148 rfl rfl ?_
                      refine sv_zast sm_X hM dX12_solve_149 (sm_a72 _) (by decide) o212.1 o212.2 (sv_nnZ (⟨by decide, by decide⟩ : 0 ≤ (0 : Int) ∧ (0 : Int) ≤ 1)) rfl ?_
                      have ok215 : sm_ok (sv_up (sv_sts (sv_sts (sv_sts (sv_up (sv_sts (sv_up (sv_up (sv_sts (sv_up (sv_sts (sv_up S 1000 0 (0 : Int)) [88, 89, 87, 1113, 5, 1011, 90] g128) 1121 0 ((S 1046 0) + ((2 : Int) * (S 1032 0)))) [71, 72] g138) 1127 0 (465000 : Int)) 75 (639 : Int) (647340 : Int)) [68, 69, 70, 81, 82, 83, 84, 85, 86, 1143, 1144, 5, 1011, 74, 78, 76, 77] g154) 1100031 0 (-1 : Int)) [68, 69, 70, 81, 82, 83, 84, 85, 86, 71, 74, 75, 1127, 78, 79, 80, 72, 76, 77] g163) [68, 69, 70, 81, 82, 83, 84, 85, 86, 71, 74, 75, 1127, 78, 79, 80, 72, 76, 77, 1143, 1144, 5, 1011, 1150, 1149, 1145, 1113, 1111, 1112, 91, 1147, 1100031, 1148, 73] g171) [68, 69, 70, 81, 82, 83, 84, 85, 86, 71, 74, 75, 1127, 78, 79, 80, 72, 76, 77, 1143, 1144, 5, 1011, 1150, 1149, 1145, 1113, 1111, 1112, 91, 1147, 1100031, 1148, 73] g203) 72 l2_205 (0 : Int)) := sm_upZ ok208 sm_r72 (⟨by decide, by decide⟩ : 0 ≤ (0 : Int) ∧ (0 : Int) ≤ 1)
                      have md216 : sv_mod [68, 69, 70, 81, 82, 83, 84, 85, 86, 71, 74, 75, 1127, 78, 79, 80, 72, 76, 77, 1143, 1144, 5, 1011, 1150, 1149, 1145, 1113, 1111, 1112, 91, 1147, 1100031, 1148, 73, 88, 89, 87, 90, 1121, 1000, 1119, 1120] S (sv_up (sv_sts (sv_sts (sv_sts (sv_up (sv_sts (sv_up (sv_up (sv_sts (sv_up (sv_sts (sv_up S 1000 0 (0 : Int)) [88, 89, 87, 1113, 5, 1011, 90] g128) 1121 0 ((S 1046 0) + ((2 : Int) * (S 1032 0)))) [71, 72] g138) 1127 0 (465000 : Int)) 75 (639 : Int) (647340 : Int)) [68, 69, 70, 81, 82, 83, 84, 85, 86, 1143, 1144, 5, 1011, 74, 78, 76, 77] g154) 1100031 0 (-1 : Int)) [68, 69, 70, 81, 82, 83, 84, 85, 86, 71, 74, 75, 1127, 78, 79, 80, 72, 76, 77] g163) [68, 69, 70, 81, 82, 83, 84, 85, 86, 71, 74, 75, 1127, 78, 79, 80, 72, 76, 77, 1143, 1144, 5, 1011, 1150, 1149, 1145, 1113, 1111, 1112, 91, 1147, 1100031, 1148, 73] g171) [68, 69, 70, 81, 82, 83, 84, 85, 86, 71, 74, 75, 1127, 78, 79, 80, 72, 76, 77, 1143, 1144, 5, 1011, 1150, 1149, 1145, 1113, 1111, 1112, 91, 1147, 1100031, 1148, 73] g203) 72 l2_205 (0 : Int)) := sv_mod.up md209 (by decide)
                      have md217 : sv_mod [68, 69, 70, 81, 82, 83, 84, 85, 86, 71, 74, 75, 1127, 78, 79, 80, 72, 76, 77, 1143, 1144, 5, 1011, 1150, 1149, 1145, 1113, 1111, 1112, 91, 1147, 1100031, 1148, 73] (sv_sts (sv_up (sv_sts (sv_up (sv_up (sv_sts (sv_up (sv_sts (sv_up S 1000 0 (0 : Int)) [88, 89, 87, 1113, 5, 1011, 90] g128) 1121 0 ((S 1046 0) + ((2 : Int) * (S 1032 0)))) [71, 72] g138) 1127 0 (465000 : Int)) 75 (639 : Int) (647340 : Int)) [68, 69, 70, 81, 82, 83, 84, 85, 86, 1143, 1144, 5, 1011, 74, 78, 76, 77] g154) 1100031 0 (-1 : Int)) [68, 69, 70, 81, 82, 83, 84, 85, 86, 71, 74, 75, 1127, 78, 79, 80, 72, 76, 77] g163) (sv_up (sv_sts (sv_sts (sv_sts (sv_up (sv_sts (sv_up (sv_up (sv_sts (sv_up (sv_sts (sv_up S 1000 0 (0 : Int)) [88, 89, 87, 1113, 5, 1011, 90] g128) 1121 0 ((S 1046 0) + ((2 : Int) * (S 1032 0)))) [71, 72] g138) 1127 0 (465000 : Int)) 75 (639 : Int) (647340 : Int)) [68, 69, 70, 81, 82, 83, 84, 85, 86, 1143, 1144, 5, 1011, 74, 78, 76, 77] g154) 1100031 0 (-1 : Int)) [68, 69, 70, 81, 82, 83, 84, 85, 86, 71, 74, 75, 1127, 78, 79, 80, 72, 76, 77] g163) [68, 69, 70, 81, 82, 83, 84, 85, 86, 71, 74, 75, 1127, 78, 79, 80, 72, 76, 77, 1143, 1144, 5, 1011, 1150, 1149, 1145, 1113, 1111, 1112, 91, 1147, 1100031, 1148, 73] g171) [68, 69, 70, 81, 82, 83, 84, 85, 86, 71, 74, 75, 1127, 78, 79, 80, 72, 76, 77, 1143, 1144, 5, 1011, 1150, 1149, 1145, 1113, 1111, 1112, 91, 1147, 1100031, 1148, 73] g203) 72 l2_205 (0 : Int)) := sv_mod.up md210 (by decide)
                      have md218 : sv_mod [68, 69, 70, 81, 82, 83, 84, 85, 86, 71, 74, 75, 1127, 78, 79, 80, 72, 76, 77, 1143, 1144, 5, 1011, 1150, 1149, 1145, 1113, 1111, 1112, 91, 1147, 1100031, 1148, 73] (sv_sts (sv_sts (sv_up (sv_sts (sv_up (sv_up (sv_sts (sv_up (sv_sts (sv_up S 1000 0 (0 : Int)) [88, 89, 87, 1113, 5, 1011, 90] g128) 1121 0 ((S 1046 0) + ((2 : Int) * (S 1032 0)))) [71, 72] g138) 1127 0 (465000 : Int)) 75 (639 : Int) (647340 : Int)) [68, 69, 70, 81, 82, 83, 84, 85, 86, 1143, 1144, 5, 1011, 74, 78, 76, 77] g154) 1100031 0 (-1 : Int)) [68, 69, 70, 81, 82, 83, 84, 85, 86, 71, 74, 75, 1127, 78, 79, 80, 72, 76, 77] g163) [68, 69, 70, 81, 82, 83, 84, 85, 86, 71, 74, 75, 1127, 78, 79, 80, 72, 76, 77, 1143, 1144, 5, 1011, 1150, 1149, 1145, 1113, 1111, 1112, 91, 1147, 1100031, 1148, 73] g171) (sv_up (sv_sts (sv_sts (sv_sts (sv_up (sv_sts (sv_up (sv_up (sv_sts (sv_up (sv_sts (sv_up S 1000 0 (0 : Int)) [88, 89, 87, 1113, 5, 1011, 90] g128) 1121 0 ((S 1046 0) + ((2 : Int) * (S 1032 0)))) [71, 72] g138) 1127 0 (465000 : Int)) 75 (639 : Int) (647340 : Int)) [68, 69, 70, 81, 82, 83, 84, 85, 86, 1143, 1144, 5, 1011, 74, 78, 76, 77] g154) 1100031 0 (-1 : Int)) [68, 69, 70, 81, 82, 83, 84, 85, 86, 71, 74, 75, 1127, 78, 79, 80, 72, 76, 77] g163) [68, 69, 70, 81, 82, 83, 84, 85, 86, 71, 74, 75, 1127, 78, 79, 80, 72, 76, 77, 1143, 1144, 5, 1011, 1150, 1149, 1145, 1113, 1111, 1112, 91, 1147, 1100031, 1148, 73] g171) [68, 69, 70, 81, 82, 83, 84, 85, 86, 71, 74, 75, 1127, 78, 79, 80, 72, 76, 77, 1143, 1144, 5, 1011, 1150, 1149, 1145, 1113, 1111, 1112, 91, 1147, 1100031, 1148, 73] g203) 72 l2_205 (0 : Int)) := sv_mod.up md211 (by decide)
                      refine sv_iconst (d := (1 : Int)) hM dX12_solve_150 rfl rfl ?_
                      refine sv_istore_n hM dX12_solve_151 (by decide) rfl ?_
                      show sv_T sm_XS sm_cs sm_L sm_sh 24 (q_solve S) 294 152 [(0, .ref 0), (1, sv_I (1 : Int)), (2, sv_I l2_205)] [] (sv_up (sv_sts (sv_sts (sv_sts (sv_up (sv_sts (sv_up (sv_up (sv_sts (sv_up (sv_sts (sv_up S 1000 0 (0 : Int)) [88, 89, 87, 1113, 5, 1011, 90] g128) 1121 0 ((S 1046 0) + ((2 : Int) * (S 1032 0)))) [71, 72] g138) 1127 0 (465000 : Int)) 75 (639 : Int) (647340 : Int)) [68, 69, 70, 81, 82, 83, 84, 85, 86, 1143, 1144, 5, 1011, 74, 78, 76, 77] g154) 1100031 0 (-1 : Int)) [68, 69, 70, 81, 82, 83, 84, 85, 86, 71, 74, 75, 1127, 78, 79, 80, 72, 76, 77] g163) [68, 69, 70, 81, 82, 83, 84, 85, 86, 71, 74, 75, 1127, 78, 79, 80, 72, 76, 77, 1143, 1144, 5, 1011, 1150, 1149, 1145, 1113, 1111, 1112, 91, 1147, 1100031, 1148, 73] g171) [68, 69, 70, 81, 82, 83, 84, 85, 86, 71, 74, 75, 1127, 78, 79, 80, 72, 76, 77, 1143, 1144, 5, 1011, 1150, 1149, 1145, 1113, 1111, 1112, 91, 1147, 1100031, 1148, 73] g203) 72 l2_205 (0 : Int))
                      have k219 : (0 ≤ sm_cm (g203 71)) := sm_cm_b (fun x_ => sm_okZ ok215 sm_r71 x_)
                      have h := h k219
                      have k220 : (0 ≤ sm_cm (g203 71)) := sm_cm_b (fun x_ => sm_okZ ok215 sm_r71 x_)
                      have h := h k220
                      refine sv_aload_n hM dX12_solve_152 rfl rfl ?_
                      refine sv_iload_n hM dX12_solve_153 rfl rfl ?_
                      obtain ⟨o221, h⟩ := h
                      refine sv_callV hM dX12_solve_154 sm_iv_1384 (by decide) (sm_a0 _) rfl rfl (Nat.le_of_ble_eq_true rfl) sm_h265 (Nat.le_of_ble_eq_true rfl) (Nat.le_of_ble_eq_true rfl) (F' := 23) (Nat.le_of_ble_eq_true rfl) rfl (t_ways l2_205 (sv_up (sv_sts (sv_sts (sv_sts (sv_up (sv_sts (sv_up (sv_up (sv_sts (sv_up (sv_sts (sv_up S 1000 0 (0 : Int)) [88, 89, 87, 1113, 5, 1011, 90] g128) 1121 0 ((S 1046 0) + ((2 : Int) * (S 1032 0)))) [71, 72] g138) 1127 0 (465000 : Int)) 75 (639 : Int) (647340 : Int)) [68, 69, 70, 81, 82, 83, 84, 85, 86, 1143, 1144, 5, 1011, 74, 78, 76, 77] g154) 1100031 0 (-1 : Int)) [68, 69, 70, 81, 82, 83, 84, 85, 86, 71, 74, 75, 1127, 78, 79, 80, 72, 76, 77] g163) [68, 69, 70, 81, 82, 83, 84, 85, 86, 71, 74, 75, 1127, 78, 79, 80, 72, 76, 77, 1143, 1144, 5, 1011, 1150, 1149, 1145, 1113, 1111, 1112, 91, 1147, 1100031, 1148, 73] g171) [68, 69, 70, 81, 82, 83, 84, 85, 86, 71, 74, 75, 1127, 78, 79, 80, 72, 76, 77, 1143, 1144, 5, 1011, 1150, 1149, 1145, 1113, 1111, 1112, 91, 1147, 1100031, 1148, 73] g203) 72 l2_205 (0 : Int)) ok215 hl2_205 o221) (fun v S1 hq => ?_)
                      obtain ⟨rfl, ok223, md224, hpo225⟩ := hq
                      obtain ⟨g222, rfl⟩ : ∃ g, S1 = sv_sts (sv_up (sv_sts (sv_sts (sv_sts (sv_up (sv_sts (sv_up (sv_up (sv_sts (sv_up (sv_sts (sv_up S 1000 0 (0 : Int)) [88, 89, 87, 1113, 5, 1011, 90] g128) 1121 0 ((S 1046 0) + ((2 : Int) * (S 1032 0)))) [71, 72] g138) 1127 0 (465000 : Int)) 75 (639 : Int) (647340 : Int)) [68, 69, 70, 81, 82, 83, 84, 85, 86, 1143, 1144, 5, 1011, 74, 78, 76, 77] g154) 1100031 0 (-1 : Int)) [68, 69, 70, 81, 82, 83, 84, 85, 86, 71, 74, 75, 1127, 78, 79, 80, 72, 76, 77] g163) [68, 69, 70, 81, 82, 83, 84, 85, 86, 71, 74, 75, 1127, 78, 79, 80, 72, 76, 77, 1143, 1144, 5, 1011, 1150, 1149, 1145, 1113, 1111, 1112, 91, 1147, 1100031, 1148, 73] g171) [68, 69, 70, 81, 82, 83, 84, 85, 86, 71, 74, 75, 1127, 78, 79, 80, 72, 76, 77, 1143, 1144, 5, 1011, 1150, 1149, 1145, 1113, 1111, 1112, 91, 1147, 1100031, 1148, 73] g203) 72 l2_205 (0 : Int)) [68, 69, 70, 81, 82, 83, 84, 85, 86, 71, 74, 75, 1127, 78, 79, 80, 72, 76, 77, 1143, 1144, 5, 1011, 1150, 1149, 1145, 1113, 1111, 1112, 91, 1147, 1100031, 1148, 73] g := ⟨_, md224.eq⟩
                      show sv_T sm_XS sm_cs sm_L sm_sh 24 (q_solve S) 294 157 [(0, .ref 0), (1, sv_I (1 : Int)), (2, sv_I l2_205)] [] (sv_sts (sv_up (sv_sts (sv_sts (sv_sts (sv_up (sv_sts (sv_up (sv_up (sv_sts (sv_up (sv_sts (sv_up S 1000 0 (0 : Int)) [88, 89, 87, 1113, 5, 1011, 90] g128) 1121 0 ((S 1046 0) + ((2 : Int) * (S 1032 0)))) [71, 72] g138) 1127 0 (465000 : Int)) 75 (639 : Int) (647340 : Int)) [68, 69, 70, 81, 82, 83, 84, 85, 86, 1143, 1144, 5, 1011, 74, 78, 76, 77] g154) 1100031 0 (-1 : Int)) [68, 69, 70, 81, 82, 83, 84, 85, 86, 71, 74, 75, 1127, 78, 79, 80, 72, 76, 77] g163) [68, 69, 70, 81, 82, 83, 84, 85, 86, 71, 74, 75, 1127, 78, 79, 80, 72, 76, 77, 1143, 1144, 5, 1011, 1150, 1149, 1145, 1113, 1111, 1112, 91, 1147, 1100031, 1148, 73] g171) [68, 69, 70, 81, 82, 83, 84, 85, 86, 71, 74, 75, 1127, 78, 79, 80, 72, 76, 77, 1143, 1144, 5, 1011, 1150, 1149, 1145, 1113, 1111, 1112, 91, 1147, 1100031, 1148, 73] g203) 72 l2_205 (0 : Int)) [68, 69, 70, 81, 82, 83, 84, 85, 86, 71, 74, 75, 1127, 78, 79, 80, 72, 76, 77, 1143, 1144, 5, 1011, 1150, 1149, 1145, 1113, 1111, 1112, 91, 1147, 1100031, 1148, 73] g222)
                      have md226 : sv_mod [68, 69, 70, 81, 82, 83, 84, 85, 86, 71, 74, 75, 1127, 78, 79, 80, 72, 76, 77, 1143, 1144, 5, 1011, 1150, 1149, 1145, 1113, 1111, 1112, 91, 1147, 1100031, 1148, 73, 88, 89, 87, 90, 1121, 1000, 1119, 1120] S (sv_sts (sv_up (sv_sts (sv_sts (sv_sts (sv_up (sv_sts (sv_up (sv_up (sv_sts (sv_up (sv_sts (sv_up S 1000 0 (0 : Int)) [88, 89, 87, 1113, 5, 1011, 90] g128) 1121 0 ((S 1046 0) + ((2 : Int) * (S 1032 0)))) [71, 72] g138) 1127 0 (465000 : Int)) 75 (639 : Int) (647340 : Int)) [68, 69, 70, 81, 82, 83, 84, 85, 86, 1143, 1144, 5, 1011, 74, 78, 76, 77] g154) 1100031 0 (-1 : Int)) [68, 69, 70, 81, 82, 83, 84, 85, 86, 71, 74, 75, 1127, 78, 79, 80, 72, 76, 77] g163) [68, 69, 70, 81, 82, 83, 84, 85, 86, 71, 74, 75, 1127, 78, 79, 80, 72, 76, 77, 1143, 1144, 5, 1011, 1150, 1149, 1145, 1113, 1111, 1112, 91, 1147, 1100031, 1148, 73] g171) [68, 69, 70, 81, 82, 83, 84, 85, 86, 71, 74, 75, 1127, 78, 79, 80, 72, 76, 77, 1143, 1144, 5, 1011, 1150, 1149, 1145, 1113, 1111, 1112, 91, 1147, 1100031, 1148, 73] g203) 72 l2_205 (0 : Int)) [68, 69, 70, 81, 82, 83, 84, 85, 86, 71, 74, 75, 1127, 78, 79, 80, 72, 76, 77, 1143, 1144, 5, 1011, 1150, 1149, 1145, 1113, 1111, 1112, 91, 1147, 1100031, 1148, 73] g222) := sv_mod.sts md216 (by decide)
                      have md227 : sv_mod [68, 69, 70, 81, 82, 83, 84, 85, 86, 71, 74, 75, 1127, 78, 79, 80, 72, 76, 77, 1143, 1144, 5, 1011, 1150, 1149, 1145, 1113, 1111, 1112, 91, 1147, 1100031, 1148, 73] (sv_sts (sv_up (sv_sts (sv_up (sv_up (sv_sts (sv_up (sv_sts (sv_up S 1000 0 (0 : Int)) [88, 89, 87, 1113, 5, 1011, 90] g128) 1121 0 ((S 1046 0) + ((2 : Int) * (S 1032 0)))) [71, 72] g138) 1127 0 (465000 : Int)) 75 (639 : Int) (647340 : Int)) [68, 69, 70, 81, 82, 83, 84, 85, 86, 1143, 1144, 5, 1011, 74, 78, 76, 77] g154) 1100031 0 (-1 : Int)) [68, 69, 70, 81, 82, 83, 84, 85, 86, 71, 74, 75, 1127, 78, 79, 80, 72, 76, 77] g163) (sv_sts (sv_up (sv_sts (sv_sts (sv_sts (sv_up (sv_sts (sv_up (sv_up (sv_sts (sv_up (sv_sts (sv_up S 1000 0 (0 : Int)) [88, 89, 87, 1113, 5, 1011, 90] g128) 1121 0 ((S 1046 0) + ((2 : Int) * (S 1032 0)))) [71, 72] g138) 1127 0 (465000 : Int)) 75 (639 : Int) (647340 : Int)) [68, 69, 70, 81, 82, 83, 84, 85, 86, 1143, 1144, 5, 1011, 74, 78, 76, 77] g154) 1100031 0 (-1 : Int)) [68, 69, 70, 81, 82, 83, 84, 85, 86, 71, 74, 75, 1127, 78, 79, 80, 72, 76, 77] g163) [68, 69, 70, 81, 82, 83, 84, 85, 86, 71, 74, 75, 1127, 78, 79, 80, 72, 76, 77, 1143, 1144, 5, 1011, 1150, 1149, 1145, 1113, 1111, 1112, 91, 1147, 1100031, 1148, 73] g171) [68, 69, 70, 81, 82, 83, 84, 85, 86, 71, 74, 75, 1127, 78, 79, 80, 72, 76, 77, 1143, 1144, 5, 1011, 1150, 1149, 1145, 1113, 1111, 1112, 91, 1147, 1100031, 1148, 73] g203) 72 l2_205 (0 : Int)) [68, 69, 70, 81, 82, 83, 84, 85, 86, 71, 74, 75, 1127, 78, 79, 80, 72, 76, 77, 1143, 1144, 5, 1011, 1150, 1149, 1145, 1113, 1111, 1112, 91, 1147, 1100031, 1148, 73] g222) := sv_mod.sts md217 (by decide)
                      have md228 : sv_mod [68, 69, 70, 81, 82, 83, 84, 85, 86, 71, 74, 75, 1127, 78, 79, 80, 72, 76, 77, 1143, 1144, 5, 1011, 1150, 1149, 1145, 1113, 1111, 1112, 91, 1147, 1100031, 1148, 73] (sv_sts (sv_sts (sv_up (sv_sts (sv_up (sv_up (sv_sts (sv_up (sv_sts (sv_up S 1000 0 (0 : Int)) [88, 89, 87, 1113, 5, 1011, 90] g128) 1121 0 ((S 1046 0) + ((2 : Int) * (S 1032 0)))) [71, 72] g138) 1127 0 (465000 : Int)) 75 (639 : Int) (647340 : Int)) [68, 69, 70, 81, 82, 83, 84, 85, 86, 1143, 1144, 5, 1011, 74, 78, 76, 77] g154) 1100031 0 (-1 : Int)) [68, 69, 70, 81, 82, 83, 84, 85, 86, 71, 74, 75, 1127, 78, 79, 80, 72, 76, 77] g163) [68, 69, 70, 81, 82, 83, 84, 85, 86, 71, 74, 75, 1127, 78, 79, 80, 72, 76, 77, 1143, 1144, 5, 1011, 1150, 1149, 1145, 1113, 1111, 1112, 91, 1147, 1100031, 1148, 73] g171) (sv_sts (sv_up (sv_sts (sv_sts (sv_sts (sv_up (sv_sts (sv_up (sv_up (sv_sts (sv_up (sv_sts (sv_up S 1000 0 (0 : Int)) [88, 89, 87, 1113, 5, 1011, 90] g128) 1121 0 ((S 1046 0) + ((2 : Int) * (S 1032 0)))) [71, 72] g138) 1127 0 (465000 : Int)) 75 (639 : Int) (647340 : Int)) [68, 69, 70, 81, 82, 83, 84, 85, 86, 1143, 1144, 5, 1011, 74, 78, 76, 77] g154) 1100031 0 (-1 : Int)) [68, 69, 70, 81, 82, 83, 84, 85, 86, 71, 74, 75, 1127, 78, 79, 80, 72, 76, 77] g163) [68, 69, 70, 81, 82, 83, 84, 85, 86, 71, 74, 75, 1127, 78, 79, 80, 72, 76, 77, 1143, 1144, 5, 1011, 1150, 1149, 1145, 1113, 1111, 1112, 91, 1147, 1100031, 1148, 73] g171) [68, 69, 70, 81, 82, 83, 84, 85, 86, 71, 74, 75, 1127, 78, 79, 80, 72, 76, 77, 1143, 1144, 5, 1011, 1150, 1149, 1145, 1113, 1111, 1112, 91, 1147, 1100031, 1148, 73] g203) 72 l2_205 (0 : Int)) [68, 69, 70, 81, 82, 83, 84, 85, 86, 71, 74, 75, 1127, 78, 79, 80, 72, 76, 77, 1143, 1144, 5, 1011, 1150, 1149, 1145, 1113, 1111, 1112, 91, 1147, 1100031, 1148, 73] g222) := sv_mod.sts md218 (by decide)
                      have h := h g222 hpo225
                      have k229 : (0 ≤ sm_pl (g222 81) (g222 82) (g222 83) (g222 84) (g222 85) (g222 86) ∧ sm_pl (g222 81) (g222 82) (g222 83) (g222 84) (g222 85) (g222 86) ≤ 3870000) := sm_pl_r _ _ _ _ (fun x_ => sm_okZ ok223 sm_r81 x_) (fun x_ => sm_okZ ok223 sm_r82 x_)
                      have h := h k229
                      have k230 : (0 ≤ sm_cm (g222 71)) := sm_cm_b (fun x_ => sm_okZ ok223 sm_r71 x_)
                      have h := h k230
                      have k231 : (0 ≤ sm_du (g222 72) ∧ sm_du (g222 72) ≤ 640) := sm_du_b (fun x_ => sm_okZ ok223 sm_r72 x_)
                      have h := h k231
                      refine sv_iinc (d := (1 : Int)) hM dX12_solve_157 rfl (by decide) rfl rfl ?_
                      show sv_T sm_XS sm_cs sm_L sm_sh 24 (q_solve S) 294 160 [(0, .ref 0), (1, sv_I (1 : Int)), (2, sv_I (l2_205 + (1 : Int)))] [] (sv_sts (sv_up (sv_sts (sv_sts (sv_sts (sv_up (sv_sts (sv_up (sv_up (sv_sts (sv_up (sv_sts (sv_up S 1000 0 (0 : Int)) [88, 89, 87, 1113, 5, 1011, 90] g128) 1121 0 ((S 1046 0) + ((2 : Int) * (S 1032 0)))) [71, 72] g138) 1127 0 (465000 : Int)) 75 (639 : Int) (647340 : Int)) [68, 69, 70, 81, 82, 83, 84, 85, 86, 1143, 1144, 5, 1011, 74, 78, 76, 77] g154) 1100031 0 (-1 : Int)) [68, 69, 70, 81, 82, 83, 84, 85, 86, 71, 74, 75, 1127, 78, 79, 80, 72, 76, 77] g163) [68, 69, 70, 81, 82, 83, 84, 85, 86, 71, 74, 75, 1127, 78, 79, 80, 72, 76, 77, 1143, 1144, 5, 1011, 1150, 1149, 1145, 1113, 1111, 1112, 91, 1147, 1100031, 1148, 73] g171) [68, 69, 70, 81, 82, 83, 84, 85, 86, 71, 74, 75, 1127, 78, 79, 80, 72, 76, 77, 1143, 1144, 5, 1011, 1150, 1149, 1145, 1113, 1111, 1112, 91, 1147, 1100031, 1148, 73] g203) 72 l2_205 (0 : Int)) [68, 69, 70, 81, 82, 83, 84, 85, 86, 71, 74, 75, 1127, 78, 79, 80, 72, 76, 77, 1143, 1144, 5, 1011, 1150, 1149, 1145, 1113, 1111, 1112, 91, 1147, 1100031, 1148, 73] g222)
                      refine sv_goto hM dX12_solve_160 (pc' := 123) rfl ?_
                      obtain ⟨o232, h⟩ := h
                      have eS := sv_mod.eq md228
                      have hb := ih206 ((1 : Int), (l2_205 + (1 : Int)), (sv_sts (sv_up (sv_sts (sv_sts (sv_sts (sv_up (sv_sts (sv_up (sv_up (sv_sts (sv_up (sv_sts (sv_up S 1000 0 (0 : Int)) [88, 89, 87, 1113, 5, 1011, 90] g128) 1121 0 ((S 1046 0) + ((2 : Int) * (S 1032 0)))) [71, 72] g138) 1127 0 (465000 : Int)) 75 (639 : Int) (647340 : Int)) [68, 69, 70, 81, 82, 83, 84, 85, 86, 1143, 1144, 5, 1011, 74, 78, 76, 77] g154) 1100031 0 (-1 : Int)) [68, 69, 70, 81, 82, 83, 84, 85, 86, 71, 74, 75, 1127, 78, 79, 80, 72, 76, 77] g163) [68, 69, 70, 81, 82, 83, 84, 85, 86, 71, 74, 75, 1127, 78, 79, 80, 72, 76, 77, 1143, 1144, 5, 1011, 1150, 1149, 1145, 1113, 1111, 1112, 91, 1147, 1100031, 1148, 73] g171) [68, 69, 70, 81, 82, 83, 84, 85, 86, 71, 74, 75, 1127, 78, 79, 80, 72, 76, 77, 1143, 1144, 5, 1011, 1150, 1149, 1145, 1113, 1111, 1112, 91, 1147, 1100031, 1148, 73] g203) 72 l2_205 (0 : Int)) [68, 69, 70, 81, 82, 83, 84, 85, 86, 71, 74, 75, 1127, 78, 79, 80, 72, 76, 77, 1143, 1144, 5, 1011, 1150, 1149, 1145, 1113, 1111, 1112, 91, 1147, 1100031, 1148, 73] g222)) ⟨(⟨by decide, by decide⟩ : sv_R (1 : Int)), o232, (by rw [← eS]; exact ok223), h.1⟩ h.2
                      have hb : sv_T sm_XS sm_cs sm_L sm_sh 24 (q_solve S) 294 123 [(0, .ref 0), (1, sv_I (1 : Int)), (2, sv_I (l2_205 + (1 : Int)))] [] (sv_sts (sv_up (sv_sts (sv_sts (sv_sts (sv_up (sv_sts (sv_up (sv_up (sv_sts (sv_up (sv_sts (sv_up S 1000 0 (0 : Int)) [88, 89, 87, 1113, 5, 1011, 90] g128) 1121 0 ((S 1046 0) + ((2 : Int) * (S 1032 0)))) [71, 72] g138) 1127 0 (465000 : Int)) 75 (639 : Int) (647340 : Int)) [68, 69, 70, 81, 82, 83, 84, 85, 86, 1143, 1144, 5, 1011, 74, 78, 76, 77] g154) 1100031 0 (-1 : Int)) [68, 69, 70, 81, 82, 83, 84, 85, 86, 71, 74, 75, 1127, 78, 79, 80, 72, 76, 77] g163) [68, 69, 70, 81, 82, 83, 84, 85, 86, 71, 74, 75, 1127, 78, 79, 80, 72, 76, 77, 1143, 1144, 5, 1011, 1150, 1149, 1145, 1113, 1111, 1112, 91, 1147, 1100031, 1148, 73] g171) [68, 69, 70, 81, 82, 83, 84, 85, 86, 71, 74, 75, 1127, 78, 79, 80, 72, 76, 77, 1143, 1144, 5, 1011, 1150, 1149, 1145, 1113, 1111, 1112, 91, 1147, 1100031, 1148, 73] g203) 72 l2_205 (0 : Int)) [68, 69, 70, 81, 82, 83, 84, 85, 86, 71, 74, 75, 1127, 78, 79, 80, 72, 76, 77, 1143, 1144, 5, 1011, 1150, 1149, 1145, 1113, 1111, 1112, 91, 1147, 1100031, 1148, 73] g222) := Eq.mpr (congrArg (fun Z => sv_T sm_XS sm_cs sm_L sm_sh 24 (q_solve S) 294 123 [(0, .ref 0), (1, sv_I (1 : Int)), (2, sv_I (l2_205 + (1 : Int)))] [] Z) eS) hb
                      exact sv_less (lv := [(0, .ref 0), (1, sv_I (1 : Int)), (2, sv_I (l2_205 + (1 : Int)))]) (sv_Sub_cons rfl (sv_Sub_cons rfl (sv_Sub_cons rfl sv_Sub_nil))) hb
                    · have h := h.2 (hc)
                      refine sv_goto hM dX12_solve_140 (pc' := 157) rfl ?_
                      have k233 : (0 ≤ sm_pl (g203 81) (g203 82) (g203 83) (g203 84) (g203 85) (g203 86) ∧ sm_pl (g203 81) (g203 82) (g203 83) (g203 84) (g203 85) (g203 86) ≤ 3870000) := sm_pl_r _ _ _ _ (fun x_ => sm_okZ ok208 sm_r81 x_) (fun x_ => sm_okZ ok208 sm_r82 x_)
                      have h := h k233
                      have k234 : (0 ≤ sm_cm (g203 71)) := sm_cm_b (fun x_ => sm_okZ ok208 sm_r71 x_)
                      have h := h k234
                      have k235 : (0 ≤ sm_du (g203 72) ∧ sm_du (g203 72) ≤ 640) := sm_du_b (fun x_ => sm_okZ ok208 sm_r72 x_)
                      have h := h k235
                      refine sv_iinc (d := (1 : Int)) hM dX12_solve_157 rfl (by decide) rfl rfl ?_
                      show sv_T sm_XS sm_cs sm_L sm_sh 24 (q_solve S) 294 160 [(0, .ref 0), (1, sv_I l1_204), (2, sv_I (l2_205 + (1 : Int)))] [] (sv_sts (sv_sts (sv_sts (sv_up (sv_sts (sv_up (sv_up (sv_sts (sv_up (sv_sts (sv_up S 1000 0 (0 : Int)) [88, 89, 87, 1113, 5, 1011, 90] g128) 1121 0 ((S 1046 0) + ((2 : Int) * (S 1032 0)))) [71, 72] g138) 1127 0 (465000 : Int)) 75 (639 : Int) (647340 : Int)) [68, 69, 70, 81, 82, 83, 84, 85, 86, 1143, 1144, 5, 1011, 74, 78, 76, 77] g154) 1100031 0 (-1 : Int)) [68, 69, 70, 81, 82, 83, 84, 85, 86, 71, 74, 75, 1127, 78, 79, 80, 72, 76, 77] g163) [68, 69, 70, 81, 82, 83, 84, 85, 86, 71, 74, 75, 1127, 78, 79, 80, 72, 76, 77, 1143, 1144, 5, 1011, 1150, 1149, 1145, 1113, 1111, 1112, 91, 1147, 1100031, 1148, 73] g171) [68, 69, 70, 81, 82, 83, 84, 85, 86, 71, 74, 75, 1127, 78, 79, 80, 72, 76, 77, 1143, 1144, 5, 1011, 1150, 1149, 1145, 1113, 1111, 1112, 91, 1147, 1100031, 1148, 73] g203)
                      refine sv_goto hM dX12_solve_160 (pc' := 123) rfl ?_
                      obtain ⟨o236, h⟩ := h
                      have eS := sv_mod.eq md211
                      have hb := ih206 (l1_204, (l2_205 + (1 : Int)), (sv_sts (sv_sts (sv_sts (sv_up (sv_sts (sv_up (sv_up (sv_sts (sv_up (sv_sts (sv_up S 1000 0 (0 : Int)) [88, 89, 87, 1113, 5, 1011, 90] g128) 1121 0 ((S 1046 0) + ((2 : Int) * (S 1032 0)))) [71, 72] g138) 1127 0 (465000 : Int)) 75 (639 : Int) (647340 : Int)) [68, 69, 70, 81, 82, 83, 84, 85, 86, 1143, 1144, 5, 1011, 74, 78, 76, 77] g154) 1100031 0 (-1 : Int)) [68, 69, 70, 81, 82, 83, 84, 85, 86, 71, 74, 75, 1127, 78, 79, 80, 72, 76, 77] g163) [68, 69, 70, 81, 82, 83, 84, 85, 86, 71, 74, 75, 1127, 78, 79, 80, 72, 76, 77, 1143, 1144, 5, 1011, 1150, 1149, 1145, 1113, 1111, 1112, 91, 1147, 1100031, 1148, 73] g171) [68, 69, 70, 81, 82, 83, 84, 85, 86, 71, 74, 75, 1127, 78, 79, 80, 72, 76, 77, 1143, 1144, 5, 1011, 1150, 1149, 1145, 1113, 1111, 1112, 91, 1147, 1100031, 1148, 73] g203)) ⟨hl1_204, o236, (by rw [← eS]; exact ok208), h.1⟩ h.2
                      have hb : sv_T sm_XS sm_cs sm_L sm_sh 24 (q_solve S) 294 123 [(0, .ref 0), (1, sv_I l1_204), (2, sv_I (l2_205 + (1 : Int)))] [] (sv_sts (sv_sts (sv_sts (sv_up (sv_sts (sv_up (sv_up (sv_sts (sv_up (sv_sts (sv_up S 1000 0 (0 : Int)) [88, 89, 87, 1113, 5, 1011, 90] g128) 1121 0 ((S 1046 0) + ((2 : Int) * (S 1032 0)))) [71, 72] g138) 1127 0 (465000 : Int)) 75 (639 : Int) (647340 : Int)) [68, 69, 70, 81, 82, 83, 84, 85, 86, 1143, 1144, 5, 1011, 74, 78, 76, 77] g154) 1100031 0 (-1 : Int)) [68, 69, 70, 81, 82, 83, 84, 85, 86, 71, 74, 75, 1127, 78, 79, 80, 72, 76, 77] g163) [68, 69, 70, 81, 82, 83, 84, 85, 86, 71, 74, 75, 1127, 78, 79, 80, 72, 76, 77, 1143, 1144, 5, 1011, 1150, 1149, 1145, 1113, 1111, 1112, 91, 1147, 1100031, 1148, 73] g171) [68, 69, 70, 81, 82, 83, 84, 85, 86, 71, 74, 75, 1127, 78, 79, 80, 72, 76, 77, 1143, 1144, 5, 1011, 1150, 1149, 1145, 1113, 1111, 1112, 91, 1147, 1100031, 1148, 73] g203) := Eq.mpr (congrArg (fun Z => sv_T sm_XS sm_cs sm_L sm_sh 24 (q_solve S) 294 123 [(0, .ref 0), (1, sv_I l1_204), (2, sv_I (l2_205 + (1 : Int)))] [] Z) eS) hb
                      exact sv_less (lv := [(0, .ref 0), (1, sv_I l1_204), (2, sv_I (l2_205 + (1 : Int)))]) (sv_Sub_cons rfl (sv_Sub_cons rfl (sv_Sub_cons rfl sv_Sub_nil))) hb
                have eS := sv_mod.eq (sv_mod.rf (l := [68, 69, 70, 81, 82, 83, 84, 85, 86, 71, 74, 75, 1127, 78, 79, 80, 72, 76, 77, 1143, 1144, 5, 1011, 1150, 1149, 1145, 1113, 1111, 1112, 91, 1147, 1100031, 1148, 73]) (S := (sv_sts (sv_sts (sv_up (sv_sts (sv_up (sv_up (sv_sts (sv_up (sv_sts (sv_up S 1000 0 (0 : Int)) [88, 89, 87, 1113, 5, 1011, 90] g128) 1121 0 ((S 1046 0) + ((2 : Int) * (S 1032 0)))) [71, 72] g138) 1127 0 (465000 : Int)) 75 (639 : Int) (647340 : Int)) [68, 69, 70, 81, 82, 83, 84, 85, 86, 1143, 1144, 5, 1011, 74, 78, 76, 77] g154) 1100031 0 (-1 : Int)) [68, 69, 70, 81, 82, 83, 84, 85, 86, 71, 74, 75, 1127, 78, 79, 80, 72, 76, 77] g163) [68, 69, 70, 81, 82, 83, 84, 85, 86, 71, 74, 75, 1127, 78, 79, 80, 72, 76, 77, 1143, 1144, 5, 1011, 1150, 1149, 1145, 1113, 1111, 1112, 91, 1147, 1100031, 1148, 73] g171)))
                have hb := hJ ((0 : Int), (0 : Int), (sv_sts (sv_sts (sv_up (sv_sts (sv_up (sv_up (sv_sts (sv_up (sv_sts (sv_up S 1000 0 (0 : Int)) [88, 89, 87, 1113, 5, 1011, 90] g128) 1121 0 ((S 1046 0) + ((2 : Int) * (S 1032 0)))) [71, 72] g138) 1127 0 (465000 : Int)) 75 (639 : Int) (647340 : Int)) [68, 69, 70, 81, 82, 83, 84, 85, 86, 1143, 1144, 5, 1011, 74, 78, 76, 77] g154) 1100031 0 (-1 : Int)) [68, 69, 70, 81, 82, 83, 84, 85, 86, 71, 74, 75, 1127, 78, 79, 80, 72, 76, 77] g163) [68, 69, 70, 81, 82, 83, 84, 85, 86, 71, 74, 75, 1127, 78, 79, 80, 72, 76, 77, 1143, 1144, 5, 1011, 1150, 1149, 1145, 1113, 1111, 1112, 91, 1147, 1100031, 1148, 73] g171)) ⟨(⟨by decide, by decide⟩ : sv_R (0 : Int)), (⟨by decide, by decide⟩ : sv_R (0 : Int)), (by rw [← eS]; exact ok175), hin207⟩
                have hb : sv_T sm_XS sm_cs sm_L sm_sh 24 (q_solve S) 294 123 [(0, .ref 0), (1, sv_I (0 : Int)), (2, sv_I (0 : Int))] [] (sv_sts (sv_sts (sv_up (sv_sts (sv_up (sv_up (sv_sts (sv_up (sv_sts (sv_up S 1000 0 (0 : Int)) [88, 89, 87, 1113, 5, 1011, 90] g128) 1121 0 ((S 1046 0) + ((2 : Int) * (S 1032 0)))) [71, 72] g138) 1127 0 (465000 : Int)) 75 (639 : Int) (647340 : Int)) [68, 69, 70, 81, 82, 83, 84, 85, 86, 1143, 1144, 5, 1011, 74, 78, 76, 77] g154) 1100031 0 (-1 : Int)) [68, 69, 70, 81, 82, 83, 84, 85, 86, 71, 74, 75, 1127, 78, 79, 80, 72, 76, 77] g163) [68, 69, 70, 81, 82, 83, 84, 85, 86, 71, 74, 75, 1127, 78, 79, 80, 72, 76, 77, 1143, 1144, 5, 1011, 1150, 1149, 1145, 1113, 1111, 1112, 91, 1147, 1100031, 1148, 73] g171) := Eq.mpr (congrArg (fun Z => sv_T sm_XS sm_cs sm_L sm_sh 24 (q_solve S) 294 123 [(0, .ref 0), (1, sv_I (0 : Int)), (2, sv_I (0 : Int))] [] Z) eS) hb
                exact hb
            have eS := sv_mod.eq (sv_mod.rf (l := [68, 69, 70, 81, 82, 83, 84, 85, 86, 71, 74, 75, 1127, 78, 79, 80, 72, 76, 77, 1143, 1144, 5, 1011, 1150, 1149, 1145, 1113, 1111, 1112, 91, 1147, 1100031, 1148, 73]) (S := (sv_sts (sv_up (sv_sts (sv_up (sv_up (sv_sts (sv_up (sv_sts (sv_up S 1000 0 (0 : Int)) [88, 89, 87, 1113, 5, 1011, 90] g128) 1121 0 ((S 1046 0) + ((2 : Int) * (S 1032 0)))) [71, 72] g138) 1127 0 (465000 : Int)) 75 (639 : Int) (647340 : Int)) [68, 69, 70, 81, 82, 83, 84, 85, 86, 1143, 1144, 5, 1011, 74, 78, 76, 77] g154) 1100031 0 (-1 : Int)) [68, 69, 70, 81, 82, 83, 84, 85, 86, 71, 74, 75, 1127, 78, 79, 80, 72, 76, 77] g163)))
            have hb := hJ ((1 : Int), (sv_sts (sv_up (sv_sts (sv_up (sv_up (sv_sts (sv_up (sv_sts (sv_up S 1000 0 (0 : Int)) [88, 89, 87, 1113, 5, 1011, 90] g128) 1121 0 ((S 1046 0) + ((2 : Int) * (S 1032 0)))) [71, 72] g138) 1127 0 (465000 : Int)) 75 (639 : Int) (647340 : Int)) [68, 69, 70, 81, 82, 83, 84, 85, 86, 1143, 1144, 5, 1011, 74, 78, 76, 77] g154) 1100031 0 (-1 : Int)) [68, 69, 70, 81, 82, 83, 84, 85, 86, 71, 74, 75, 1127, 78, 79, 80, 72, 76, 77] g163)) ⟨(⟨by decide, by decide⟩ : sv_R (1 : Int)), (by rw [← eS]; exact ok164), hin174⟩
            have hb : sv_T sm_XS sm_cs sm_L sm_sh 24 (q_solve S) 294 115 [(0, .ref 0), (1, sv_I (1 : Int))] [] (sv_sts (sv_up (sv_sts (sv_up (sv_up (sv_sts (sv_up (sv_sts (sv_up S 1000 0 (0 : Int)) [88, 89, 87, 1113, 5, 1011, 90] g128) 1121 0 ((S 1046 0) + ((2 : Int) * (S 1032 0)))) [71, 72] g138) 1127 0 (465000 : Int)) 75 (639 : Int) (647340 : Int)) [68, 69, 70, 81, 82, 83, 84, 85, 86, 1143, 1144, 5, 1011, 74, 78, 76, 77] g154) 1100031 0 (-1 : Int)) [68, 69, 70, 81, 82, 83, 84, 85, 86, 71, 74, 75, 1127, 78, 79, 80, 72, 76, 77] g163) := Eq.mpr (congrArg (fun Z => sv_T sm_XS sm_cs sm_L sm_sh 24 (q_solve S) 294 115 [(0, .ref 0), (1, sv_I (1 : Int))] [] Z) eS) hb
            exact hb
          · have h := h.2 (hc)
            refine sv_aload_n hM dX12_solve_66 rfl rfl ?_
            refine sv_getA hM dX12_solve_67 sm_fl_226 (sm_a0 _) sm_k122 rfl ?_
            refine sv_iload_n hM dX12_solve_70 rfl rfl ?_
            refine sv_iconst (d := (0 : Int)) hM dX12_solve_71 rfl rfl ?_
            obtain ⟨o237, h⟩ := h
            refine sv_zast sm_X hM dX12_solve_72 (sm_a71 _) (by decide) o237.1 o237.2 (sv_nnZ (⟨by decide, by decide⟩ : 0 ≤ (0 : Int) ∧ (0 : Int) ≤ 1)) rfl ?_
            have ok238 : sm_ok (sv_up (sv_sts (sv_up (sv_sts (sv_up S 1000 0 (0 : Int)) [88, 89, 87, 1113, 5, 1011, 90] g128) 1121 0 ((S 1046 0) + ((2 : Int) * (S 1032 0)))) [71, 72] g138) 71 l1_139 (0 : Int)) := sm_upZ ok142 sm_r71 (⟨by decide, by decide⟩ : 0 ≤ (0 : Int) ∧ (0 : Int) ≤ 1)
            have md239 : sv_mod [68, 69, 70, 81, 82, 83, 84, 85, 86, 71, 74, 75, 1127, 78, 79, 80, 72, 76, 77, 1143, 1144, 5, 1011, 1150, 1149, 1145, 1113, 1111, 1112, 91, 1147, 1100031, 1148, 73, 88, 89, 87, 90, 1121, 1000, 1119, 1120] S (sv_up (sv_sts (sv_up (sv_sts (sv_up S 1000 0 (0 : Int)) [88, 89, 87, 1113, 5, 1011, 90] g128) 1121 0 ((S 1046 0) + ((2 : Int) * (S 1032 0)))) [71, 72] g138) 71 l1_139 (0 : Int)) := sv_mod.up md143 (by decide)
            have md240 : sv_mod [71, 72] (sv_up (sv_sts (sv_up S 1000 0 (0 : Int)) [88, 89, 87, 1113, 5, 1011, 90] g128) 1121 0 ((S 1046 0) + ((2 : Int) * (S 1032 0)))) (sv_up (sv_sts (sv_up (sv_sts (sv_up S 1000 0 (0 : Int)) [88, 89, 87, 1113, 5, 1011, 90] g128) 1121 0 ((S 1046 0) + ((2 : Int) * (S 1032 0)))) [71, 72] g138) 71 l1_139 (0 : Int)) := sv_mod.up md144 (by decide)
            refine sv_aload_n hM dX12_solve_73 rfl rfl ?_
            refine sv_getA hM dX12_solve_74 sm_fl_229 (sm_a0 _) sm_k123 rfl ?_
            refine sv_iload_n hM dX12_solve_77 rfl rfl ?_
            refine sv_iconst (d := (0 : Int)) hM dX12_solve_78 rfl rfl ?_
            refine sv_zast sm_X hM dX12_solve_79 (sm_a72 _) (by decide) o237.1 o237.2 (sv_nnZ (⟨by decide, by decide⟩ : 0 ≤ (0 : Int) ∧ (0 : Int) ≤ 1)) rfl ?_
            have ok241 : sm_ok (sv_up (sv_up (sv_sts (sv_up (sv_sts (sv_up S 1000 0 (0 : Int)) [88, 89, 87, 1113, 5, 1011, 90] g128) 1121 0 ((S 1046 0) + ((2 : Int) * (S 1032 0)))) [71, 72] g138) 71 l1_139 (0 : Int)) 72 l1_139 (0 : Int)) := sm_upZ ok238 sm_r72 (⟨by decide, by decide⟩ : 0 ≤ (0 : Int) ∧ (0 : Int) ≤ 1)
            have md242 : sv_mod [68, 69, 70, 81, 82, 83, 84, 85, 86, 71, 74, 75, 1127, 78, 79, 80, 72, 76, 77, 1143, 1144, 5, 1011, 1150, 1149, 1145, 1113, 1111, 1112, 91, 1147, 1100031, 1148, 73, 88, 89, 87, 90, 1121, 1000, 1119, 1120] S (sv_up (sv_up (sv_sts (sv_up (sv_sts (sv_up S 1000 0 (0 : Int)) [88, 89, 87, 1113, 5, 1011, 90] g128) 1121 0 ((S 1046 0) + ((2 : Int) * (S 1032 0)))) [71, 72] g138) 71 l1_139 (0 : Int)) 72 l1_139 (0 : Int)) := sv_mod.up md239 (by decide)
            have md243 : sv_mod [71, 72] (sv_up (sv_sts (sv_up S 1000 0 (0 : Int)) [88, 89, 87, 1113, 5, 1011, 90] g128) 1121 0 ((S 1046 0) + ((2 : Int) * (S 1032 0)))) (sv_up (sv_up (sv_sts (sv_up (sv_sts (sv_up S 1000 0 (0 : Int)) [88, 89, 87, 1113, 5, 1011, 90] g128) 1121 0 ((S 1046 0) + ((2 : Int) * (S 1032 0)))) [71, 72] g138) 71 l1_139 (0 : Int)) 72 l1_139 (0 : Int)) := sv_mod.up md240 (by decide)
            refine sv_iinc (d := (1 : Int)) hM dX12_solve_80 rfl (by decide) rfl rfl ?_
            show sv_T sm_XS sm_cs sm_L sm_sh 24 (q_solve S) 294 83 [(0, .ref 0), (1, sv_I (l1_139 + (1 : Int)))] [] (sv_up (sv_up (sv_sts (sv_up (sv_sts (sv_up S 1000 0 (0 : Int)) [88, 89, 87, 1113, 5, 1011, 90] g128) 1121 0 ((S 1046 0) + ((2 : Int) * (S 1032 0)))) [71, 72] g138) 71 l1_139 (0 : Int)) 72 l1_139 (0 : Int))
            refine sv_goto hM dX12_solve_83 (pc' := 58) rfl ?_
            obtain ⟨o244, h⟩ := h
            have eS := sv_mod.eq md243
            have hb := ih140 ((l1_139 + (1 : Int)), (sv_up (sv_up (sv_sts (sv_up (sv_sts (sv_up S 1000 0 (0 : Int)) [88, 89, 87, 1113, 5, 1011, 90] g128) 1121 0 ((S 1046 0) + ((2 : Int) * (S 1032 0)))) [71, 72] g138) 71 l1_139 (0 : Int)) 72 l1_139 (0 : Int))) ⟨o244, (by rw [← eS]; exact ok241), h.1⟩ h.2
            have hb : sv_T sm_XS sm_cs sm_L sm_sh 24 (q_solve S) 294 58 [(0, .ref 0), (1, sv_I (l1_139 + (1 : Int)))] [] (sv_up (sv_up (sv_sts (sv_up (sv_sts (sv_up S 1000 0 (0 : Int)) [88, 89, 87, 1113, 5, 1011, 90] g128) 1121 0 ((S 1046 0) + ((2 : Int) * (S 1032 0)))) [71, 72] g138) 71 l1_139 (0 : Int)) 72 l1_139 (0 : Int)) := Eq.mpr (congrArg (fun Z => sv_T sm_XS sm_cs sm_L sm_sh 24 (q_solve S) 294 58 [(0, .ref 0), (1, sv_I (l1_139 + (1 : Int)))] [] Z) eS) hb
            exact sv_less (lv := [(0, .ref 0), (1, sv_I (l1_139 + (1 : Int)))]) (sv_Sub_cons rfl (sv_Sub_cons rfl sv_Sub_nil)) hb
        have eS := sv_mod.eq (sv_mod.rf (l := [71, 72]) (S := (sv_up (sv_sts (sv_up S 1000 0 (0 : Int)) [88, 89, 87, 1113, 5, 1011, 90] g128) 1121 0 ((S 1046 0) + ((2 : Int) * (S 1032 0))))))
        have hb := hJ ((0 : Int), (sv_up (sv_sts (sv_up S 1000 0 (0 : Int)) [88, 89, 87, 1113, 5, 1011, 90] g128) 1121 0 ((S 1046 0) + ((2 : Int) * (S 1032 0))))) ⟨(⟨by decide, by decide⟩ : sv_R (0 : Int)), (by rw [← eS]; exact ok136), hin141⟩
        have hb : sv_T sm_XS sm_cs sm_L sm_sh 24 (q_solve S) 294 58 [(0, .ref 0), (1, sv_I (0 : Int))] [] (sv_up (sv_sts (sv_up S 1000 0 (0 : Int)) [88, 89, 87, 1113, 5, 1011, 90] g128) 1121 0 ((S 1046 0) + ((2 : Int) * (S 1032 0)))) := Eq.mpr (congrArg (fun Z => sv_T sm_XS sm_cs sm_L sm_sh 24 (q_solve S) 294 58 [(0, .ref 0), (1, sv_I (0 : Int))] [] Z) eS) hb
        exact hb
      · have h := h.2 (hc)
        refine sv_aload_n hM dX12_solve_32 rfl rfl ?_
        have k245 : sv_R (S 1120 0) := sm_okI ok124 sm_r1120 0
        have h := h k245
        refine sv_getI hM dX12_solve_33 sm_fl_1034 (sm_a0 _) sm_k120 rfl (x := (S 1120 0)) rfl ?_
        exact sv_iret hM dX12_solve_36 rfl rfl ⟨(S 1120 0), rfl, k245, ok124, md125, h⟩
    · have h := h.2 (hc)
      refine sv_iconst (d := (0 : Int)) hM dX12_solve_23 rfl rfl ?_
      exact sv_iret hM dX12_solve_24 rfl rfl ⟨(0 : Int), rfl, (⟨by decide, by decide⟩ : sv_R (0 : Int)), ok124, md125, h⟩
