theorem dX12_callWays_0 : decode cX12_callWays 0 = .ok (.iload_n 1, 1) := by decide +kernel
theorem dX12_callWays_1 : decode cX12_callWays 1 = .ok (.iconst (-1), 1) := by decide +kernel
theorem dX12_callWays_2 : decode cX12_callWays 2 = .ok (.if_icmp .ne 14, 3) := by decide +kernel
theorem dX12_callWays_5 : decode cX12_callWays 5 = .ok (.aload_n 0, 1) := by decide +kernel
theorem dX12_callWays_6 : decode cX12_callWays 6 = .ok (.aload_n 0, 1) := by decide +kernel
theorem dX12_callWays_7 : decode cX12_callWays 7 = .ok (.getfield 1188, 3) := by decide +kernel
theorem dX12_callWays_10 : decode cX12_callWays 10 = .ok (.bipush 6, 2) := by decide +kernel
theorem dX12_callWays_12 : decode cX12_callWays 12 = .ok (.invokevirtual 1292, 3) := by decide +kernel
theorem dX12_callWays_15 : decode cX12_callWays 15 = .ok (.return_, 1) := by decide +kernel
theorem dX12_callWays_16 : decode cX12_callWays 16 = .ok (.aload_n 0, 1) := by decide +kernel
theorem dX12_callWays_17 : decode cX12_callWays 17 = .ok (.aload_n 0, 1) := by decide +kernel
theorem dX12_callWays_18 : decode cX12_callWays 18 = .ok (.getfield 1188, 3) := by decide +kernel
theorem dX12_callWays_21 : decode cX12_callWays 21 = .ok (.invokevirtual 1211, 3) := by decide +kernel
theorem dX12_callWays_24 : decode cX12_callWays 24 = .ok (.aload_n 0, 1) := by decide +kernel
theorem dX12_callWays_25 : decode cX12_callWays 25 = .ok (.sipush 639, 3) := by decide +kernel
theorem dX12_callWays_28 : decode cX12_callWays 28 = .ok (.iload_n 1, 1) := by decide +kernel
theorem dX12_callWays_29 : decode cX12_callWays 29 = .ok (.invokevirtual 1323, 3) := by decide +kernel
theorem dX12_callWays_32 : decode cX12_callWays 32 = .ok (.istore 6, 2) := by decide +kernel
theorem dX12_callWays_34 : decode cX12_callWays 34 = .ok (.aload_n 0, 1) := by decide +kernel
theorem dX12_callWays_35 : decode cX12_callWays 35 = .ok (.getfield 220, 3) := by decide +kernel
theorem dX12_callWays_38 : decode cX12_callWays 38 = .ok (.iload 6, 2) := by decide +kernel
theorem dX12_callWays_40 : decode cX12_callWays 40 = .ok (.laload, 1) := by decide +kernel
theorem dX12_callWays_41 : decode cX12_callWays 41 = .ok (.lstore 7, 2) := by decide +kernel
theorem dX12_callWays_43 : decode cX12_callWays 43 = .ok (.aload_n 0, 1) := by decide +kernel
theorem dX12_callWays_44 : decode cX12_callWays 44 = .ok (.getfield 223, 3) := by decide +kernel
theorem dX12_callWays_47 : decode cX12_callWays 47 = .ok (.iload 6, 2) := by decide +kernel
theorem dX12_callWays_49 : decode cX12_callWays 49 = .ok (.laload, 1) := by decide +kernel
theorem dX12_callWays_50 : decode cX12_callWays 50 = .ok (.lstore 9, 2) := by decide +kernel
theorem dX12_callWays_52 : decode cX12_callWays 52 = .ok (.aload_n 0, 1) := by decide +kernel
theorem dX12_callWays_53 : decode cX12_callWays 53 = .ok (.iload 6, 2) := by decide +kernel
theorem dX12_callWays_55 : decode cX12_callWays 55 = .ok (.invokevirtual 1059, 3) := by decide +kernel
theorem dX12_callWays_58 : decode cX12_callWays 58 = .ok (.ifCond .eq 7, 3) := by decide +kernel
theorem dX12_callWays_61 : decode cX12_callWays 61 = .ok (.iconst 1, 1) := by decide +kernel
theorem dX12_callWays_62 : decode cX12_callWays 62 = .ok (.goto 4, 3) := by decide +kernel
theorem dX12_callWays_65 : decode cX12_callWays 65 = .ok (.iconst 0, 1) := by decide +kernel
theorem dX12_callWays_66 : decode cX12_callWays 66 = .ok (.istore 11, 2) := by decide +kernel
theorem dX12_callWays_68 : decode cX12_callWays 68 = .ok (.iconst 0, 1) := by decide +kernel
theorem dX12_callWays_69 : decode cX12_callWays 69 = .ok (.istore 12, 2) := by decide +kernel
theorem dX12_callWays_71 : decode cX12_callWays 71 = .ok (.iconst 0, 1) := by decide +kernel
theorem dX12_callWays_72 : decode cX12_callWays 72 = .ok (.istore 13, 2) := by decide +kernel
theorem dX12_callWays_74 : decode cX12_callWays 74 = .ok (.iload 13, 2) := by decide +kernel
theorem dX12_callWays_76 : decode cX12_callWays 76 = .ok (.aload_n 0, 1) := by decide +kernel
theorem dX12_callWays_77 : decode cX12_callWays 77 = .ok (.getfield 765, 3) := by decide +kernel
theorem dX12_callWays_80 : decode cX12_callWays 80 = .ok (.if_icmp .ge 66, 3) := by decide +kernel
theorem dX12_callWays_83 : decode cX12_callWays 83 = .ok (.lload 7, 2) := by decide +kernel
theorem dX12_callWays_85 : decode cX12_callWays 85 = .ok (.lload 9, 2) := by decide +kernel
theorem dX12_callWays_87 : decode cX12_callWays 87 = .ok (.iload 13, 2) := by decide +kernel
theorem dX12_callWays_89 : decode cX12_callWays 89 = .ok (.invokestatic 1125, 3) := by decide +kernel
theorem dX12_callWays_92 : decode cX12_callWays 92 = .ok (.ifCond .ne 6, 3) := by decide +kernel
theorem dX12_callWays_95 : decode cX12_callWays 95 = .ok (.goto 45, 3) := by decide +kernel
theorem dX12_callWays_98 : decode cX12_callWays 98 = .ok (.iload 11, 2) := by decide +kernel
theorem dX12_callWays_100 : decode cX12_callWays 100 = .ok (.ifCond .ne 12, 3) := by decide +kernel
theorem dX12_callWays_103 : decode cX12_callWays 103 = .ok (.aload_n 0, 1) := by decide +kernel
theorem dX12_callWays_104 : decode cX12_callWays 104 = .ok (.iload 13, 2) := by decide +kernel
theorem dX12_callWays_106 : decode cX12_callWays 106 = .ok (.invokevirtual 1115, 3) := by decide +kernel
theorem dX12_callWays_109 : decode cX12_callWays 109 = .ok (.ifCond .ne 7, 3) := by decide +kernel
theorem dX12_callWays_112 : decode cX12_callWays 112 = .ok (.iconst 1, 1) := by decide +kernel
theorem dX12_callWays_113 : decode cX12_callWays 113 = .ok (.goto 4, 3) := by decide +kernel
theorem dX12_callWays_116 : decode cX12_callWays 116 = .ok (.iconst 0, 1) := by decide +kernel
theorem dX12_callWays_117 : decode cX12_callWays 117 = .ok (.istore 11, 2) := by decide +kernel
theorem dX12_callWays_119 : decode cX12_callWays 119 = .ok (.iload 12, 2) := by decide +kernel
theorem dX12_callWays_121 : decode cX12_callWays 121 = .ok (.ifCond .ne 12, 3) := by decide +kernel
theorem dX12_callWays_124 : decode cX12_callWays 124 = .ok (.aload_n 0, 1) := by decide +kernel
theorem dX12_callWays_125 : decode cX12_callWays 125 = .ok (.iload 13, 2) := by decide +kernel
theorem dX12_callWays_127 : decode cX12_callWays 127 = .ok (.invokevirtual 1326, 3) := by decide +kernel
theorem dX12_callWays_130 : decode cX12_callWays 130 = .ok (.ifCond .le 7, 3) := by decide +kernel
theorem dX12_callWays_133 : decode cX12_callWays 133 = .ok (.iconst 1, 1) := by decide +kernel
theorem dX12_callWays_134 : decode cX12_callWays 134 = .ok (.goto 4, 3) := by decide +kernel
theorem dX12_callWays_137 : decode cX12_callWays 137 = .ok (.iconst 0, 1) := by decide +kernel
theorem dX12_callWays_138 : decode cX12_callWays 138 = .ok (.istore 12, 2) := by decide +kernel
theorem dX12_callWays_140 : decode cX12_callWays 140 = .ok (.iinc 13 1, 3) := by decide +kernel
theorem dX12_callWays_143 : decode cX12_callWays 143 = .ok (.goto (-69), 3) := by decide +kernel
theorem dX12_callWays_146 : decode cX12_callWays 146 = .ok (.iload 11, 2) := by decide +kernel
theorem dX12_callWays_148 : decode cX12_callWays 148 = .ok (.ifCond .eq 13, 3) := by decide +kernel
theorem dX12_callWays_151 : decode cX12_callWays 151 = .ok (.aload_n 0, 1) := by decide +kernel
theorem dX12_callWays_152 : decode cX12_callWays 152 = .ok (.aload_n 0, 1) := by decide +kernel
theorem dX12_callWays_153 : decode cX12_callWays 153 = .ok (.getfield 1188, 3) := by decide +kernel
theorem dX12_callWays_156 : decode cX12_callWays 156 = .ok (.bipush 6, 2) := by decide +kernel
theorem dX12_callWays_158 : decode cX12_callWays 158 = .ok (.invokevirtual 1292, 3) := by decide +kernel
theorem dX12_callWays_161 : decode cX12_callWays 161 = .ok (.iload 12, 2) := by decide +kernel
theorem dX12_callWays_163 : decode cX12_callWays 163 = .ok (.ifCond .eq 13, 3) := by decide +kernel
theorem dX12_callWays_166 : decode cX12_callWays 166 = .ok (.aload_n 0, 1) := by decide +kernel
theorem dX12_callWays_167 : decode cX12_callWays 167 = .ok (.aload_n 0, 1) := by decide +kernel
theorem dX12_callWays_168 : decode cX12_callWays 168 = .ok (.getfield 1188, 3) := by decide +kernel
theorem dX12_callWays_171 : decode cX12_callWays 171 = .ok (.bipush 8, 2) := by decide +kernel
theorem dX12_callWays_173 : decode cX12_callWays 173 = .ok (.invokevirtual 1292, 3) := by decide +kernel
theorem dX12_callWays_176 : decode cX12_callWays 176 = .ok (.bipush 9, 2) := by decide +kernel
theorem dX12_callWays_178 : decode cX12_callWays 178 = .ok (.istore 13, 2) := by decide +kernel
theorem dX12_callWays_180 : decode cX12_callWays 180 = .ok (.iload 13, 2) := by decide +kernel
theorem dX12_callWays_182 : decode cX12_callWays 182 = .ok (.bipush 23, 2) := by decide +kernel
theorem dX12_callWays_184 : decode cX12_callWays 184 = .ok (.if_icmp .ge 79, 3) := by decide +kernel
theorem dX12_callWays_187 : decode cX12_callWays 187 = .ok (.lload 7, 2) := by decide +kernel
theorem dX12_callWays_189 : decode cX12_callWays 189 = .ok (.lload 9, 2) := by decide +kernel
theorem dX12_callWays_191 : decode cX12_callWays 191 = .ok (.iload 13, 2) := by decide +kernel
theorem dX12_callWays_193 : decode cX12_callWays 193 = .ok (.invokestatic 1125, 3) := by decide +kernel
theorem dX12_callWays_196 : decode cX12_callWays 196 = .ok (.ifCond .ne 6, 3) := by decide +kernel
theorem dX12_callWays_199 : decode cX12_callWays 199 = .ok (.goto 58, 3) := by decide +kernel
theorem dX12_callWays_202 : decode cX12_callWays 202 = .ok (.iload 13, 2) := by decide +kernel
theorem dX12_callWays_204 : decode cX12_callWays 204 = .ok (.bipush 20, 2) := by decide +kernel
theorem dX12_callWays_206 : decode cX12_callWays 206 = .ok (.if_icmp .ne 39, 3) := by decide +kernel
theorem dX12_callWays_209 : decode cX12_callWays 209 = .ok (.aload_n 0, 1) := by decide +kernel
theorem dX12_callWays_210 : decode cX12_callWays 210 = .ok (.iload_n 2, 1) := by decide +kernel
theorem dX12_callWays_211 : decode cX12_callWays 211 = .ok (.iload 4, 2) := by decide +kernel
theorem dX12_callWays_213 : decode cX12_callWays 213 = .ok (.ifCond .le 7, 3) := by decide +kernel
theorem dX12_callWays_216 : decode cX12_callWays 216 = .ok (.iload_n 3, 1) := by decide +kernel
theorem dX12_callWays_217 : decode cX12_callWays 217 = .ok (.goto 4, 3) := by decide +kernel
theorem dX12_callWays_220 : decode cX12_callWays 220 = .ok (.iconst (-1), 1) := by decide +kernel
theorem dX12_callWays_221 : decode cX12_callWays 221 = .ok (.iload_n 3, 1) := by decide +kernel
theorem dX12_callWays_222 : decode cX12_callWays 222 = .ok (.iconst 1, 1) := by decide +kernel
theorem dX12_callWays_223 : decode cX12_callWays 223 = .ok (.iadd, 1) := by decide +kernel
theorem dX12_callWays_224 : decode cX12_callWays 224 = .ok (.iload 4, 2) := by decide +kernel
theorem dX12_callWays_226 : decode cX12_callWays 226 = .ok (.ifCond .le 10, 3) := by decide +kernel
theorem dX12_callWays_229 : decode cX12_callWays 229 = .ok (.iload 4, 2) := by decide +kernel
theorem dX12_callWays_231 : decode cX12_callWays 231 = .ok (.iconst 1, 1) := by decide +kernel
theorem dX12_callWays_232 : decode cX12_callWays 232 = .ok (.isub, 1) := by decide +kernel
theorem dX12_callWays_233 : decode cX12_callWays 233 = .ok (.goto 4, 3) := by decide +kernel
theorem dX12_callWays_236 : decode cX12_callWays 236 = .ok (.iconst 0, 1) := by decide +kernel
theorem dX12_callWays_237 : decode cX12_callWays 237 = .ok (.iload 5, 2) := by decide +kernel
theorem dX12_callWays_239 : decode cX12_callWays 239 = .ok (.invokevirtual 1320, 3) := by decide +kernel
theorem dX12_callWays_242 : decode cX12_callWays 242 = .ok (.goto 15, 3) := by decide +kernel
theorem dX12_callWays_245 : decode cX12_callWays 245 = .ok (.aload_n 0, 1) := by decide +kernel
theorem dX12_callWays_246 : decode cX12_callWays 246 = .ok (.iload 13, 2) := by decide +kernel
theorem dX12_callWays_248 : decode cX12_callWays 248 = .ok (.iload_n 2, 1) := by decide +kernel
theorem dX12_callWays_249 : decode cX12_callWays 249 = .ok (.iload_n 3, 1) := by decide +kernel
theorem dX12_callWays_250 : decode cX12_callWays 250 = .ok (.iload 4, 2) := by decide +kernel
theorem dX12_callWays_252 : decode cX12_callWays 252 = .ok (.iload 5, 2) := by decide +kernel
theorem dX12_callWays_254 : decode cX12_callWays 254 = .ok (.invokevirtual 1329, 3) := by decide +kernel
theorem dX12_callWays_257 : decode cX12_callWays 257 = .ok (.iinc 13 1, 3) := by decide +kernel
theorem dX12_callWays_260 : decode cX12_callWays 260 = .ok (.goto (-80), 3) := by decide +kernel
theorem dX12_callWays_263 : decode cX12_callWays 263 = .ok (.iconst 1, 1) := by decide +kernel
theorem dX12_callWays_264 : decode cX12_callWays 264 = .ok (.istore 13, 2) := by decide +kernel
theorem dX12_callWays_266 : decode cX12_callWays 266 = .ok (.iload 13, 2) := by decide +kernel
theorem dX12_callWays_268 : decode cX12_callWays 268 = .ok (.aload_n 0, 1) := by decide +kernel
theorem dX12_callWays_269 : decode cX12_callWays 269 = .ok (.getfield 527, 3) := by decide +kernel
theorem dX12_callWays_272 : decode cX12_callWays 272 = .ok (.if_icmp .ge 26, 3) := by decide +kernel
theorem dX12_callWays_275 : decode cX12_callWays 275 = .ok (.aload_n 0, 1) := by decide +kernel
theorem dX12_callWays_276 : decode cX12_callWays 276 = .ok (.iload 13, 2) := by decide +kernel
theorem dX12_callWays_278 : decode cX12_callWays 278 = .ok (.lload 7, 2) := by decide +kernel
theorem dX12_callWays_280 : decode cX12_callWays 280 = .ok (.lload 9, 2) := by decide +kernel
theorem dX12_callWays_282 : decode cX12_callWays 282 = .ok (.iload_n 2, 1) := by decide +kernel
theorem dX12_callWays_283 : decode cX12_callWays 283 = .ok (.iload_n 3, 1) := by decide +kernel
theorem dX12_callWays_284 : decode cX12_callWays 284 = .ok (.iload 4, 2) := by decide +kernel
theorem dX12_callWays_286 : decode cX12_callWays 286 = .ok (.iload 5, 2) := by decide +kernel
theorem dX12_callWays_288 : decode cX12_callWays 288 = .ok (.iconst (-1), 1) := by decide +kernel
theorem dX12_callWays_289 : decode cX12_callWays 289 = .ok (.invokevirtual 1332, 3) := by decide +kernel
theorem dX12_callWays_292 : decode cX12_callWays 292 = .ok (.iinc 13 1, 3) := by decide +kernel
theorem dX12_callWays_295 : decode cX12_callWays 295 = .ok (.goto (-29), 3) := by decide +kernel
theorem dX12_callWays_298 : decode cX12_callWays 298 = .ok (.return_, 1) := by decide +kernel
def q_callWays (p1 : Int) (p2 : Int) (p3 : Int) (p4 : Int) (p5 : Int) (S : sv_S) : Option Value → sv_S → Prop := fun v S' => v = none ∧ sm_ok S' ∧ sv_mod [68, 69, 70, 81, 82, 83, 84, 85, 86, 71, 74, 75, 1127, 78, 79, 80, 72, 76, 77, 1143, 1144, 5, 1011, 1150, 1149, 1145, 1113, 1111, 1112, 91, 1147, 1100031] S S' ∧ (sm_ST (S' 71) (S' 74) (S' 75) (S' 78) (S' 79) (S' 80) (S' 27) (S' 1100007) (S' 1100023) (S' 1100024) (S' 1046 0) ((S' 1046 0) + 2 * (S' 1032 0)) (S' 1127 0) ∧ 465000 ≤ (S' 1127 0) ∧ (S' 1127 0) + sm_hs (S' 71) (S' 1100007) ≤ 635000 ∧ (S' 75 639) = 647340 ∧ (∀ k : Int, (S 71 k) = 1 → (S' 71 k) = 1) ∧ sm_DR (S' 72) (S' 71) (S' 1046 0) ∧ (641 * (sm_cm (S' 71) + sm_pt (S' 68) (S' 69) (S' 70) + sm_pl (S' 81) (S' 82) (S' 83) (S' 84) (S' 85) (S' 86) + sm_ps (S' 76) (S' 77)) + sm_du (S' 72)) ≤ (641 * (sm_cm (S 71) + sm_pt (S 68) (S 69) (S 70) + sm_pl (S 81) (S 82) (S 83) (S 84) (S 85) (S 86) + sm_ps (S 76) (S 77)) + sm_du (S 72)) ∧ 0 ≤ (S' 1147 0) ∧ (S' 1147 0) ≤ 12 ∧ (∀ k : Int, 0 ≤ k → k < (S' 1147 0) → 635639 ≤ (S' 91 k) ∧ (S' 91 k) < 647800))
def T_callWays (d : Int) : Prop := ∀ (p1 : Int) (p2 : Int) (p3 : Int) (p4 : Int) (p5 : Int) (S : sv_S), sm_ok S → sv_R p1 → sv_R p2 → sv_R p3 → sv_R p4 → sv_R p5 → (29 ≤ (S 1071 0) ∧ (S 1071 0) ≤ 127 ∧ 31 ≤ (S 1008 0) ∧ (S 1008 0) ≤ 90 ∧ 1 ≤ (S 1032 0) ∧ (S 1032 0) ≤ 11 ∧ 0 ≤ (S 1055 0) ∧ (S 1055 0) ≤ 19 ∧ (S 1071 0) = 29 + 6 * ((S 1032 0) - 1) + 2 * (S 1055 0) ∧ 0 ≤ (S 1046 0) ∧ (S 1046 0) + 2 * (S 1032 0) ≤ 500 ∧ sm_PD (S 1046 0) (S 1032 0) (S 1071 0) (S 1008 0) ∧ 0 ≤ (S 1071 0) * ((S 1008 0) + 1) ∧ (S 1071 0) * ((S 1008 0) + 1) ≤ 11557 ∧ 31 ≤ (S 1007 0) ∧ (S 1007 0) ≤ 400 ∧ sm_LN (S 4) 400 (S 1007 0) ∧ (S 75 639) = 647340 ∧ sm_ST (S 71) (S 74) (S 75) (S 78) (S 79) (S 80) (S 27) (S 1100007) (S 1100023) (S 1100024) (S 1046 0) ((S 1046 0) + 2 * (S 1032 0)) (S 1127 0) ∧ 465000 ≤ (S 1127 0) ∧ (S 1127 0) + sm_hs (S 71) (S 1100007) ≤ 635000 ∧ sm_NH (S 1100007) ∧ sm_CT (S 26) (S 27) (S 28) (S 29) (S 1100007) (S 1100023) (S 1100024) (S 1100025) (S 21) (S 1046 0) (S 1032 0) (S 1008 0) (S 1055 0) ∧ (∀ k : Int, (S 1046 0) ≤ k → k < ((S 1046 0) + 2 * (S 1032 0)) → (S 1100007 k) = 1) ∧ sm_DR (S 72) (S 71) (S 1046 0) ∧ 0 ≤ (S 1148 0) ∧ (S 1148 0) < (S 1046 0) ∧ (S 71 (S 1148 0)) = 1 ∧ (∀ g : Int, 0 ≤ g → g < (S 1032 0) → 0 ≤ (S 30 g) ∧ (S 30 g) < (S 1046 0) ∧ (S 1100007 (S 30 g)) = 0 ∧ (S 1100023 (S 30 g)) = -1 ∧ 0 ≤ (S 33 g) ∧ (S 33 g) ≤ 100 ∧ 0 ≤ (S 20 g) ∧ (S 20 g) ≤ 8) ∧ sm_VN (S 32) (S 33) (S 1032 0) (S 1008 0) ∧ 0 ≤ (S 1147 0) ∧ (S 1147 0) ≤ 12 ∧ (∀ k : Int, 0 ≤ k → k < (S 1147 0) → 635639 ≤ (S 91 k) ∧ (S 91 k) < 647800) ∧ -1 ≤ p1 ∧ p1 ≤ 450 ∧ (¬ p1 = -1 → -1 ≤ p2 ∧ p2 ≤ 450 ∧ 0 ≤ p3 ∧ 0 ≤ p4 ∧ p4 ≤ 8 ∧ p3 + p4 + (if p2 = -1 then 0 else 1) ≤ 440) ∧ 1 ≤ p5 ∧ p5 ≤ (S 1100007 (S 1148 0)) ∧ (S 1100007 ((S 1148 0) + 1)) = (S 1100007 (S 1148 0)) - p5 + 1 ∧ (S 1148 0) + 1 < (S 1046 0) ∧ (S 1100023 ((S 1148 0) + 1)) = (S 1100023 (S 1148 0))) → ((if p1 = -1 then 0 else if p2 = -1 then 1 else p4 + 2)) = d → sv_T sm_XS sm_cs sm_L sm_sh ((10 + (if p1 = -1 then 0 else if p2 = -1 then 1 else p4 + 2))).toNat (q_callWays p1 p2 p3 p4 p5 S) 281 0 (lv_args 0 [.ref 0, sv_I p1, sv_I p2, sv_I p3, sv_I p4, sv_I p5]) [] S
def P_CW (d : Int) : Prop := T_callWays d
theorem la_callWays_0 {x0 : Int} (h0 : (-1) ≤ x0) (h1 : ¬ x0 = (-1)) : (-1) < x0 := by omega
theorem la_callWays_1 {x0 x1 x2 : Int} (h0 : 0 ≤ x0) (h1 : x1 = 1) (h2 : x0 + 1 < x2) : 0 ≤ x0 ∧ x0 < x2 ∧ x1 = 1 := by omega
theorem la_callWays_2 {x0 x1 : Int} (h0 : x0 + 1 < x1) : ¬ x1 ≤ x0 := by omega
theorem la_callWays_3 {x0 x1 : Int} (h0 : x0 + 1 < x1) : ¬ x1 ≤ x0 + 1 := by omega
theorem la_callWays_4 {x0 x1 : Int} (h0 : x0 = x1) (h1 : x1 = 1) : 3 + 1 ≤ 10 + x0 := by omega
theorem la_callWays_5 {x0 x1 x2 : Int} (h0 : x0 = x1) (h1 : 0 ≤ x2) (h2 : x1 = x2 + 2) : 3 + 1 ≤ 10 + x0 := by omega
theorem la_callWays_6 {x0 x1 : Int} (h0 : x0 = 647340) (h1 : x1 ≤ 450) (h2 : (-1) < x1) : (0 : Int) ≤ 639 ∧ (639 : Int) < 640 ∧ (-1000) ≤ x1 ∧ x1 ≤ 1000 ∧ 0 ≤ x0 ∧ x0 ≤ 647800 := by omega
theorem la_callWays_7 {x0 x1 : Int} (h0 : x0 = x1) (h1 : x1 = 1) : 0 + 1 ≤ 10 + x0 := by omega
theorem la_callWays_8 {x0 x1 x2 : Int} (h0 : x0 = x1) (h1 : 0 ≤ x2) (h2 : x1 = x2 + 2) : 0 + 1 ≤ 10 + x0 := by omega
theorem la_callWays_9 {x0 x1 x2 : Int} (h0 : x0 = 647340) (h1 : x1 ≤ 450) (h2 : (-1) < x1) (h3 : x2 = x0 + x1) : 0 ≤ x2 ∧ x2 < 647800 := by omega
theorem la_callWays_10 : (0 : Int) ≤ 0 := by omega
theorem la_callWays_11 {x0 : Int} (h0 : 29 ≤ x0) : 0 ≤ x0 := by omega
theorem la_callWays_12 : (0 : Int) = 0 ∨ (0 : Int) = 1 := by omega
theorem la_callWays_13 {x0 x1 : Int} (h0 : x0 ≤ x1) : 0 ≤ x1 - x0 := by omega
theorem la_callWays_14 : (9 : Int) ≤ 9 := by omega
theorem la_callWays_15 : (9 : Int) ≤ 23 := by omega
theorem la_callWays_16 {x0 x1 x2 x3 x4 x5 x6 x7 x8 x9 x10 x11 x12 x13 x14 x15 x16 x17 : Int} (h0 : x0 = x1) (h1 : x2 = x3) (h2 : x4 = x5) (h3 : 641 * (x6 + x7 + x8 + x9) + x10 ≤ 641 * (x11 + x0 + x2 + x4) + x12) (h4 : 641 * (x13 + x14 + x15 + x16) + x17 ≤ 641 * (x6 + x7 + x8 + x9) + x10) : 641 * (x13 + x14 + x15 + x16) + x17 ≤ 641 * (x11 + x1 + x3 + x5) + x12 := by omega
theorem la_callWays_17 {x0 : Int} (h0 : x0 ≤ 23) : 0 ≤ 23 - x0 := by omega
theorem la_callWays_18 : (1 : Int) ≤ 1 := by omega
theorem la_callWays_19 {x0 x1 : Int} (h0 : ¬ x0 ≤ x1) : x1 < x0 := by omega
theorem la_callWays_20 {x0 x1 x2 : Int} (h0 : 0 ≤ x0) (h1 : x1 + x0 + x2 ≤ 440) (h2 : x2 = 0) : x1 ≤ 450 := by omega
theorem la_callWays_21 {x0 x1 x2 : Int} (h0 : 0 ≤ x0) (h1 : x1 + x0 + x2 ≤ 440) (h2 : x2 = 1) : x1 ≤ 450 := by omega
theorem la_callWays_22 : ((-1) : Int) ≤ (-1) := by omega
theorem la_callWays_23 {x0 : Int} (h0 : 0 ≤ x0) : (-1) < x0 := by omega
theorem la_callWays_24 {x0 x1 : Int} (h0 : x0 = x1) (h1 : x1 = 1) : 6 + 1 ≤ 10 + x0 := by omega
theorem la_callWays_25 {x0 x1 x2 : Int} (h0 : x0 = x1) (h1 : 0 ≤ x2) (h2 : x1 = x2 + 2) : 6 + 1 ≤ 10 + x0 := by omega
theorem la_callWays_26 {x0 x1 : Int} (h0 : x0 ≤ 11) (h1 : 1 ≤ x1) (h2 : ¬ x0 ≤ x1) : sv_R (x1 + 1) := by omega
theorem la_callWays_27 {x0 : Int} (h0 : 1 ≤ x0) : 1 ≤ x0 + 1 := by omega
theorem la_callWays_28 {x0 x1 : Int} (h0 : ¬ x0 ≤ x1) : x1 + 1 ≤ x0 := by omega
theorem la_callWays_29 {x0 x1 x2 x3 x4 x5 x6 x7 x8 x9 x10 x11 x12 x13 x14 : Int} (h0 : 641 * (x0 + x1 + x2 + x3) + x4 ≤ 641 * (x5 + x6 + x7 + x8) + x9) (h1 : 641 * (x10 + x11 + x12 + x13) + x14 ≤ 641 * (x0 + x1 + x2 + x3) + x4) : 641 * (x10 + x11 + x12 + x13) + x14 ≤ 641 * (x5 + x6 + x7 + x8) + x9 := by omega
theorem la_callWays_30 {x0 x1 : Int} : x0 - (x1 + 1) < x0 - x1 := by omega
theorem la_callWays_31 {x0 : Int} (h0 : 9 ≤ x0) (h1 : ¬ 23 ≤ x0) : 0 ≤ x0 ∧ x0 < 128 := by omega
theorem la_callWays_32 {x0 : Int} (h0 : x0 = 1) : 0 ≤ x0 := by omega
theorem la_callWays_33 {x0 : Int} (h0 : 0 ≤ x0) (h1 : ¬ x0 = 0) : 0 < x0 := by omega
theorem la_callWays_34 {x0 : Int} (h0 : ¬ 23 ≤ x0) : x0 ≤ 22 := by omega
theorem la_callWays_35 {x0 x1 : Int} (h0 : x0 = x1) (h1 : x1 = 1) : 9 + 1 ≤ 10 + x0 := by omega
theorem la_callWays_36 {x0 x1 x2 : Int} (h0 : x0 = x1) (h1 : 0 ≤ x2) (h2 : x1 = x2 + 2) : 9 + 1 ≤ 10 + x0 := by omega
theorem la_callWays_37 {x0 : Int} (h0 : 9 ≤ x0) (h1 : ¬ 23 ≤ x0) : sv_R (x0 + 1) := by omega
theorem la_callWays_38 {x0 : Int} (h0 : 9 ≤ x0) : 9 ≤ x0 + 1 := by omega
theorem la_callWays_39 {x0 : Int} (h0 : ¬ 23 ≤ x0) : x0 + 1 ≤ 23 := by omega
theorem la_callWays_40 {x0 : Int} : 23 - (x0 + 1) < 23 - x0 := by omega
theorem la_callWays_41 {x0 x1 x2 : Int} (h0 : 0 ≤ x0) (h1 : 0 ≤ x1) (h2 : x0 + x1 + x2 ≤ 440) (h3 : x2 = 0) : sv_R (x0 + 1) := by omega
theorem la_callWays_42 {x0 x1 x2 : Int} (h0 : 0 ≤ x0) (h1 : 0 ≤ x1) (h2 : x0 + x1 + x2 ≤ 440) (h3 : x2 = 1) : sv_R (x0 + 1) := by omega
theorem la_callWays_43 : ((-1) : Int) ≤ 450 := by omega
theorem la_callWays_44 {x0 : Int} (h0 : 0 ≤ x0) : 0 ≤ x0 + 1 := by omega
theorem la_callWays_45 : (0 : Int) ≤ 8 := by omega
theorem la_callWays_46 : ((-1) : Int) = (-1) := by omega
theorem la_callWays_47 {x0 x1 x2 x3 : Int} (h0 : 0 ≤ x0) (h1 : x1 + x0 + x2 ≤ 440) (h2 : x2 = 1) (h3 : x3 = 0) : x1 + 1 + 0 + x3 ≤ 440 := by omega
theorem la_callWays_48 {x0 : Int} (h0 : x0 = 0) : 0 ≤ x0 := by omega
theorem la_callWays_49 {x0 x1 : Int} (h0 : x0 = 1) (h1 : x1 = x0) : 0 ≤ x1 := by omega
theorem la_callWays_50 {x0 x1 x2 x3 : Int} (h0 : x0 = x1) (h1 : x0 = x2) (h2 : x3 = 0) (h3 : x2 = 1) : x3 < x1 := by omega
theorem la_callWays_51 {x0 x1 x2 x3 x4 x5 : Int} (h0 : x0 = x1) (h1 : x0 = x2) (h2 : 0 ≤ x3) (h3 : x4 = 1) (h4 : x5 = x4) (h5 : x2 = x3 + 2) : x5 < x1 := by omega
theorem la_callWays_52 {x0 : Int} (h0 : x0 = 0) : 0 ≤ 10 + x0 := by omega
theorem la_callWays_53 {x0 x1 : Int} (h0 : x0 = 1) (h1 : x1 = x0) : 0 ≤ 10 + x1 := by omega
theorem la_callWays_54 {x0 x1 x2 : Int} (h0 : x0 = x1) (h1 : x2 = 0) (h2 : x1 = 1) : 10 + x2 + 1 ≤ 10 + x0 := by omega
theorem la_callWays_55 {x0 x1 x2 x3 x4 : Int} (h0 : x0 = x1) (h1 : 0 ≤ x2) (h2 : x3 = 1) (h3 : x4 = x3) (h4 : x1 = x2 + 2) : 10 + x4 + 1 ≤ 10 + x0 := by omega
theorem la_callWays_56 {x0 : Int} (h0 : ¬ ¬ x0 = 20) : sv_R (x0 + 1) := by omega
theorem la_callWays_57 {x0 : Int} (h0 : ¬ ¬ x0 = 20) : 9 ≤ x0 + 1 := by omega
theorem la_callWays_58 {x0 : Int} (h0 : ¬ ¬ x0 = 20) : x0 + 1 ≤ 23 := by omega
theorem la_callWays_59 {x0 x1 : Int} (h0 : 0 ≤ x0) (h1 : x1 ≤ 0) (h2 : ¬ x1 ≤ 0) : sv_R (x0 + 1) := by omega
theorem la_callWays_60 {x0 : Int} (h0 : x0 ≤ 0) (h1 : ¬ x0 ≤ 0) : sv_R (x0 - 1) := by omega
theorem la_callWays_61 {x0 x1 x2 x3 : Int} (h0 : (-1) ≤ x0) (h1 : 0 ≤ x1) (h2 : x2 ≤ 0) (h3 : ¬ x2 ≤ 0) : ¬ x0 = (-1) → ((-1) : Int) ≤ (-1) ∧ ((-1) : Int) ≤ 450 ∧ 0 ≤ x1 + 1 ∧ 0 ≤ x2 - 1 ∧ x2 - 1 ≤ 8 ∧ x1 + 1 + (x2 - 1) + x3 ≤ 440 := by omega
theorem la_callWays_62 {x0 : Int} (h0 : x0 ≤ 0) (h1 : ¬ x0 ≤ 0) : False := by omega
theorem la_callWays_63 {x0 x1 : Int} (h0 : 0 ≤ x0) (h1 : ¬ x1 ≤ 0) (h2 : x1 ≤ 0) : sv_R (x0 + 1) := by omega
theorem la_callWays_64 {x0 x1 x2 x3 : Int} (h0 : (-1) ≤ x0) (h1 : 0 ≤ x1) (h2 : ¬ x2 ≤ 0) (h3 : x2 ≤ 0) : ¬ x0 = (-1) → (-1) ≤ x1 ∧ x1 ≤ 450 ∧ 0 ≤ x1 + 1 ∧ (0 : Int) ≤ 0 ∧ (0 : Int) ≤ 8 ∧ x1 + 1 + 0 + x3 ≤ 440 := by omega
theorem la_callWays_65 {x0 x1 : Int} (h0 : 0 ≤ x0) (h1 : ¬ x1 ≤ 0) (h2 : x1 ≤ 0) : x0 = (-1) := by omega
theorem la_callWays_66 {x0 : Int} (h0 : ¬ x0 ≤ 0) (h1 : x0 ≤ 0) : False := by omega
theorem la_callWays_67 {x0 x1 x2 : Int} (h0 : 0 ≤ x0) (h1 : x0 + x1 + x2 ≤ 440) (h2 : ¬ x1 ≤ 0) (h3 : x2 = 0) : sv_R (x0 + 1) := by omega
theorem la_callWays_68 {x0 x1 x2 : Int} (h0 : 0 ≤ x0) (h1 : x0 + x1 + x2 ≤ 440) (h2 : ¬ x1 ≤ 0) (h3 : x2 = 1) : sv_R (x0 + 1) := by omega
theorem la_callWays_69 {x0 : Int} (h0 : x0 ≤ 8) (h1 : ¬ x0 ≤ 0) : sv_R (x0 - 1) := by omega
theorem la_callWays_70 {x0 : Int} (h0 : 0 ≤ x0) : (-1) ≤ x0 := by omega
theorem la_callWays_71 {x0 x1 x2 : Int} (h0 : x0 + x1 + x2 ≤ 440) (h1 : ¬ x1 ≤ 0) (h2 : x2 = 1) : x0 ≤ 450 := by omega
theorem la_callWays_72 {x0 : Int} (h0 : ¬ x0 ≤ 0) : 0 ≤ x0 - 1 := by omega
theorem la_callWays_73 {x0 : Int} (h0 : x0 ≤ 8) : x0 - 1 ≤ 8 := by omega
theorem la_callWays_74 {x0 : Int} (h0 : 0 ≤ x0) : ¬ x0 = (-1) := by omega
theorem la_callWays_75 {x0 x1 x2 x3 : Int} (h0 : x0 + x1 + x2 ≤ 440) (h1 : x2 = 1) (h2 : x3 = 1) : x0 + 1 + (x1 - 1) + x3 ≤ 440 := by omega
theorem la_callWays_76 {x0 x1 x2 : Int} (h0 : ¬ x0 ≤ 0) (h1 : x1 = x0 - 1 + 2) (h2 : x2 = x1) : 0 ≤ x2 := by omega
theorem la_callWays_77 {x0 x1 x2 x3 x4 x5 : Int} (h0 : x0 = x1) (h1 : x0 = x2) (h2 : x3 = x4 - 1 + 2) (h3 : x5 = x3) (h4 : x2 = x4 + 2) : x5 < x1 := by omega
theorem la_callWays_78 {x0 x1 x2 : Int} (h0 : ¬ x0 ≤ 0) (h1 : x1 = x0 - 1 + 2) (h2 : x2 = x1) : 0 ≤ 10 + x2 := by omega
theorem la_callWays_79 {x0 x1 x2 x3 x4 : Int} (h0 : x0 = x1) (h1 : x2 = x3 - 1 + 2) (h2 : x4 = x2) (h3 : x1 = x3 + 2) : 10 + x4 + 1 ≤ 10 + x0 := by omega
theorem la_callWays_80 {x0 : Int} (h0 : ¬ ¬ x0 = 0) : ¬ x0 = 1 := by omega
theorem la_callWays_81 {x0 : Int} (h0 : x0 = 0) : ¬ x0 = 1 := by omega
theorem la_callWays_82 {x0 x1 x2 x3 x4 : Int} : 641 * (x0 + x1 + x2 + x3) + x4 ≤ 641 * (x0 + x1 + x2 + x3) + x4 := by omega
theorem la_callWays_83 {x0 : Int} : x0 = x0 := by omega
theorem la_callWays_84 : (6 : Int) ≤ 8 := by omega
theorem la_callWays_85 : (8 : Int) ≤ 8 := by omega
theorem la_callWays_86 {x0 x1 : Int} (h0 : x0 = x1) (h1 : x1 = 1) : 8 + 1 ≤ 10 + x0 := by omega
theorem la_callWays_87 {x0 x1 x2 : Int} (h0 : x0 = x1) (h1 : 0 ≤ x2) (h2 : x1 = x2 + 2) : 8 + 1 ≤ 10 + x0 := by omega
theorem la_callWays_88 {x0 x1 x2 : Int} (h0 : 0 ≤ x0) (h1 : x1 = 1) (h2 : x0 + 1 < x2) : 0 ≤ x0 ∧ x0 < x2 ∧ x1 = 1 ∧ x0 = x0 ∧ (6 : Int) ≤ 6 ∧ (6 : Int) ≤ 8 := by omega
theorem la_callWays_89 {x0 x1 : Int} (h0 : x0 ≤ 127) (h1 : 0 ≤ x1) (h2 : ¬ x0 ≤ x1) : 0 ≤ x1 ∧ x1 < 128 := by omega
theorem la_callWays_90 {x0 x1 : Int} (h0 : x0 ≤ 127) (h1 : 0 ≤ x1) (h2 : ¬ x0 ≤ x1) : sv_R (x1 + 1) := by omega
theorem la_callWays_91 {x0 : Int} : ¬ x0 = 0 → (1 : Int) = 0 ∨ (1 : Int) = 1 := by omega
theorem la_callWays_92 {x0 x1 x2 : Int} (h0 : x0 ≤ 127) (h1 : 1 ≤ x1) (h2 : x1 ≤ 11) (h3 : 0 ≤ x2) (h4 : ¬ x0 ≤ x2) : 1 ≤ x1 ∧ x1 ≤ 11 ∧ 0 ≤ x2 ∧ x2 ≤ 200 := by omega
theorem la_callWays_93 {x0 x1 : Int} (h0 : x0 = x1) (h1 : x1 = 1) : 1 + 1 ≤ 10 + x0 := by omega
theorem la_callWays_94 {x0 x1 x2 : Int} (h0 : x0 = x1) (h1 : 0 ≤ x2) (h2 : x1 = x2 + 2) : 1 + 1 ≤ 10 + x0 := by omega
theorem la_callWays_95 {x0 : Int} : x0 ≤ 0 → (0 : Int) = 0 ∨ (0 : Int) = 1 := by omega
theorem la_callWays_96 : (1 : Int) = 0 ∨ (1 : Int) = 1 := by omega
theorem la_callWays_97 {x0 : Int} : ¬ x0 = 0 → (0 : Int) = 0 ∨ (0 : Int) = 1 := by omega
theorem la_callWays_98 {x0 : Int} : x0 = 0 → (0 : Int) = 0 ∨ (0 : Int) = 1 := by omega
theorem la_callWays_99 {x0 : Int} (h0 : (-1) ≤ x0) (h1 : ¬ ¬ x0 = (-1)) : x0 = (-1) := by omega
theorem la_callWays_100 {x0 : Int} (h0 : x0 = 0) : 8 + 1 ≤ 10 + x0 := by omega
set_option maxHeartbeats 8000000 in
theorem f_callWays : ∀ (d : Int) (p1 : Int) (p2 : Int) (p3 : Int) (p4 : Int) (p5 : Int) (S : sv_S), sm_ok S → sv_R p1 → sv_R p2 → sv_R p3 → sv_R p4 → sv_R p5 → (29 ≤ (S 1071 0) ∧ (S 1071 0) ≤ 127 ∧ 31 ≤ (S 1008 0) ∧ (S 1008 0) ≤ 90 ∧ 1 ≤ (S 1032 0) ∧ (S 1032 0) ≤ 11 ∧ 0 ≤ (S 1055 0) ∧ (S 1055 0) ≤ 19 ∧ (S 1071 0) = 29 + 6 * ((S 1032 0) - 1) + 2 * (S 1055 0) ∧ 0 ≤ (S 1046 0) ∧ (S 1046 0) + 2 * (S 1032 0) ≤ 500 ∧ sm_PD (S 1046 0) (S 1032 0) (S 1071 0) (S 1008 0) ∧ 0 ≤ (S 1071 0) * ((S 1008 0) + 1) ∧ (S 1071 0) * ((S 1008 0) + 1) ≤ 11557 ∧ 31 ≤ (S 1007 0) ∧ (S 1007 0) ≤ 400 ∧ sm_LN (S 4) 400 (S 1007 0) ∧ (S 75 639) = 647340 ∧ sm_ST (S 71) (S 74) (S 75) (S 78) (S 79) (S 80) (S 27) (S 1100007) (S 1100023) (S 1100024) (S 1046 0) ((S 1046 0) + 2 * (S 1032 0)) (S 1127 0) ∧ 465000 ≤ (S 1127 0) ∧ (S 1127 0) + sm_hs (S 71) (S 1100007) ≤ 635000 ∧ sm_NH (S 1100007) ∧ sm_CT (S 26) (S 27) (S 28) (S 29) (S 1100007) (S 1100023) (S 1100024) (S 1100025) (S 21) (S 1046 0) (S 1032 0) (S 1008 0) (S 1055 0) ∧ (∀ k : Int, (S 1046 0) ≤ k → k < ((S 1046 0) + 2 * (S 1032 0)) → (S 1100007 k) = 1) ∧ sm_DR (S 72) (S 71) (S 1046 0) ∧ 0 ≤ (S 1148 0) ∧ (S 1148 0) < (S 1046 0) ∧ (S 71 (S 1148 0)) = 1 ∧ (∀ g : Int, 0 ≤ g → g < (S 1032 0) → 0 ≤ (S 30 g) ∧ (S 30 g) < (S 1046 0) ∧ (S 1100007 (S 30 g)) = 0 ∧ (S 1100023 (S 30 g)) = -1 ∧ 0 ≤ (S 33 g) ∧ (S 33 g) ≤ 100 ∧ 0 ≤ (S 20 g) ∧ (S 20 g) ≤ 8) ∧ sm_VN (S 32) (S 33) (S 1032 0) (S 1008 0) ∧ 0 ≤ (S 1147 0) ∧ (S 1147 0) ≤ 12 ∧ (∀ k : Int, 0 ≤ k → k < (S 1147 0) → 635639 ≤ (S 91 k) ∧ (S 91 k) < 647800) ∧ -1 ≤ p1 ∧ p1 ≤ 450 ∧ (¬ p1 = -1 → -1 ≤ p2 ∧ p2 ≤ 450 ∧ 0 ≤ p3 ∧ 0 ≤ p4 ∧ p4 ≤ 8 ∧ p3 + p4 + (if p2 = -1 then 0 else 1) ≤ 440) ∧ 1 ≤ p5 ∧ p5 ≤ (S 1100007 (S 1148 0)) ∧ (S 1100007 ((S 1148 0) + 1)) = (S 1100007 (S 1148 0)) - p5 + 1 ∧ (S 1148 0) + 1 < (S 1046 0) ∧ (S 1100023 ((S 1148 0) + 1)) = (S 1100023 (S 1148 0))) → ((if p1 = -1 then 0 else if p2 = -1 then 1 else p4 + 2)) = d → (((¬ p1 = (-1 : Int)) → ((sm_CT (S 26) (S 27) (S 28) (S 29) (S 1100007) (S 1100023) (S 1100024) (S 1100025) (S 21) (S 1046 0) (S 1032 0) (S 1008 0) (S 1055 0) → 0 ≤ (S 1148 0) → (S 1148 0) < (S 1046 0) → 0 ≤ (S 1100007 (S 1148 0)) ∧ (S 1100007 (S 1148 0)) ≤ 396 ∧ -1 ≤ (S 1100023 (S 1148 0)) ∧ (S 1100023 (S 1148 0)) < (S 1148 0)) → (sv_R (S 1148 0) → (29 ≤ (S 1071 0) ∧ (S 1071 0) ≤ 127 ∧ 31 ≤ (S 1008 0) ∧ (S 1008 0) ≤ 90 ∧ 1 ≤ (S 1032 0) ∧ (S 1032 0) ≤ 11 ∧ 0 ≤ (S 1055 0) ∧ (S 1055 0) ≤ 19 ∧ (S 1071 0) = 29 + 6 * ((S 1032 0) - 1) + 2 * (S 1055 0) ∧ 0 ≤ (S 1046 0) ∧ (S 1046 0) + 2 * (S 1032 0) ≤ 500 ∧ sm_PD (S 1046 0) (S 1032 0) (S 1071 0) (S 1008 0) ∧ 0 ≤ (S 1071 0) * ((S 1008 0) + 1) ∧ (S 1071 0) * ((S 1008 0) + 1) ≤ 11557 ∧ 31 ≤ (S 1007 0) ∧ (S 1007 0) ≤ 400 ∧ sm_LN (S 4) 400 (S 1007 0) ∧ (S 75 639) = 647340 ∧ sm_ST (S 71) (S 74) (S 75) (S 78) (S 79) (S 80) (S 27) (S 1100007) (S 1100023) (S 1100024) (S 1046 0) ((S 1046 0) + 2 * (S 1032 0)) (S 1127 0) ∧ 465000 ≤ (S 1127 0) ∧ (S 1127 0) + sm_hs (S 71) (S 1100007) ≤ 635000 ∧ sm_NH (S 1100007) ∧ sm_CT (S 26) (S 27) (S 28) (S 29) (S 1100007) (S 1100023) (S 1100024) (S 1100025) (S 21) (S 1046 0) (S 1032 0) (S 1008 0) (S 1055 0) ∧ (∀ k : Int, (S 1046 0) ≤ k → k < ((S 1046 0) + 2 * (S 1032 0)) → (S 1100007 k) = 1) ∧ sm_DR (S 72) (S 71) (S 1046 0) ∧ 0 ≤ (S 1148 0) ∧ (S 1148 0) < (S 1046 0) ∧ (S 71 (S 1148 0)) = 1) ∧ (3 + 1 ≤ ((10 + (if p1 = -1 then 0 else if p2 = -1 then 1 else p4 + 2)))) ∧ (∀ g5 : sv_S, (sm_pt (g5 68) (g5 69) (g5 70) = sm_pt (S 68) (S 69) (S 70) ∧ sm_pl (g5 81) (g5 82) (g5 83) (g5 84) (g5 85) (g5 86) = sm_pl (S 81) (S 82) (S 83) (S 84) (S 85) (S 86) ∧ sm_ps (g5 76) (g5 77) = sm_ps (S 76) (S 77) ∧ sm_ST (S 71) (g5 74) (S 75) (g5 78) (g5 79) (g5 80) (S 27) (S 1100007) (S 1100023) (S 1100024) (S 1046 0) ((S 1046 0) + 2 * (S 1032 0)) (S 1127 0) ∧ 0 ≤ (g5 74 639) ∧ (g5 74 639) ≤ 400 ∧ 0 ≤ (g5 78 639) ∧ (g5 78 639) ≤ 40 ∧ (g5 78 639) = sm_dp (S 1100024) (g5 1100031 0) ∧ -1 ≤ (g5 1100031 0) ∧ (g5 1100031 0) < (S 1046 0) ∧ (0 ≤ (g5 1100031 0) → (S 26 (g5 1100031 0)) = 27) ∧ sm_TC (g5 79) (g5 80) (S 27) (S 1100007) (S 1100023) (S 1100024) 25560 (g5 1100031 0) ∧ (g5 74 639) = (S 1100007 (S 1148 0)) ∧ (g5 1100031 0) = (S 1100023 (S 1148 0))) → (0 ≤ (639 : Int) ∧ (639 : Int) < 640 ∧ -1000 ≤ p1 ∧ p1 ≤ 1000 ∧ 0 ≤ (S 75 (639 : Int)) ∧ (S 75 (639 : Int)) ≤ 647800) ∧ (0 + 1 ≤ ((10 + (if p1 = -1 then 0 else if p2 = -1 then 1 else p4 + 2)))) ∧ (∀ r16 : Int, sv_R r16 → (r16 = (S 75 (639 : Int)) + p1) → (0 ≤ r16 ∧ r16 < 647800) ∧ (sv_RL (g5 69 r16) → (sv_RL (g5 70 r16) → ((∀ s20 : Int, sv_R s20 → (s20 = 0 ∨ s20 = 1) → ((0 ≤ (0 : Int) ∧ (0 : Int) ≤ (S 1071 0) ∧ (s20 = 0 ∨ s20 = 1) ∧ ((0 : Int) = 0 ∨ (0 : Int) = 1)) ∧ (∀ l11_22 : Int, sv_R l11_22 → ∀ l12_23 : Int, sv_R l12_23 → ∀ l13_24 : Int, sv_R l13_24 → (0 ≤ l13_24 ∧ l13_24 ≤ (S 1071 0) ∧ (l11_22 = 0 ∨ l11_22 = 1) ∧ (l12_23 = 0 ∨ l12_23 = 1)) → (0 ≤ (S 1071 0) - l13_24) ∧ (sv_R (S 1071 0) → ((((S 1071 0) ≤ l13_24) → ((∀ g29 : sv_S, (sm_ST (g29 71) (g29 74) (g29 75) (g29 78) (g29 79) (g29 80) (S 27) (S 1100007) (S 1100023) (S 1100024) (S 1046 0) ((S 1046 0) + 2 * (S 1032 0)) (g29 1127 0) ∧ 465000 ≤ (g29 1127 0) ∧ (g29 1127 0) + sm_hs (g29 71) (S 1100007) ≤ 635000 ∧ (g29 75 639) = 647340 ∧ (∀ k : Int, (S 71 k) = 1 → (g29 71 k) = 1) ∧ sm_DR (g29 72) (g29 71) (S 1046 0) ∧ (641 * (sm_cm (g29 71) + sm_pt (g29 68) (g29 69) (g29 70) + sm_pl (g29 81) (g29 82) (g29 83) (g29 84) (g29 85) (g29 86) + sm_ps (g29 76) (g29 77)) + sm_du (g29 72)) ≤ (641 * (sm_cm (S 71) + sm_pt (g5 68) (g5 69) (g5 70) + sm_pl (g5 81) (g5 82) (g5 83) (g5 84) (g5 85) (g5 86) + sm_ps (g5 76) (g5 77)) + sm_du (S 72)) ∧ 0 ≤ (g29 1147 0) ∧ (g29 1147 0) ≤ 12 ∧ (∀ k : Int, 0 ≤ k → k < (g29 1147 0) → 635639 ≤ (g29 91 k) ∧ (g29 91 k) < 647800)) → ((∀ g34 : sv_S, (sm_ST (g34 71) (g34 74) (g34 75) (g34 78) (g34 79) (g34 80) (S 27) (S 1100007) (S 1100023) (S 1100024) (S 1046 0) ((S 1046 0) + 2 * (S 1032 0)) (g34 1127 0) ∧ 465000 ≤ (g34 1127 0) ∧ (g34 1127 0) + sm_hs (g34 71) (S 1100007) ≤ 635000 ∧ (g34 75 639) = 647340 ∧ (∀ k : Int, (g29 71 k) = 1 → (g34 71 k) = 1) ∧ sm_DR (g34 72) (g34 71) (S 1046 0) ∧ (641 * (sm_cm (g34 71) + sm_pt (g34 68) (g34 69) (g34 70) + sm_pl (g34 81) (g34 82) (g34 83) (g34 84) (g34 85) (g34 86) + sm_ps (g34 76) (g34 77)) + sm_du (g34 72)) ≤ (641 * (sm_cm (g29 71) + sm_pt (g29 68) (g29 69) (g29 70) + sm_pl (g29 81) (g29 82) (g29 83) (g29 84) (g29 85) (g29 86) + sm_ps (g29 76) (g29 77)) + sm_du (g29 72)) ∧ 0 ≤ (g34 1147 0) ∧ (g34 1147 0) ≤ 12 ∧ (∀ k : Int, 0 ≤ k → k < (g34 1147 0) → 635639 ≤ (g34 91 k) ∧ (g34 91 k) < 647800)) → ((9 ≤ (9 : Int) ∧ (9 : Int) ≤ 23 ∧ sm_ST (g34 71) (g34 74) (g34 75) (g34 78) (g34 79) (g34 80) (S 27) (S 1100007) (S 1100023) (S 1100024) (S 1046 0) ((S 1046 0) + 2 * (S 1032 0)) (g34 1127 0) ∧ 465000 ≤ (g34 1127 0) ∧ (g34 1127 0) + sm_hs (g34 71) (S 1100007) ≤ 635000 ∧ (g34 75 639) = 647340 ∧ (∀ k : Int, (S 71 k) = 1 → (g34 71 k) = 1) ∧ sm_DR (g34 72) (g34 71) (S 1046 0) ∧ (641 * (sm_cm (g34 71) + sm_pt (g34 68) (g34 69) (g34 70) + sm_pl (g34 81) (g34 82) (g34 83) (g34 84) (g34 85) (g34 86) + sm_ps (g34 76) (g34 77)) + sm_du (g34 72)) ≤ (641 * (sm_cm (S 71) + sm_pt (S 68) (S 69) (S 70) + sm_pl (S 81) (S 82) (S 83) (S 84) (S 85) (S 86) + sm_ps (S 76) (S 77)) + sm_du (S 72)) ∧ 0 ≤ (g34 1147 0) ∧ (g34 1147 0) ≤ 12 ∧ (∀ k : Int, 0 ≤ k → k < (g34 1147 0) → 635639 ≤ (g34 91 k) ∧ (g34 91 k) < 647800)) ∧ (∀ l13_40 : Int, sv_R l13_40 → ∀ g39 : sv_S, (9 ≤ l13_40 ∧ l13_40 ≤ 23 ∧ sm_ST (g39 71) (g39 74) (g39 75) (g39 78) (g39 79) (g39 80) (S 27) (S 1100007) (S 1100023) (S 1100024) (S 1046 0) ((S 1046 0) + 2 * (S 1032 0)) (g39 1127 0) ∧ 465000 ≤ (g39 1127 0) ∧ (g39 1127 0) + sm_hs (g39 71) (S 1100007) ≤ 635000 ∧ (g39 75 639) = 647340 ∧ (∀ k : Int, (S 71 k) = 1 → (g39 71 k) = 1) ∧ sm_DR (g39 72) (g39 71) (S 1046 0) ∧ (641 * (sm_cm (g39 71) + sm_pt (g39 68) (g39 69) (g39 70) + sm_pl (g39 81) (g39 82) (g39 83) (g39 84) (g39 85) (g39 86) + sm_ps (g39 76) (g39 77)) + sm_du (g39 72)) ≤ (641 * (sm_cm (S 71) + sm_pt (S 68) (S 69) (S 70) + sm_pl (S 81) (S 82) (S 83) (S 84) (S 85) (S 86) + sm_ps (S 76) (S 77)) + sm_du (S 72)) ∧ 0 ≤ (g39 1147 0) ∧ (g39 1147 0) ≤ 12 ∧ (∀ k : Int, 0 ≤ k → k < (g39 1147 0) → 635639 ≤ (g39 91 k) ∧ (g39 91 k) < 647800)) → (0 ≤ 23 - l13_40) ∧ ((((23 : Int) ≤ l13_40) → ((1 ≤ (1 : Int) ∧ (1 : Int) ≤ (S 1032 0) ∧ sm_ST (g39 71) (g39 74) (g39 75) (g39 78) (g39 79) (g39 80) (S 27) (S 1100007) (S 1100023) (S 1100024) (S 1046 0) ((S 1046 0) + 2 * (S 1032 0)) (g39 1127 0) ∧ 465000 ≤ (g39 1127 0) ∧ (g39 1127 0) + sm_hs (g39 71) (S 1100007) ≤ 635000 ∧ (g39 75 639) = 647340 ∧ (∀ k : Int, (S 71 k) = 1 → (g39 71 k) = 1) ∧ sm_DR (g39 72) (g39 71) (S 1046 0) ∧ (641 * (sm_cm (g39 71) + sm_pt (g39 68) (g39 69) (g39 70) + sm_pl (g39 81) (g39 82) (g39 83) (g39 84) (g39 85) (g39 86) + sm_ps (g39 76) (g39 77)) + sm_du (g39 72)) ≤ (641 * (sm_cm (S 71) + sm_pt (S 68) (S 69) (S 70) + sm_pl (S 81) (S 82) (S 83) (S 84) (S 85) (S 86) + sm_ps (S 76) (S 77)) + sm_du (S 72)) ∧ 0 ≤ (g39 1147 0) ∧ (g39 1147 0) ≤ 12 ∧ (∀ k : Int, 0 ≤ k → k < (g39 1147 0) → 635639 ≤ (g39 91 k) ∧ (g39 91 k) < 647800)) ∧ (∀ l13_47 : Int, sv_R l13_47 → ∀ g46 : sv_S, (1 ≤ l13_47 ∧ l13_47 ≤ (S 1032 0) ∧ sm_ST (g46 71) (g46 74) (g46 75) (g46 78) (g46 79) (g46 80) (S 27) (S 1100007) (S 1100023) (S 1100024) (S 1046 0) ((S 1046 0) + 2 * (S 1032 0)) (g46 1127 0) ∧ 465000 ≤ (g46 1127 0) ∧ (g46 1127 0) + sm_hs (g46 71) (S 1100007) ≤ 635000 ∧ (g46 75 639) = 647340 ∧ (∀ k : Int, (S 71 k) = 1 → (g46 71 k) = 1) ∧ sm_DR (g46 72) (g46 71) (S 1046 0) ∧ (641 * (sm_cm (g46 71) + sm_pt (g46 68) (g46 69) (g46 70) + sm_pl (g46 81) (g46 82) (g46 83) (g46 84) (g46 85) (g46 86) + sm_ps (g46 76) (g46 77)) + sm_du (g46 72)) ≤ (641 * (sm_cm (S 71) + sm_pt (S 68) (S 69) (S 70) + sm_pl (S 81) (S 82) (S 83) (S 84) (S 85) (S 86) + sm_ps (S 76) (S 77)) + sm_du (S 72)) ∧ 0 ≤ (g46 1147 0) ∧ (g46 1147 0) ≤ 12 ∧ (∀ k : Int, 0 ≤ k → k < (g46 1147 0) → 635639 ≤ (g46 91 k) ∧ (g46 91 k) < 647800)) → (0 ≤ (S 1032 0) - l13_47) ∧ (sv_R (S 1032 0) → ((((S 1032 0) ≤ l13_47) → (sm_ST (g46 71) (g46 74) (g46 75) (g46 78) (g46 79) (g46 80) (S 27) (S 1100007) (S 1100023) (S 1100024) (S 1046 0) ((S 1046 0) + 2 * (S 1032 0)) (g46 1127 0) ∧ 465000 ≤ (g46 1127 0) ∧ (g46 1127 0) + sm_hs (g46 71) (S 1100007) ≤ 635000 ∧ (g46 75 639) = 647340 ∧ (∀ k : Int, (S 71 k) = 1 → (g46 71 k) = 1) ∧ sm_DR (g46 72) (g46 71) (S 1046 0) ∧ (641 * (sm_cm (g46 71) + sm_pt (g46 68) (g46 69) (g46 70) + sm_pl (g46 81) (g46 82) (g46 83) (g46 84) (g46 85) (g46 86) + sm_ps (g46 76) (g46 77)) + sm_du (g46 72)) ≤ (641 * (sm_cm (S 71) + sm_pt (S 68) (S 69) (S 70) + sm_pl (S 81) (S 82) (S 83) (S 84) (S 85) (S 86) + sm_ps (S 76) (S 77)) + sm_du (S 72)) ∧ 0 ≤ (g46 1147 0) ∧ (g46 1147 0) ≤ 12 ∧ (∀ k : Int, 0 ≤ k → k < (g46 1147 0) → 635639 ≤ (g46 91 k) ∧ (g46 91 k) < 647800))) ∧ ((¬ ((S 1032 0) ≤ l13_47)) → (29 ≤ (S 1071 0) ∧ (S 1071 0) ≤ 127 ∧ 31 ≤ (S 1008 0) ∧ (S 1008 0) ≤ 90 ∧ 1 ≤ (S 1032 0) ∧ (S 1032 0) ≤ 11 ∧ 0 ≤ (S 1055 0) ∧ (S 1055 0) ≤ 19 ∧ (S 1071 0) = 29 + 6 * ((S 1032 0) - 1) + 2 * (S 1055 0) ∧ 0 ≤ (S 1046 0) ∧ (S 1046 0) + 2 * (S 1032 0) ≤ 500 ∧ sm_PD (S 1046 0) (S 1032 0) (S 1071 0) (S 1008 0) ∧ 0 ≤ (S 1071 0) * ((S 1008 0) + 1) ∧ (S 1071 0) * ((S 1008 0) + 1) ≤ 11557 ∧ 31 ≤ (S 1007 0) ∧ (S 1007 0) ≤ 400 ∧ sm_LN (S 4) 400 (S 1007 0) ∧ (g46 75 639) = 647340 ∧ sm_ST (g46 71) (g46 74) (g46 75) (g46 78) (g46 79) (g46 80) (S 27) (S 1100007) (S 1100023) (S 1100024) (S 1046 0) ((S 1046 0) + 2 * (S 1032 0)) (g46 1127 0) ∧ 465000 ≤ (g46 1127 0) ∧ (g46 1127 0) + sm_hs (g46 71) (S 1100007) ≤ 635000 ∧ sm_NH (S 1100007) ∧ sm_CT (S 26) (S 27) (S 28) (S 29) (S 1100007) (S 1100023) (S 1100024) (S 1100025) (S 21) (S 1046 0) (S 1032 0) (S 1008 0) (S 1055 0) ∧ (∀ k : Int, (S 1046 0) ≤ k → k < ((S 1046 0) + 2 * (S 1032 0)) → (S 1100007 k) = 1) ∧ sm_DR (g46 72) (g46 71) (S 1046 0) ∧ 0 ≤ (S 1148 0) ∧ (S 1148 0) < (S 1046 0) ∧ (g46 71 (S 1148 0)) = 1 ∧ (∀ g : Int, 0 ≤ g → g < (S 1032 0) → 0 ≤ (S 30 g) ∧ (S 30 g) < (S 1046 0) ∧ (S 1100007 (S 30 g)) = 0 ∧ (S 1100023 (S 30 g)) = -1 ∧ 0 ≤ (S 33 g) ∧ (S 33 g) ≤ 100 ∧ 0 ≤ (S 20 g) ∧ (S 20 g) ≤ 8) ∧ sm_VN (S 32) (S 33) (S 1032 0) (S 1008 0) ∧ 0 ≤ (g46 1147 0) ∧ (g46 1147 0) ≤ 12 ∧ (∀ k : Int, 0 ≤ k → k < (g46 1147 0) → 635639 ≤ (g46 91 k) ∧ (g46 91 k) < 647800) ∧ 1 ≤ l13_47 ∧ l13_47 < (S 1032 0) ∧ -1 ≤ p2 ∧ p2 ≤ 450 ∧ 0 ≤ p3 ∧ p3 ≤ 450 ∧ 0 ≤ p4 ∧ p4 ≤ 8 ∧ 1 ≤ p5 ∧ p5 ≤ (S 1100007 (S 1148 0)) ∧ (S 1100007 ((S 1148 0) + 1)) = (S 1100007 (S 1148 0)) - p5 + 1 ∧ (S 1148 0) + 1 < (S 1046 0) ∧ (S 1100023 ((S 1148 0) + 1)) = (S 1100023 (S 1148 0)) ∧ -1 ≤ (-1 : Int) ∧ (-1 : Int) < (S 1055 0)) ∧ (6 + 1 ≤ ((10 + (if p1 = -1 then 0 else if p2 = -1 then 1 else p4 + 2)))) ∧ (∀ g57 : sv_S, (sm_ST (g57 71) (g57 74) (g57 75) (g57 78) (g57 79) (g57 80) (S 27) (S 1100007) (S 1100023) (S 1100024) (S 1046 0) ((S 1046 0) + 2 * (S 1032 0)) (g57 1127 0) ∧ 465000 ≤ (g57 1127 0) ∧ (g57 1127 0) + sm_hs (g57 71) (S 1100007) ≤ 635000 ∧ (g57 75 639) = 647340 ∧ (∀ k : Int, (g46 71 k) = 1 → (g57 71 k) = 1) ∧ sm_DR (g57 72) (g57 71) (S 1046 0) ∧ (641 * (sm_cm (g57 71) + sm_pt (g57 68) (g57 69) (g57 70) + sm_pl (g57 81) (g57 82) (g57 83) (g57 84) (g57 85) (g57 86) + sm_ps (g57 76) (g57 77)) + sm_du (g57 72)) ≤ (641 * (sm_cm (g46 71) + sm_pt (g46 68) (g46 69) (g46 70) + sm_pl (g46 81) (g46 82) (g46 83) (g46 84) (g46 85) (g46 86) + sm_ps (g46 76) (g46 77)) + sm_du (g46 72)) ∧ 0 ≤ (g57 1147 0) ∧ (g57 1147 0) ≤ 12 ∧ (∀ k : Int, 0 ≤ k → k < (g57 1147 0) → 635639 ≤ (g57 91 k) ∧ (g57 91 k) < 647800)) → (sv_R (l13_47 + (1 : Int))) ∧ ((1 ≤ (l13_47 + (1 : Int)) ∧ (l13_47 + (1 : Int)) ≤ (S 1032 0) ∧ sm_ST (g57 71) (g57 74) (g57 75) (g57 78) (g57 79) (g57 80) (S 27) (S 1100007) (S 1100023) (S 1100024) (S 1046 0) ((S 1046 0) + 2 * (S 1032 0)) (g57 1127 0) ∧ 465000 ≤ (g57 1127 0) ∧ (g57 1127 0) + sm_hs (g57 71) (S 1100007) ≤ 635000 ∧ (g57 75 639) = 647340 ∧ (∀ k : Int, (S 71 k) = 1 → (g57 71 k) = 1) ∧ sm_DR (g57 72) (g57 71) (S 1046 0) ∧ (641 * (sm_cm (g57 71) + sm_pt (g57 68) (g57 69) (g57 70) + sm_pl (g57 81) (g57 82) (g57 83) (g57 84) (g57 85) (g57 86) + sm_ps (g57 76) (g57 77)) + sm_du (g57 72)) ≤ (641 * (sm_cm (S 71) + sm_pt (S 68) (S 69) (S 70) + sm_pl (S 81) (S 82) (S 83) (S 84) (S 85) (S 86) + sm_ps (S 76) (S 77)) + sm_du (S 72)) ∧ 0 ≤ (g57 1147 0) ∧ (g57 1147 0) ≤ 12 ∧ (∀ k : Int, 0 ≤ k → k < (g57 1147 0) → 635639 ≤ (g57 91 k) ∧ (g57 91 k) < 647800)) ∧ ((S 1032 0) - (l13_47 + (1 : Int))) < ((S 1032 0) - l13_47))))))))) ∧ ((¬ ((23 : Int) ≤ l13_40)) → (0 ≤ l13_40 ∧ l13_40 < 128) ∧ (∀ r70 : Int, sv_R r70 → (r70 = sm_in (g5 69 r16) (g5 70 r16) l13_40 ∧ (r70 = 0 ∨ r70 = 1)) → (((¬ r70 = (0 : Int)) → (((¬ l13_40 = (20 : Int)) → (29 ≤ (S 1071 0) ∧ (S 1071 0) ≤ 127 ∧ 31 ≤ (S 1008 0) ∧ (S 1008 0) ≤ 90 ∧ 1 ≤ (S 1032 0) ∧ (S 1032 0) ≤ 11 ∧ 0 ≤ (S 1055 0) ∧ (S 1055 0) ≤ 19 ∧ (S 1071 0) = 29 + 6 * ((S 1032 0) - 1) + 2 * (S 1055 0) ∧ 0 ≤ (S 1046 0) ∧ (S 1046 0) + 2 * (S 1032 0) ≤ 500 ∧ sm_PD (S 1046 0) (S 1032 0) (S 1071 0) (S 1008 0) ∧ 0 ≤ (S 1071 0) * ((S 1008 0) + 1) ∧ (S 1071 0) * ((S 1008 0) + 1) ≤ 11557 ∧ 31 ≤ (S 1007 0) ∧ (S 1007 0) ≤ 400 ∧ sm_LN (S 4) 400 (S 1007 0) ∧ (g39 75 639) = 647340 ∧ sm_ST (g39 71) (g39 74) (g39 75) (g39 78) (g39 79) (g39 80) (S 27) (S 1100007) (S 1100023) (S 1100024) (S 1046 0) ((S 1046 0) + 2 * (S 1032 0)) (g39 1127 0) ∧ 465000 ≤ (g39 1127 0) ∧ (g39 1127 0) + sm_hs (g39 71) (S 1100007) ≤ 635000 ∧ sm_NH (S 1100007) ∧ sm_CT (S 26) (S 27) (S 28) (S 29) (S 1100007) (S 1100023) (S 1100024) (S 1100025) (S 21) (S 1046 0) (S 1032 0) (S 1008 0) (S 1055 0) ∧ (∀ k : Int, (S 1046 0) ≤ k → k < ((S 1046 0) + 2 * (S 1032 0)) → (S 1100007 k) = 1) ∧ sm_DR (g39 72) (g39 71) (S 1046 0) ∧ 0 ≤ (S 1148 0) ∧ (S 1148 0) < (S 1046 0) ∧ (g39 71 (S 1148 0)) = 1 ∧ 9 ≤ l13_40 ∧ l13_40 ≤ 22 ∧ ¬ l13_40 = 20 ∧ -1 ≤ p2 ∧ p2 ≤ 450 ∧ 0 ≤ p3 ∧ p3 ≤ 450 ∧ 0 ≤ p4 ∧ p4 ≤ 8 ∧ 1 ≤ p5 ∧ p5 ≤ (S 1100007 (S 1148 0)) ∧ (S 1100007 ((S 1148 0) + 1)) = (S 1100007 (S 1148 0)) - p5 + 1 ∧ (S 1148 0) + 1 < (S 1046 0) ∧ (S 1100023 ((S 1148 0) + 1)) = (S 1100023 (S 1148 0))) ∧ (9 + 1 ≤ ((10 + (if p1 = -1 then 0 else if p2 = -1 then 1 else p4 + 2)))) ∧ (∀ g73 : sv_S, (sm_ST (g73 71) (g73 74) (g73 75) (g73 78) (g73 79) (g73 80) (S 27) (S 1100007) (S 1100023) (S 1100024) (S 1046 0) ((S 1046 0) + 2 * (S 1032 0)) (g73 1127 0) ∧ 465000 ≤ (g73 1127 0) ∧ (g73 1127 0) + sm_hs (g73 71) (S 1100007) ≤ 635000 ∧ (g73 75 639) = 647340 ∧ (∀ k : Int, (g39 71 k) = 1 → (g73 71 k) = 1) ∧ sm_DR (g73 72) (g73 71) (S 1046 0) ∧ (641 * (sm_cm (g73 71) + sm_pt (g73 68) (g73 69) (g73 70) + sm_pl (g73 81) (g73 82) (g73 83) (g73 84) (g73 85) (g73 86) + sm_ps (g73 76) (g73 77)) + sm_du (g73 72)) ≤ (641 * (sm_cm (g39 71) + sm_pt (g39 68) (g39 69) (g39 70) + sm_pl (g39 81) (g39 82) (g39 83) (g39 84) (g39 85) (g39 86) + sm_ps (g39 76) (g39 77)) + sm_du (g39 72))) → (sv_R (l13_40 + (1 : Int))) ∧ ((9 ≤ (l13_40 + (1 : Int)) ∧ (l13_40 + (1 : Int)) ≤ 23 ∧ sm_ST (g73 71) (g73 74) (g73 75) (g73 78) (g73 79) (g73 80) (S 27) (S 1100007) (S 1100023) (S 1100024) (S 1046 0) ((S 1046 0) + 2 * (S 1032 0)) (g73 1127 0) ∧ 465000 ≤ (g73 1127 0) ∧ (g73 1127 0) + sm_hs (g73 71) (S 1100007) ≤ 635000 ∧ (g73 75 639) = 647340 ∧ (∀ k : Int, (S 71 k) = 1 → (g73 71 k) = 1) ∧ sm_DR (g73 72) (g73 71) (S 1046 0) ∧ (641 * (sm_cm (g73 71) + sm_pt (g73 68) (g73 69) (g73 70) + sm_pl (g73 81) (g73 82) (g73 83) (g73 84) (g73 85) (g73 86) + sm_ps (g73 76) (g73 77)) + sm_du (g73 72)) ≤ (641 * (sm_cm (S 71) + sm_pt (S 68) (S 69) (S 70) + sm_pl (S 81) (S 82) (S 83) (S 84) (S 85) (S 86) + sm_ps (S 76) (S 77)) + sm_du (S 72)) ∧ 0 ≤ (g39 1147 0) ∧ (g39 1147 0) ≤ 12 ∧ (∀ k : Int, 0 ≤ k → k < (g39 1147 0) → 635639 ≤ (g39 91 k) ∧ (g39 91 k) < 647800)) ∧ (23 - (l13_40 + (1 : Int))) < (23 - l13_40)))) ∧ ((¬ (¬ l13_40 = (20 : Int))) → (((p4 ≤ (0 : Int)) → (((p4 ≤ (0 : Int)) → (sv_R (p3 + (1 : Int))) ∧ (29 ≤ (S 1071 0) ∧ (S 1071 0) ≤ 127 ∧ 31 ≤ (S 1008 0) ∧ (S 1008 0) ≤ 90 ∧ 1 ≤ (S 1032 0) ∧ (S 1032 0) ≤ 11 ∧ 0 ≤ (S 1055 0) ∧ (S 1055 0) ≤ 19 ∧ (S 1071 0) = 29 + 6 * ((S 1032 0) - 1) + 2 * (S 1055 0) ∧ 0 ≤ (S 1046 0) ∧ (S 1046 0) + 2 * (S 1032 0) ≤ 500 ∧ sm_PD (S 1046 0) (S 1032 0) (S 1071 0) (S 1008 0) ∧ 0 ≤ (S 1071 0) * ((S 1008 0) + 1) ∧ (S 1071 0) * ((S 1008 0) + 1) ≤ 11557 ∧ 31 ≤ (S 1007 0) ∧ (S 1007 0) ≤ 400 ∧ sm_LN (S 4) 400 (S 1007 0) ∧ (g39 75 639) = 647340 ∧ sm_ST (g39 71) (g39 74) (g39 75) (g39 78) (g39 79) (g39 80) (S 27) (S 1100007) (S 1100023) (S 1100024) (S 1046 0) ((S 1046 0) + 2 * (S 1032 0)) (g39 1127 0) ∧ 465000 ≤ (g39 1127 0) ∧ (g39 1127 0) + sm_hs (g39 71) (S 1100007) ≤ 635000 ∧ sm_NH (S 1100007) ∧ sm_CT (S 26) (S 27) (S 28) (S 29) (S 1100007) (S 1100023) (S 1100024) (S 1100025) (S 21) (S 1046 0) (S 1032 0) (S 1008 0) (S 1055 0) ∧ (∀ k : Int, (S 1046 0) ≤ k → k < ((S 1046 0) + 2 * (S 1032 0)) → (S 1100007 k) = 1) ∧ sm_DR (g39 72) (g39 71) (S 1046 0) ∧ 0 ≤ (S 1148 0) ∧ (S 1148 0) < (S 1046 0) ∧ (g39 71 (S 1148 0)) = 1 ∧ (∀ g : Int, 0 ≤ g → g < (S 1032 0) → 0 ≤ (S 30 g) ∧ (S 30 g) < (S 1046 0) ∧ (S 1100007 (S 30 g)) = 0 ∧ (S 1100023 (S 30 g)) = -1 ∧ 0 ≤ (S 33 g) ∧ (S 33 g) ≤ 100 ∧ 0 ≤ (S 20 g) ∧ (S 20 g) ≤ 8) ∧ sm_VN (S 32) (S 33) (S 1032 0) (S 1008 0) ∧ 0 ≤ (g39 1147 0) ∧ (g39 1147 0) ≤ 12 ∧ (∀ k : Int, 0 ≤ k → k < (g39 1147 0) → 635639 ≤ (g39 91 k) ∧ (g39 91 k) < 647800) ∧ -1 ≤ p2 ∧ p2 ≤ 450 ∧ (¬ p2 = -1 → -1 ≤ (-1 : Int) ∧ (-1 : Int) ≤ 450 ∧ 0 ≤ (p3 + (1 : Int)) ∧ 0 ≤ (0 : Int) ∧ (0 : Int) ≤ 8 ∧ (p3 + (1 : Int)) + (0 : Int) + (if (-1 : Int) = -1 then 0 else 1) ≤ 440) ∧ 1 ≤ p5 ∧ p5 ≤ (S 1100007 (S 1148 0)) ∧ (S 1100007 ((S 1148 0) + 1)) = (S 1100007 (S 1148 0)) - p5 + 1 ∧ (S 1148 0) + 1 < (S 1046 0) ∧ (S 1100023 ((S 1148 0) + 1)) = (S 1100023 (S 1148 0))) ∧ (0 ≤ ((if p2 = -1 then 0 else if (-1 : Int) = -1 then 1 else (0 : Int) + 2)) ∧ ((if p2 = -1 then 0 else if (-1 : Int) = -1 then 1 else (0 : Int) + 2)) < d) ∧ (0 ≤ ((10 + (if p2 = -1 then 0 else if (-1 : Int) = -1 then 1 else (0 : Int) + 2))) ∧ ((10 + (if p2 = -1 then 0 else if (-1 : Int) = -1 then 1 else (0 : Int) + 2))) + 1 ≤ ((10 + (if p1 = -1 then 0 else if p2 = -1 then 1 else p4 + 2)))) ∧ (∀ g84 : sv_S, (sm_ST (g84 71) (g84 74) (g84 75) (g84 78) (g84 79) (g84 80) (S 27) (S 1100007) (S 1100023) (S 1100024) (S 1046 0) ((S 1046 0) + 2 * (S 1032 0)) (g84 1127 0) ∧ 465000 ≤ (g84 1127 0) ∧ (g84 1127 0) + sm_hs (g84 71) (S 1100007) ≤ 635000 ∧ (g84 75 639) = 647340 ∧ (∀ k : Int, (g39 71 k) = 1 → (g84 71 k) = 1) ∧ sm_DR (g84 72) (g84 71) (S 1046 0) ∧ (641 * (sm_cm (g84 71) + sm_pt (g84 68) (g84 69) (g84 70) + sm_pl (g84 81) (g84 82) (g84 83) (g84 84) (g84 85) (g84 86) + sm_ps (g84 76) (g84 77)) + sm_du (g84 72)) ≤ (641 * (sm_cm (g39 71) + sm_pt (g39 68) (g39 69) (g39 70) + sm_pl (g39 81) (g39 82) (g39 83) (g39 84) (g39 85) (g39 86) + sm_ps (g39 76) (g39 77)) + sm_du (g39 72)) ∧ 0 ≤ (g84 1147 0) ∧ (g84 1147 0) ≤ 12 ∧ (∀ k : Int, 0 ≤ k → k < (g84 1147 0) → 635639 ≤ (g84 91 k) ∧ (g84 91 k) < 647800)) → (sv_R (l13_40 + (1 : Int))) ∧ ((9 ≤ (l13_40 + (1 : Int)) ∧ (l13_40 + (1 : Int)) ≤ 23 ∧ sm_ST (g84 71) (g84 74) (g84 75) (g84 78) (g84 79) (g84 80) (S 27) (S 1100007) (S 1100023) (S 1100024) (S 1046 0) ((S 1046 0) + 2 * (S 1032 0)) (g84 1127 0) ∧ 465000 ≤ (g84 1127 0) ∧ (g84 1127 0) + sm_hs (g84 71) (S 1100007) ≤ 635000 ∧ (g84 75 639) = 647340 ∧ (∀ k : Int, (S 71 k) = 1 → (g84 71 k) = 1) ∧ sm_DR (g84 72) (g84 71) (S 1046 0) ∧ (641 * (sm_cm (g84 71) + sm_pt (g84 68) (g84 69) (g84 70) + sm_pl (g84 81) (g84 82) (g84 83) (g84 84) (g84 85) (g84 86) + sm_ps (g84 76) (g84 77)) + sm_du (g84 72)) ≤ (641 * (sm_cm (S 71) + sm_pt (S 68) (S 69) (S 70) + sm_pl (S 81) (S 82) (S 83) (S 84) (S 85) (S 86) + sm_ps (S 76) (S 77)) + sm_du (S 72)) ∧ 0 ≤ (g84 1147 0) ∧ (g84 1147 0) ≤ 12 ∧ (∀ k : Int, 0 ≤ k → k < (g84 1147 0) → 635639 ≤ (g84 91 k) ∧ (g84 91 k) < 647800)) ∧ (23 - (l13_40 + (1 : Int))) < (23 - l13_40)))) ∧ ((¬ (p4 ≤ (0 : Int))) → (sv_R (p3 + (1 : Int))) ∧ (sv_R (p4 - (1 : Int))) ∧ (29 ≤ (S 1071 0) ∧ (S 1071 0) ≤ 127 ∧ 31 ≤ (S 1008 0) ∧ (S 1008 0) ≤ 90 ∧ 1 ≤ (S 1032 0) ∧ (S 1032 0) ≤ 11 ∧ 0 ≤ (S 1055 0) ∧ (S 1055 0) ≤ 19 ∧ (S 1071 0) = 29 + 6 * ((S 1032 0) - 1) + 2 * (S 1055 0) ∧ 0 ≤ (S 1046 0) ∧ (S 1046 0) + 2 * (S 1032 0) ≤ 500 ∧ sm_PD (S 1046 0) (S 1032 0) (S 1071 0) (S 1008 0) ∧ 0 ≤ (S 1071 0) * ((S 1008 0) + 1) ∧ (S 1071 0) * ((S 1008 0) + 1) ≤ 11557 ∧ 31 ≤ (S 1007 0) ∧ (S 1007 0) ≤ 400 ∧ sm_LN (S 4) 400 (S 1007 0) ∧ (g39 75 639) = 647340 ∧ sm_ST (g39 71) (g39 74) (g39 75) (g39 78) (g39 79) (g39 80) (S 27) (S 1100007) (S 1100023) (S 1100024) (S 1046 0) ((S 1046 0) + 2 * (S 1032 0)) (g39 1127 0) ∧ 465000 ≤ (g39 1127 0) ∧ (g39 1127 0) + sm_hs (g39 71) (S 1100007) ≤ 635000 ∧ sm_NH (S 1100007) ∧ sm_CT (S 26) (S 27) (S 28) (S 29) (S 1100007) (S 1100023) (S 1100024) (S 1100025) (S 21) (S 1046 0) (S 1032 0) (S 1008 0) (S 1055 0) ∧ (∀ k : Int, (S 1046 0) ≤ k → k < ((S 1046 0) + 2 * (S 1032 0)) → (S 1100007 k) = 1) ∧ sm_DR (g39 72) (g39 71) (S 1046 0) ∧ 0 ≤ (S 1148 0) ∧ (S 1148 0) < (S 1046 0) ∧ (g39 71 (S 1148 0)) = 1 ∧ (∀ g : Int, 0 ≤ g → g < (S 1032 0) → 0 ≤ (S 30 g) ∧ (S 30 g) < (S 1046 0) ∧ (S 1100007 (S 30 g)) = 0 ∧ (S 1100023 (S 30 g)) = -1 ∧ 0 ≤ (S 33 g) ∧ (S 33 g) ≤ 100 ∧ 0 ≤ (S 20 g) ∧ (S 20 g) ≤ 8) ∧ sm_VN (S 32) (S 33) (S 1032 0) (S 1008 0) ∧ 0 ≤ (g39 1147 0) ∧ (g39 1147 0) ≤ 12 ∧ (∀ k : Int, 0 ≤ k → k < (g39 1147 0) → 635639 ≤ (g39 91 k) ∧ (g39 91 k) < 647800) ∧ -1 ≤ p2 ∧ p2 ≤ 450 ∧ (¬ p2 = -1 → -1 ≤ (-1 : Int) ∧ (-1 : Int) ≤ 450 ∧ 0 ≤ (p3 + (1 : Int)) ∧ 0 ≤ (p4 - (1 : Int)) ∧ (p4 - (1 : Int)) ≤ 8 ∧ (p3 + (1 : Int)) + (p4 - (1 : Int)) + (if (-1 : Int) = -1 then 0 else 1) ≤ 440) ∧ 1 ≤ p5 ∧ p5 ≤ (S 1100007 (S 1148 0)) ∧ (S 1100007 ((S 1148 0) + 1)) = (S 1100007 (S 1148 0)) - p5 + 1 ∧ (S 1148 0) + 1 < (S 1046 0) ∧ (S 1100023 ((S 1148 0) + 1)) = (S 1100023 (S 1148 0))) ∧ (0 ≤ ((if p2 = -1 then 0 else if (-1 : Int) = -1 then 1 else (p4 - (1 : Int)) + 2)) ∧ ((if p2 = -1 then 0 else if (-1 : Int) = -1 then 1 else (p4 - (1 : Int)) + 2)) < d) ∧ (0 ≤ ((10 + (if p2 = -1 then 0 else if (-1 : Int) = -1 then 1 else (p4 - (1 : Int)) + 2))) ∧ ((10 + (if p2 = -1 then 0 else if (-1 : Int) = -1 then 1 else (p4 - (1 : Int)) + 2))) + 1 ≤ ((10 + (if p1 = -1 then 0 else if p2 = -1 then 1 else p4 + 2)))) ∧ (∀ g96 : sv_S, (sm_ST (g96 71) (g96 74) (g96 75) (g96 78) (g96 79) (g96 80) (S 27) (S 1100007) (S 1100023) (S 1100024) (S 1046 0) ((S 1046 0) + 2 * (S 1032 0)) (g96 1127 0) ∧ 465000 ≤ (g96 1127 0) ∧ (g96 1127 0) + sm_hs (g96 71) (S 1100007) ≤ 635000 ∧ (g96 75 639) = 647340 ∧ (∀ k : Int, (g39 71 k) = 1 → (g96 71 k) = 1) ∧ sm_DR (g96 72) (g96 71) (S 1046 0) ∧ (641 * (sm_cm (g96 71) + sm_pt (g96 68) (g96 69) (g96 70) + sm_pl (g96 81) (g96 82) (g96 83) (g96 84) (g96 85) (g96 86) + sm_ps (g96 76) (g96 77)) + sm_du (g96 72)) ≤ (641 * (sm_cm (g39 71) + sm_pt (g39 68) (g39 69) (g39 70) + sm_pl (g39 81) (g39 82) (g39 83) (g39 84) (g39 85) (g39 86) + sm_ps (g39 76) (g39 77)) + sm_du (g39 72)) ∧ 0 ≤ (g96 1147 0) ∧ (g96 1147 0) ≤ 12 ∧ (∀ k : Int, 0 ≤ k → k < (g96 1147 0) → 635639 ≤ (g96 91 k) ∧ (g96 91 k) < 647800)) → (sv_R (l13_40 + (1 : Int))) ∧ ((9 ≤ (l13_40 + (1 : Int)) ∧ (l13_40 + (1 : Int)) ≤ 23 ∧ sm_ST (g96 71) (g96 74) (g96 75) (g96 78) (g96 79) (g96 80) (S 27) (S 1100007) (S 1100023) (S 1100024) (S 1046 0) ((S 1046 0) + 2 * (S 1032 0)) (g96 1127 0) ∧ 465000 ≤ (g96 1127 0) ∧ (g96 1127 0) + sm_hs (g96 71) (S 1100007) ≤ 635000 ∧ (g96 75 639) = 647340 ∧ (∀ k : Int, (S 71 k) = 1 → (g96 71 k) = 1) ∧ sm_DR (g96 72) (g96 71) (S 1046 0) ∧ (641 * (sm_cm (g96 71) + sm_pt (g96 68) (g96 69) (g96 70) + sm_pl (g96 81) (g96 82) (g96 83) (g96 84) (g96 85) (g96 86) + sm_ps (g96 76) (g96 77)) + sm_du (g96 72)) ≤ (641 * (sm_cm (S 71) + sm_pt (S 68) (S 69) (S 70) + sm_pl (S 81) (S 82) (S 83) (S 84) (S 85) (S 86) + sm_ps (S 76) (S 77)) + sm_du (S 72)) ∧ 0 ≤ (g96 1147 0) ∧ (g96 1147 0) ≤ 12 ∧ (∀ k : Int, 0 ≤ k → k < (g96 1147 0) → 635639 ≤ (g96 91 k) ∧ (g96 91 k) < 647800)) ∧ (23 - (l13_40 + (1 : Int))) < (23 - l13_40)))))) ∧ ((¬ (p4 ≤ (0 : Int))) → (((p4 ≤ (0 : Int)) → (sv_R (p3 + (1 : Int))) ∧ (29 ≤ (S 1071 0) ∧ (S 1071 0) ≤ 127 ∧ 31 ≤ (S 1008 0) ∧ (S 1008 0) ≤ 90 ∧ 1 ≤ (S 1032 0) ∧ (S 1032 0) ≤ 11 ∧ 0 ≤ (S 1055 0) ∧ (S 1055 0) ≤ 19 ∧ (S 1071 0) = 29 + 6 * ((S 1032 0) - 1) + 2 * (S 1055 0) ∧ 0 ≤ (S 1046 0) ∧ (S 1046 0) + 2 * (S 1032 0) ≤ 500 ∧ sm_PD (S 1046 0) (S 1032 0) (S 1071 0) (S 1008 0) ∧ 0 ≤ (S 1071 0) * ((S 1008 0) + 1) ∧ (S 1071 0) * ((S 1008 0) + 1) ≤ 11557 ∧ 31 ≤ (S 1007 0) ∧ (S 1007 0) ≤ 400 ∧ sm_LN (S 4) 400 (S 1007 0) ∧ (g39 75 639) = 647340 ∧ sm_ST (g39 71) (g39 74) (g39 75) (g39 78) (g39 79) (g39 80) (S 27) (S 1100007) (S 1100023) (S 1100024) (S 1046 0) ((S 1046 0) + 2 * (S 1032 0)) (g39 1127 0) ∧ 465000 ≤ (g39 1127 0) ∧ (g39 1127 0) + sm_hs (g39 71) (S 1100007) ≤ 635000 ∧ sm_NH (S 1100007) ∧ sm_CT (S 26) (S 27) (S 28) (S 29) (S 1100007) (S 1100023) (S 1100024) (S 1100025) (S 21) (S 1046 0) (S 1032 0) (S 1008 0) (S 1055 0) ∧ (∀ k : Int, (S 1046 0) ≤ k → k < ((S 1046 0) + 2 * (S 1032 0)) → (S 1100007 k) = 1) ∧ sm_DR (g39 72) (g39 71) (S 1046 0) ∧ 0 ≤ (S 1148 0) ∧ (S 1148 0) < (S 1046 0) ∧ (g39 71 (S 1148 0)) = 1 ∧ (∀ g : Int, 0 ≤ g → g < (S 1032 0) → 0 ≤ (S 30 g) ∧ (S 30 g) < (S 1046 0) ∧ (S 1100007 (S 30 g)) = 0 ∧ (S 1100023 (S 30 g)) = -1 ∧ 0 ≤ (S 33 g) ∧ (S 33 g) ≤ 100 ∧ 0 ≤ (S 20 g) ∧ (S 20 g) ≤ 8) ∧ sm_VN (S 32) (S 33) (S 1032 0) (S 1008 0) ∧ 0 ≤ (g39 1147 0) ∧ (g39 1147 0) ≤ 12 ∧ (∀ k : Int, 0 ≤ k → k < (g39 1147 0) → 635639 ≤ (g39 91 k) ∧ (g39 91 k) < 647800) ∧ -1 ≤ p2 ∧ p2 ≤ 450 ∧ (¬ p2 = -1 → -1 ≤ p3 ∧ p3 ≤ 450 ∧ 0 ≤ (p3 + (1 : Int)) ∧ 0 ≤ (0 : Int) ∧ (0 : Int) ≤ 8 ∧ (p3 + (1 : Int)) + (0 : Int) + (if p3 = -1 then 0 else 1) ≤ 440) ∧ 1 ≤ p5 ∧ p5 ≤ (S 1100007 (S 1148 0)) ∧ (S 1100007 ((S 1148 0) + 1)) = (S 1100007 (S 1148 0)) - p5 + 1 ∧ (S 1148 0) + 1 < (S 1046 0) ∧ (S 1100023 ((S 1148 0) + 1)) = (S 1100023 (S 1148 0))) ∧ (0 ≤ ((if p2 = -1 then 0 else if p3 = -1 then 1 else (0 : Int) + 2)) ∧ ((if p2 = -1 then 0 else if p3 = -1 then 1 else (0 : Int) + 2)) < d) ∧ (0 ≤ ((10 + (if p2 = -1 then 0 else if p3 = -1 then 1 else (0 : Int) + 2))) ∧ ((10 + (if p2 = -1 then 0 else if p3 = -1 then 1 else (0 : Int) + 2))) + 1 ≤ ((10 + (if p1 = -1 then 0 else if p2 = -1 then 1 else p4 + 2)))) ∧ (∀ g107 : sv_S, (sm_ST (g107 71) (g107 74) (g107 75) (g107 78) (g107 79) (g107 80) (S 27) (S 1100007) (S 1100023) (S 1100024) (S 1046 0) ((S 1046 0) + 2 * (S 1032 0)) (g107 1127 0) ∧ 465000 ≤ (g107 1127 0) ∧ (g107 1127 0) + sm_hs (g107 71) (S 1100007) ≤ 635000 ∧ (g107 75 639) = 647340 ∧ (∀ k : Int, (g39 71 k) = 1 → (g107 71 k) = 1) ∧ sm_DR (g107 72) (g107 71) (S 1046 0) ∧ (641 * (sm_cm (g107 71) + sm_pt (g107 68) (g107 69) (g107 70) + sm_pl (g107 81) (g107 82) (g107 83) (g107 84) (g107 85) (g107 86) + sm_ps (g107 76) (g107 77)) + sm_du (g107 72)) ≤ (641 * (sm_cm (g39 71) + sm_pt (g39 68) (g39 69) (g39 70) + sm_pl (g39 81) (g39 82) (g39 83) (g39 84) (g39 85) (g39 86) + sm_ps (g39 76) (g39 77)) + sm_du (g39 72)) ∧ 0 ≤ (g107 1147 0) ∧ (g107 1147 0) ≤ 12 ∧ (∀ k : Int, 0 ≤ k → k < (g107 1147 0) → 635639 ≤ (g107 91 k) ∧ (g107 91 k) < 647800)) → (sv_R (l13_40 + (1 : Int))) ∧ ((9 ≤ (l13_40 + (1 : Int)) ∧ (l13_40 + (1 : Int)) ≤ 23 ∧ sm_ST (g107 71) (g107 74) (g107 75) (g107 78) (g107 79) (g107 80) (S 27) (S 1100007) (S 1100023) (S 1100024) (S 1046 0) ((S 1046 0) + 2 * (S 1032 0)) (g107 1127 0) ∧ 465000 ≤ (g107 1127 0) ∧ (g107 1127 0) + sm_hs (g107 71) (S 1100007) ≤ 635000 ∧ (g107 75 639) = 647340 ∧ (∀ k : Int, (S 71 k) = 1 → (g107 71 k) = 1) ∧ sm_DR (g107 72) (g107 71) (S 1046 0) ∧ (641 * (sm_cm (g107 71) + sm_pt (g107 68) (g107 69) (g107 70) + sm_pl (g107 81) (g107 82) (g107 83) (g107 84) (g107 85) (g107 86) + sm_ps (g107 76) (g107 77)) + sm_du (g107 72)) ≤ (641 * (sm_cm (S 71) + sm_pt (S 68) (S 69) (S 70) + sm_pl (S 81) (S 82) (S 83) (S 84) (S 85) (S 86) + sm_ps (S 76) (S 77)) + sm_du (S 72)) ∧ 0 ≤ (g107 1147 0) ∧ (g107 1147 0) ≤ 12 ∧ (∀ k : Int, 0 ≤ k → k < (g107 1147 0) → 635639 ≤ (g107 91 k) ∧ (g107 91 k) < 647800)) ∧ (23 - (l13_40 + (1 : Int))) < (23 - l13_40)))) ∧ ((¬ (p4 ≤ (0 : Int))) → (sv_R (p3 + (1 : Int))) ∧ (sv_R (p4 - (1 : Int))) ∧ (29 ≤ (S 1071 0) ∧ (S 1071 0) ≤ 127 ∧ 31 ≤ (S 1008 0) ∧ (S 1008 0) ≤ 90 ∧ 1 ≤ (S 1032 0) ∧ (S 1032 0) ≤ 11 ∧ 0 ≤ (S 1055 0) ∧ (S 1055 0) ≤ 19 ∧ (S 1071 0) = 29 + 6 * ((S 1032 0) - 1) + 2 * (S 1055 0) ∧ 0 ≤ (S 1046 0) ∧ (S 1046 0) + 2 * (S 1032 0) ≤ 500 ∧ sm_PD (S 1046 0) (S 1032 0) (S 1071 0) (S 1008 0) ∧ 0 ≤ (S 1071 0) * ((S 1008 0) + 1) ∧ (S 1071 0) * ((S 1008 0) + 1) ≤ 11557 ∧ 31 ≤ (S 1007 0) ∧ (S 1007 0) ≤ 400 ∧ sm_LN (S 4) 400 (S 1007 0) ∧ (g39 75 639) = 647340 ∧ sm_ST (g39 71) (g39 74) (g39 75) (g39 78) (g39 79) (g39 80) (S 27) (S 1100007) (S 1100023) (S 1100024) (S 1046 0) ((S 1046 0) + 2 * (S 1032 0)) (g39 1127 0) ∧ 465000 ≤ (g39 1127 0) ∧ (g39 1127 0) + sm_hs (g39 71) (S 1100007) ≤ 635000 ∧ sm_NH (S 1100007) ∧ sm_CT (S 26) (S 27) (S 28) (S 29) (S 1100007) (S 1100023) (S 1100024) (S 1100025) (S 21) (S 1046 0) (S 1032 0) (S 1008 0) (S 1055 0) ∧ (∀ k : Int, (S 1046 0) ≤ k → k < ((S 1046 0) + 2 * (S 1032 0)) → (S 1100007 k) = 1) ∧ sm_DR (g39 72) (g39 71) (S 1046 0) ∧ 0 ≤ (S 1148 0) ∧ (S 1148 0) < (S 1046 0) ∧ (g39 71 (S 1148 0)) = 1 ∧ (∀ g : Int, 0 ≤ g → g < (S 1032 0) → 0 ≤ (S 30 g) ∧ (S 30 g) < (S 1046 0) ∧ (S 1100007 (S 30 g)) = 0 ∧ (S 1100023 (S 30 g)) = -1 ∧ 0 ≤ (S 33 g) ∧ (S 33 g) ≤ 100 ∧ 0 ≤ (S 20 g) ∧ (S 20 g) ≤ 8) ∧ sm_VN (S 32) (S 33) (S 1032 0) (S 1008 0) ∧ 0 ≤ (g39 1147 0) ∧ (g39 1147 0) ≤ 12 ∧ (∀ k : Int, 0 ≤ k → k < (g39 1147 0) → 635639 ≤ (g39 91 k) ∧ (g39 91 k) < 647800) ∧ -1 ≤ p2 ∧ p2 ≤ 450 ∧ (¬ p2 = -1 → -1 ≤ p3 ∧ p3 ≤ 450 ∧ 0 ≤ (p3 + (1 : Int)) ∧ 0 ≤ (p4 - (1 : Int)) ∧ (p4 - (1 : Int)) ≤ 8 ∧ (p3 + (1 : Int)) + (p4 - (1 : Int)) + (if p3 = -1 then 0 else 1) ≤ 440) ∧ 1 ≤ p5 ∧ p5 ≤ (S 1100007 (S 1148 0)) ∧ (S 1100007 ((S 1148 0) + 1)) = (S 1100007 (S 1148 0)) - p5 + 1 ∧ (S 1148 0) + 1 < (S 1046 0) ∧ (S 1100023 ((S 1148 0) + 1)) = (S 1100023 (S 1148 0))) ∧ (0 ≤ ((if p2 = -1 then 0 else if p3 = -1 then 1 else (p4 - (1 : Int)) + 2)) ∧ ((if p2 = -1 then 0 else if p3 = -1 then 1 else (p4 - (1 : Int)) + 2)) < d) ∧ (0 ≤ ((10 + (if p2 = -1 then 0 else if p3 = -1 then 1 else (p4 - (1 : Int)) + 2))) ∧ ((10 + (if p2 = -1 then 0 else if p3 = -1 then 1 else (p4 - (1 : Int)) + 2))) + 1 ≤ ((10 + (if p1 = -1 then 0 else if p2 = -1 then 1 else p4 + 2)))) ∧ (∀ g119 : sv_S, (sm_ST (g119 71) (g119 74) (g119 75) (g119 78) (g119 79) (g119 80) (S 27) (S 1100007) (S 1100023) (S 1100024) (S 1046 0) ((S 1046 0) + 2 * (S 1032 0)) (g119 1127 0) ∧ 465000 ≤ (g119 1127 0) ∧ (g119 1127 0) + sm_hs (g119 71) (S 1100007) ≤ 635000 ∧ (g119 75 639) = 647340 ∧ (∀ k : Int, (g39 71 k) = 1 → (g119 71 k) = 1) ∧ sm_DR (g119 72) (g119 71) (S 1046 0) ∧ (641 * (sm_cm (g119 71) + sm_pt (g119 68) (g119 69) (g119 70) + sm_pl (g119 81) (g119 82) (g119 83) (g119 84) (g119 85) (g119 86) + sm_ps (g119 76) (g119 77)) + sm_du (g119 72)) ≤ (641 * (sm_cm (g39 71) + sm_pt (g39 68) (g39 69) (g39 70) + sm_pl (g39 81) (g39 82) (g39 83) (g39 84) (g39 85) (g39 86) + sm_ps (g39 76) (g39 77)) + sm_du (g39 72)) ∧ 0 ≤ (g119 1147 0) ∧ (g119 1147 0) ≤ 12 ∧ (∀ k : Int, 0 ≤ k → k < (g119 1147 0) → 635639 ≤ (g119 91 k) ∧ (g119 91 k) < 647800)) → (sv_R (l13_40 + (1 : Int))) ∧ ((9 ≤ (l13_40 + (1 : Int)) ∧ (l13_40 + (1 : Int)) ≤ 23 ∧ sm_ST (g119 71) (g119 74) (g119 75) (g119 78) (g119 79) (g119 80) (S 27) (S 1100007) (S 1100023) (S 1100024) (S 1046 0) ((S 1046 0) + 2 * (S 1032 0)) (g119 1127 0) ∧ 465000 ≤ (g119 1127 0) ∧ (g119 1127 0) + sm_hs (g119 71) (S 1100007) ≤ 635000 ∧ (g119 75 639) = 647340 ∧ (∀ k : Int, (S 71 k) = 1 → (g119 71 k) = 1) ∧ sm_DR (g119 72) (g119 71) (S 1046 0) ∧ (641 * (sm_cm (g119 71) + sm_pt (g119 68) (g119 69) (g119 70) + sm_pl (g119 81) (g119 82) (g119 83) (g119 84) (g119 85) (g119 86) + sm_ps (g119 76) (g119 77)) + sm_du (g119 72)) ≤ (641 * (sm_cm (S 71) + sm_pt (S 68) (S 69) (S 70) + sm_pl (S 81) (S 82) (S 83) (S 84) (S 85) (S 86) + sm_ps (S 76) (S 77)) + sm_du (S 72)) ∧ 0 ≤ (g119 1147 0) ∧ (g119 1147 0) ≤ 12 ∧ (∀ k : Int, 0 ≤ k → k < (g119 1147 0) → 635639 ≤ (g119 91 k) ∧ (g119 91 k) < 647800)) ∧ (23 - (l13_40 + (1 : Int))) < (23 - l13_40)))))))))) ∧ ((¬ (¬ r70 = (0 : Int))) → (sv_R (l13_40 + (1 : Int))) ∧ ((9 ≤ (l13_40 + (1 : Int)) ∧ (l13_40 + (1 : Int)) ≤ 23 ∧ sm_ST (g39 71) (g39 74) (g39 75) (g39 78) (g39 79) (g39 80) (S 27) (S 1100007) (S 1100023) (S 1100024) (S 1046 0) ((S 1046 0) + 2 * (S 1032 0)) (g39 1127 0) ∧ 465000 ≤ (g39 1127 0) ∧ (g39 1127 0) + sm_hs (g39 71) (S 1100007) ≤ 635000 ∧ (g39 75 639) = 647340 ∧ (∀ k : Int, (S 71 k) = 1 → (g39 71 k) = 1) ∧ sm_DR (g39 72) (g39 71) (S 1046 0) ∧ (641 * (sm_cm (g39 71) + sm_pt (g39 68) (g39 69) (g39 70) + sm_pl (g39 81) (g39 82) (g39 83) (g39 84) (g39 85) (g39 86) + sm_ps (g39 76) (g39 77)) + sm_du (g39 72)) ≤ (641 * (sm_cm (S 71) + sm_pt (S 68) (S 69) (S 70) + sm_pl (S 81) (S 82) (S 83) (S 84) (S 85) (S 86) + sm_ps (S 76) (S 77)) + sm_du (S 72)) ∧ 0 ≤ (g39 1147 0) ∧ (g39 1147 0) ≤ 12 ∧ (∀ k : Int, 0 ≤ k → k < (g39 1147 0) → 635639 ≤ (g39 91 k) ∧ (g39 91 k) < 647800)) ∧ (23 - (l13_40 + (1 : Int))) < (23 - l13_40)))))))))) ∧ (((l12_23 = (0 : Int)) → (sm_ST (g29 71) (g29 74) (g29 75) (g29 78) (g29 79) (g29 80) (S 27) (S 1100007) (S 1100023) (S 1100024) (S 1046 0) ((S 1046 0) + 2 * (S 1032 0)) (g29 1127 0) ∧ 465000 ≤ (g29 1127 0) ∧ (g29 1127 0) + sm_hs (g29 71) (S 1100007) ≤ 635000 ∧ (g29 75 639) = 647340 ∧ (∀ k : Int, (g29 71 k) = 1 → (g29 71 k) = 1) ∧ sm_DR (g29 72) (g29 71) (S 1046 0) ∧ (641 * (sm_cm (g29 71) + sm_pt (g29 68) (g29 69) (g29 70) + sm_pl (g29 81) (g29 82) (g29 83) (g29 84) (g29 85) (g29 86) + sm_ps (g29 76) (g29 77)) + sm_du (g29 72)) ≤ (641 * (sm_cm (g29 71) + sm_pt (g29 68) (g29 69) (g29 70) + sm_pl (g29 81) (g29 82) (g29 83) (g29 84) (g29 85) (g29 86) + sm_ps (g29 76) (g29 77)) + sm_du (g29 72)) ∧ 0 ≤ (g29 1147 0) ∧ (g29 1147 0) ≤ 12 ∧ (∀ k : Int, 0 ≤ k → k < (g29 1147 0) → 635639 ≤ (g29 91 k) ∧ (g29 91 k) < 647800))) ∧ ((¬ (l12_23 = (0 : Int))) → (29 ≤ (S 1071 0) ∧ (S 1071 0) ≤ 127 ∧ 31 ≤ (S 1008 0) ∧ (S 1008 0) ≤ 90 ∧ 1 ≤ (S 1032 0) ∧ (S 1032 0) ≤ 11 ∧ 0 ≤ (S 1055 0) ∧ (S 1055 0) ≤ 19 ∧ (S 1071 0) = 29 + 6 * ((S 1032 0) - 1) + 2 * (S 1055 0) ∧ 0 ≤ (S 1046 0) ∧ (S 1046 0) + 2 * (S 1032 0) ≤ 500 ∧ sm_PD (S 1046 0) (S 1032 0) (S 1071 0) (S 1008 0) ∧ 0 ≤ (S 1071 0) * ((S 1008 0) + 1) ∧ (S 1071 0) * ((S 1008 0) + 1) ≤ 11557 ∧ 31 ≤ (S 1007 0) ∧ (S 1007 0) ≤ 400 ∧ sm_LN (S 4) 400 (S 1007 0) ∧ (g29 75 639) = 647340 ∧ sm_ST (g29 71) (g29 74) (g29 75) (g29 78) (g29 79) (g29 80) (S 27) (S 1100007) (S 1100023) (S 1100024) (S 1046 0) ((S 1046 0) + 2 * (S 1032 0)) (g29 1127 0) ∧ 465000 ≤ (g29 1127 0) ∧ (g29 1127 0) + sm_hs (g29 71) (S 1100007) ≤ 635000 ∧ sm_NH (S 1100007) ∧ sm_CT (S 26) (S 27) (S 28) (S 29) (S 1100007) (S 1100023) (S 1100024) (S 1100025) (S 21) (S 1046 0) (S 1032 0) (S 1008 0) (S 1055 0) ∧ (∀ k : Int, (S 1046 0) ≤ k → k < ((S 1046 0) + 2 * (S 1032 0)) → (S 1100007 k) = 1) ∧ sm_DR (g29 72) (g29 71) (S 1046 0) ∧ 0 ≤ (S 1148 0) ∧ (S 1148 0) < (S 1046 0) ∧ (g29 71 (S 1148 0)) = 1 ∧ (S 1148 0) = (S 1148 0) ∧ 6 ≤ (8 : Int) ∧ (8 : Int) ≤ 8) ∧ (8 + 1 ≤ ((10 + (if p1 = -1 then 0 else if p2 = -1 then 1 else p4 + 2)))) ∧ (∀ g130 : sv_S, (sm_ST (g130 71) (g130 74) (g130 75) (g130 78) (g130 79) (g130 80) (S 27) (S 1100007) (S 1100023) (S 1100024) (S 1046 0) ((S 1046 0) + 2 * (S 1032 0)) (g130 1127 0) ∧ 465000 ≤ (g130 1127 0) ∧ (g130 1127 0) + sm_hs (g130 71) (S 1100007) ≤ 635000 ∧ (g130 75 639) = 647340 ∧ (∀ k : Int, (g29 71 k) = 1 → (g130 71 k) = 1) ∧ sm_DR (g130 72) (g130 71) (S 1046 0) ∧ (641 * (sm_cm (g130 71) + sm_pt (g130 68) (g130 69) (g130 70) + sm_pl (g130 81) (g130 82) (g130 83) (g130 84) (g130 85) (g130 86) + sm_ps (g130 76) (g130 77)) + sm_du (g130 72)) ≤ (641 * (sm_cm (g29 71) + sm_pt (g29 68) (g29 69) (g29 70) + sm_pl (g29 81) (g29 82) (g29 83) (g29 84) (g29 85) (g29 86) + sm_ps (g29 76) (g29 77)) + sm_du (g29 72))) → (sm_ST (g130 71) (g130 74) (g130 75) (g130 78) (g130 79) (g130 80) (S 27) (S 1100007) (S 1100023) (S 1100024) (S 1046 0) ((S 1046 0) + 2 * (S 1032 0)) (g130 1127 0) ∧ 465000 ≤ (g130 1127 0) ∧ (g130 1127 0) + sm_hs (g130 71) (S 1100007) ≤ 635000 ∧ (g130 75 639) = 647340 ∧ (∀ k : Int, (g29 71 k) = 1 → (g130 71 k) = 1) ∧ sm_DR (g130 72) (g130 71) (S 1046 0) ∧ (641 * (sm_cm (g130 71) + sm_pt (g130 68) (g130 69) (g130 70) + sm_pl (g130 81) (g130 82) (g130 83) (g130 84) (g130 85) (g130 86) + sm_ps (g130 76) (g130 77)) + sm_du (g130 72)) ≤ (641 * (sm_cm (g29 71) + sm_pt (g29 68) (g29 69) (g29 70) + sm_pl (g29 81) (g29 82) (g29 83) (g29 84) (g29 85) (g29 86) + sm_ps (g29 76) (g29 77)) + sm_du (g29 72)) ∧ 0 ≤ (g29 1147 0) ∧ (g29 1147 0) ≤ 12 ∧ (∀ k : Int, 0 ≤ k → k < (g29 1147 0) → 635639 ≤ (g29 91 k) ∧ (g29 91 k) < 647800))))))) ∧ (((l11_22 = (0 : Int)) → (sm_ST (S 71) (g5 74) (S 75) (g5 78) (g5 79) (g5 80) (S 27) (S 1100007) (S 1100023) (S 1100024) (S 1046 0) ((S 1046 0) + 2 * (S 1032 0)) (S 1127 0) ∧ 465000 ≤ (S 1127 0) ∧ (S 1127 0) + sm_hs (S 71) (S 1100007) ≤ 635000 ∧ (S 75 639) = 647340 ∧ (∀ k : Int, (S 71 k) = 1 → (S 71 k) = 1) ∧ sm_DR (S 72) (S 71) (S 1046 0) ∧ (641 * (sm_cm (S 71) + sm_pt (g5 68) (g5 69) (g5 70) + sm_pl (g5 81) (g5 82) (g5 83) (g5 84) (g5 85) (g5 86) + sm_ps (g5 76) (g5 77)) + sm_du (S 72)) ≤ (641 * (sm_cm (S 71) + sm_pt (g5 68) (g5 69) (g5 70) + sm_pl (g5 81) (g5 82) (g5 83) (g5 84) (g5 85) (g5 86) + sm_ps (g5 76) (g5 77)) + sm_du (S 72)) ∧ 0 ≤ (S 1147 0) ∧ (S 1147 0) ≤ 12 ∧ (∀ k : Int, 0 ≤ k → k < (S 1147 0) → 635639 ≤ (S 91 k) ∧ (S 91 k) < 647800))) ∧ ((¬ (l11_22 = (0 : Int))) → (29 ≤ (S 1071 0) ∧ (S 1071 0) ≤ 127 ∧ 31 ≤ (S 1008 0) ∧ (S 1008 0) ≤ 90 ∧ 1 ≤ (S 1032 0) ∧ (S 1032 0) ≤ 11 ∧ 0 ≤ (S 1055 0) ∧ (S 1055 0) ≤ 19 ∧ (S 1071 0) = 29 + 6 * ((S 1032 0) - 1) + 2 * (S 1055 0) ∧ 0 ≤ (S 1046 0) ∧ (S 1046 0) + 2 * (S 1032 0) ≤ 500 ∧ sm_PD (S 1046 0) (S 1032 0) (S 1071 0) (S 1008 0) ∧ 0 ≤ (S 1071 0) * ((S 1008 0) + 1) ∧ (S 1071 0) * ((S 1008 0) + 1) ≤ 11557 ∧ 31 ≤ (S 1007 0) ∧ (S 1007 0) ≤ 400 ∧ sm_LN (S 4) 400 (S 1007 0) ∧ (S 75 639) = 647340 ∧ sm_ST (S 71) (g5 74) (S 75) (g5 78) (g5 79) (g5 80) (S 27) (S 1100007) (S 1100023) (S 1100024) (S 1046 0) ((S 1046 0) + 2 * (S 1032 0)) (S 1127 0) ∧ 465000 ≤ (S 1127 0) ∧ (S 1127 0) + sm_hs (S 71) (S 1100007) ≤ 635000 ∧ sm_NH (S 1100007) ∧ sm_CT (S 26) (S 27) (S 28) (S 29) (S 1100007) (S 1100023) (S 1100024) (S 1100025) (S 21) (S 1046 0) (S 1032 0) (S 1008 0) (S 1055 0) ∧ (∀ k : Int, (S 1046 0) ≤ k → k < ((S 1046 0) + 2 * (S 1032 0)) → (S 1100007 k) = 1) ∧ sm_DR (S 72) (S 71) (S 1046 0) ∧ 0 ≤ (S 1148 0) ∧ (S 1148 0) < (S 1046 0) ∧ (S 71 (S 1148 0)) = 1 ∧ (S 1148 0) = (S 1148 0) ∧ 6 ≤ (6 : Int) ∧ (6 : Int) ≤ 8) ∧ (8 + 1 ≤ ((10 + (if p1 = -1 then 0 else if p2 = -1 then 1 else p4 + 2)))) ∧ (∀ g139 : sv_S, (sm_ST (g139 71) (g139 74) (g139 75) (g139 78) (g139 79) (g139 80) (S 27) (S 1100007) (S 1100023) (S 1100024) (S 1046 0) ((S 1046 0) + 2 * (S 1032 0)) (g139 1127 0) ∧ 465000 ≤ (g139 1127 0) ∧ (g139 1127 0) + sm_hs (g139 71) (S 1100007) ≤ 635000 ∧ (g139 75 639) = 647340 ∧ (∀ k : Int, (S 71 k) = 1 → (g139 71 k) = 1) ∧ sm_DR (g139 72) (g139 71) (S 1046 0) ∧ (641 * (sm_cm (g139 71) + sm_pt (g139 68) (g139 69) (g139 70) + sm_pl (g139 81) (g139 82) (g139 83) (g139 84) (g139 85) (g139 86) + sm_ps (g139 76) (g139 77)) + sm_du (g139 72)) ≤ (641 * (sm_cm (S 71) + sm_pt (g5 68) (g5 69) (g5 70) + sm_pl (g5 81) (g5 82) (g5 83) (g5 84) (g5 85) (g5 86) + sm_ps (g5 76) (g5 77)) + sm_du (S 72))) → (sm_ST (g139 71) (g139 74) (g139 75) (g139 78) (g139 79) (g139 80) (S 27) (S 1100007) (S 1100023) (S 1100024) (S 1046 0) ((S 1046 0) + 2 * (S 1032 0)) (g139 1127 0) ∧ 465000 ≤ (g139 1127 0) ∧ (g139 1127 0) + sm_hs (g139 71) (S 1100007) ≤ 635000 ∧ (g139 75 639) = 647340 ∧ (∀ k : Int, (S 71 k) = 1 → (g139 71 k) = 1) ∧ sm_DR (g139 72) (g139 71) (S 1046 0) ∧ (641 * (sm_cm (g139 71) + sm_pt (g139 68) (g139 69) (g139 70) + sm_pl (g139 81) (g139 82) (g139 83) (g139 84) (g139 85) (g139 86) + sm_ps (g139 76) (g139 77)) + sm_du (g139 72)) ≤ (641 * (sm_cm (S 71) + sm_pt (g5 68) (g5 69) (g5 70) + sm_pl (g5 81) (g5 82) (g5 83) (g5 84) (g5 85) (g5 86) + sm_ps (g5 76) (g5 77)) + sm_du (S 72)) ∧ 0 ≤ (S 1147 0) ∧ (S 1147 0) ≤ 12 ∧ (∀ k : Int, 0 ≤ k → k < (S 1147 0) → 635639 ≤ (S 91 k) ∧ (S 91 k) < 647800))))))) ∧ ((¬ ((S 1071 0) ≤ l13_24)) → (0 ≤ l13_24 ∧ l13_24 < 128) ∧ (∀ r150 : Int, sv_R r150 → (r150 = sm_in (g5 69 r16) (g5 70 r16) l13_24 ∧ (r150 = 0 ∨ r150 = 1)) → (((¬ r150 = (0 : Int)) → ((∀ s151 : Int, sv_R s151 → (s151 = 0 ∨ s151 = 1) → ((∀ s153 : Int, sv_R s153 → (s153 = 0 ∨ s153 = 1) → (sv_R (l13_24 + (1 : Int))) ∧ ((0 ≤ (l13_24 + (1 : Int)) ∧ (l13_24 + (1 : Int)) ≤ (S 1071 0) ∧ (s151 = 0 ∨ s151 = 1) ∧ (s153 = 0 ∨ s153 = 1)) ∧ ((S 1071 0) - (l13_24 + (1 : Int))) < ((S 1071 0) - l13_24))) ∧ (((¬ l12_23 = (0 : Int)) → ((1 : Int) = 0 ∨ (1 : Int) = 1)) ∧ ((¬ (¬ l12_23 = (0 : Int))) → (1 ≤ (S 1032 0) ∧ (S 1032 0) ≤ 11 ∧ 0 ≤ l13_24 ∧ l13_24 ≤ 200) ∧ (1 + 1 ≤ ((10 + (if p1 = -1 then 0 else if p2 = -1 then 1 else p4 + 2)))) ∧ (∀ r163 : Int, sv_R r163 → (0 ≤ r163 ∧ r163 < (S 1032 0)) → (((r163 ≤ (0 : Int)) → ((0 : Int) = 0 ∨ (0 : Int) = 1)) ∧ ((¬ (r163 ≤ (0 : Int))) → ((1 : Int) = 0 ∨ (1 : Int) = 1)))))))) ∧ (((¬ l11_22 = (0 : Int)) → ((1 : Int) = 0 ∨ (1 : Int) = 1)) ∧ ((¬ (¬ l11_22 = (0 : Int))) → (1 ≤ (S 1032 0) ∧ (S 1032 0) ≤ 11 ∧ 0 ≤ l13_24 ∧ l13_24 ≤ 200) ∧ (∀ r170 : Int, sv_R r170 → ((r170 = 0 ∨ r170 = 1) ∧ (r170 = 1 → l13_24 < 29 + 6 * ((S 1032 0) - 1))) → (((¬ r170 = (0 : Int)) → ((0 : Int) = 0 ∨ (0 : Int) = 1)) ∧ ((¬ (¬ r170 = (0 : Int))) → ((1 : Int) = 0 ∨ (1 : Int) = 1)))))))) ∧ ((¬ (¬ r150 = (0 : Int))) → (sv_R (l13_24 + (1 : Int))) ∧ ((0 ≤ (l13_24 + (1 : Int)) ∧ (l13_24 + (1 : Int)) ≤ (S 1071 0) ∧ (l11_22 = 0 ∨ l11_22 = 1) ∧ (l12_23 = 0 ∨ l12_23 = 1)) ∧ ((S 1071 0) - (l13_24 + (1 : Int))) < ((S 1071 0) - l13_24))))))))))) ∧ (1 + 1 ≤ ((10 + (if p1 = -1 then 0 else if p2 = -1 then 1 else p4 + 2)))) ∧ (∀ r178 : Int, sv_R r178 → (sm_iand ((g5 68 r16) % 1024) (-513) = r178) → (((r178 = (0 : Int)) → ((0 : Int) = 0 ∨ (0 : Int) = 1)) ∧ ((¬ (r178 = (0 : Int))) → ((1 : Int) = 0 ∨ (1 : Int) = 1)))))))))))) ∧ ((¬ (¬ p1 = (-1 : Int))) → (sv_R (S 1148 0) → (29 ≤ (S 1071 0) ∧ (S 1071 0) ≤ 127 ∧ 31 ≤ (S 1008 0) ∧ (S 1008 0) ≤ 90 ∧ 1 ≤ (S 1032 0) ∧ (S 1032 0) ≤ 11 ∧ 0 ≤ (S 1055 0) ∧ (S 1055 0) ≤ 19 ∧ (S 1071 0) = 29 + 6 * ((S 1032 0) - 1) + 2 * (S 1055 0) ∧ 0 ≤ (S 1046 0) ∧ (S 1046 0) + 2 * (S 1032 0) ≤ 500 ∧ sm_PD (S 1046 0) (S 1032 0) (S 1071 0) (S 1008 0) ∧ 0 ≤ (S 1071 0) * ((S 1008 0) + 1) ∧ (S 1071 0) * ((S 1008 0) + 1) ≤ 11557 ∧ 31 ≤ (S 1007 0) ∧ (S 1007 0) ≤ 400 ∧ sm_LN (S 4) 400 (S 1007 0) ∧ (S 75 639) = 647340 ∧ sm_ST (S 71) (S 74) (S 75) (S 78) (S 79) (S 80) (S 27) (S 1100007) (S 1100023) (S 1100024) (S 1046 0) ((S 1046 0) + 2 * (S 1032 0)) (S 1127 0) ∧ 465000 ≤ (S 1127 0) ∧ (S 1127 0) + sm_hs (S 71) (S 1100007) ≤ 635000 ∧ sm_NH (S 1100007) ∧ sm_CT (S 26) (S 27) (S 28) (S 29) (S 1100007) (S 1100023) (S 1100024) (S 1100025) (S 21) (S 1046 0) (S 1032 0) (S 1008 0) (S 1055 0) ∧ (∀ k : Int, (S 1046 0) ≤ k → k < ((S 1046 0) + 2 * (S 1032 0)) → (S 1100007 k) = 1) ∧ sm_DR (S 72) (S 71) (S 1046 0) ∧ 0 ≤ (S 1148 0) ∧ (S 1148 0) < (S 1046 0) ∧ (S 71 (S 1148 0)) = 1 ∧ (S 1148 0) = (S 1148 0) ∧ 6 ≤ (6 : Int) ∧ (6 : Int) ≤ 8) ∧ (8 + 1 ≤ ((10 + (if p1 = -1 then 0 else if p2 = -1 then 1 else p4 + 2)))) ∧ (∀ g182 : sv_S, (sm_ST (g182 71) (g182 74) (g182 75) (g182 78) (g182 79) (g182 80) (S 27) (S 1100007) (S 1100023) (S 1100024) (S 1046 0) ((S 1046 0) + 2 * (S 1032 0)) (g182 1127 0) ∧ 465000 ≤ (g182 1127 0) ∧ (g182 1127 0) + sm_hs (g182 71) (S 1100007) ≤ 635000 ∧ (g182 75 639) = 647340 ∧ (∀ k : Int, (S 71 k) = 1 → (g182 71 k) = 1) ∧ sm_DR (g182 72) (g182 71) (S 1046 0) ∧ (641 * (sm_cm (g182 71) + sm_pt (g182 68) (g182 69) (g182 70) + sm_pl (g182 81) (g182 82) (g182 83) (g182 84) (g182 85) (g182 86) + sm_ps (g182 76) (g182 77)) + sm_du (g182 72)) ≤ (641 * (sm_cm (S 71) + sm_pt (S 68) (S 69) (S 70) + sm_pl (S 81) (S 82) (S 83) (S 84) (S 85) (S 86) + sm_ps (S 76) (S 77)) + sm_du (S 72))) → (sm_ST (g182 71) (g182 74) (g182 75) (g182 78) (g182 79) (g182 80) (S 27) (S 1100007) (S 1100023) (S 1100024) (S 1046 0) ((S 1046 0) + 2 * (S 1032 0)) (g182 1127 0) ∧ 465000 ≤ (g182 1127 0) ∧ (g182 1127 0) + sm_hs (g182 71) (S 1100007) ≤ 635000 ∧ (g182 75 639) = 647340 ∧ (∀ k : Int, (S 71 k) = 1 → (g182 71 k) = 1) ∧ sm_DR (g182 72) (g182 71) (S 1046 0) ∧ (641 * (sm_cm (g182 71) + sm_pt (g182 68) (g182 69) (g182 70) + sm_pl (g182 81) (g182 82) (g182 83) (g182 84) (g182 85) (g182 86) + sm_ps (g182 76) (g182 77)) + sm_du (g182 72)) ≤ (641 * (sm_cm (S 71) + sm_pt (S 68) (S 69) (S 70) + sm_pl (S 81) (S 82) (S 83) (S 84) (S 85) (S 86) + sm_ps (S 76) (S 77)) + sm_du (S 72)) ∧ 0 ≤ (S 1147 0) ∧ (S 1147 0) ≤ 12 ∧ (∀ k : Int, 0 ≤ k → k < (S 1147 0) → 635639 ≤ (S 91 k) ∧ (S 91 k) < 647800)))))) := by
  intro d
  intro p1
  intro p2
  intro p3
  intro p4
  intro p5
  intro S
  intro h1_
  intro h2_
  intro h3_
  intro h4_
  intro h5_
  intro h6_
  rintro ⟨h7_, ⟨h8_, ⟨h9_, ⟨h10_, ⟨h11_, ⟨h12_, ⟨h13_, ⟨h14_, ⟨h15_, ⟨h16_, ⟨h17_, ⟨h18_, ⟨h19_, ⟨h20_, ⟨h21_, ⟨h22_, ⟨h23_, ⟨h24_, ⟨h25_, ⟨h26_, ⟨h27_, ⟨h28_, ⟨h29_, ⟨h30_, ⟨h31_, ⟨h32_, ⟨h33_, ⟨h34_, ⟨h35_, ⟨h36_, ⟨h37_, ⟨h38_, ⟨h39_, ⟨h40_, ⟨h41_, ⟨h42_, ⟨h43_, ⟨h44_, ⟨h45_, ⟨h46_, h47_⟩⟩⟩⟩⟩⟩⟩⟩⟩⟩⟩⟩⟩⟩⟩⟩⟩⟩⟩⟩⟩⟩⟩⟩⟩⟩⟩⟩⟩⟩⟩⟩⟩⟩⟩⟩⟩⟩⟩⟩
  intro h48_
  refine ⟨?_, ?_⟩
  · skip
    intro h49_
    have e50_ : (if p1 = (-1) then 0 else (if p2 = (-1) then 1 else p4 + 2) : Int) = (if p2 = (-1) then 1 else p4 + 2) := if_neg h49_
    obtain ⟨h51_, ⟨h52_, ⟨h53_, ⟨h54_, ⟨h55_, h56_⟩⟩⟩⟩⟩ := (h42_ h49_)
    intro h57_
    have h58_ := (h57_ h29_)
    have h59_ := (h58_ h32_)
    obtain ⟨h60_, ⟨h61_, ⟨h62_, h63_⟩⟩⟩ := (h59_ h33_)
    intro h64_
    refine ⟨⟨h7_, ⟨h8_, ⟨h9_, ⟨h10_, ⟨h11_, ⟨h12_, ⟨h13_, ⟨h14_, ⟨h15_, ⟨h16_, ⟨h17_, ⟨h18_, ⟨h19_, ⟨h20_, ⟨h21_, ⟨h22_, ⟨h23_, ⟨h24_, ⟨h25_, ⟨h26_, ⟨h27_, ⟨h28_, ⟨h29_, ⟨h30_, ⟨h31_, (la_callWays_1 h32_ h34_ h46_)⟩⟩⟩⟩⟩⟩⟩⟩⟩⟩⟩⟩⟩⟩⟩⟩⟩⟩⟩⟩⟩⟩⟩⟩⟩, ?_⟩
    refine ⟨?_, ?_⟩
    · skip
      have h65_ := (h30_ (S 1148 0))
      have h66_ := (h30_ (S 1148 0 + 1))
      by_cases c67_ : p2 = (-1)
      · skip
        have e68_ : (if p2 = (-1) then 0 else 1 : Int) = 0 := if_pos c67_
        have e69_ : (if p2 = (-1) then 1 else p4 + 2 : Int) = 1 := if_pos c67_
        exact (la_callWays_4 e50_ e69_)
      · skip
        have e70_ : (if p2 = (-1) then 0 else 1 : Int) = 1 := if_neg c67_
        have e71_ : (if p2 = (-1) then 1 else p4 + 2 : Int) = p4 + 2 := if_neg c67_
        exact (la_callWays_5 e50_ h54_ e71_)
    intro g5
    rintro ⟨h72_, ⟨h73_, ⟨h74_, ⟨h75_, ⟨h76_, ⟨h77_, ⟨h78_, ⟨h79_, ⟨h80_, ⟨h81_, ⟨h82_, ⟨h83_, ⟨h84_, ⟨h85_, h86_⟩⟩⟩⟩⟩⟩⟩⟩⟩⟩⟩⟩⟩⟩
    refine ⟨(la_callWays_6 h24_ h41_ (la_callWays_0 h40_ h49_)), ?_⟩
    refine ⟨?_, ?_⟩
    · skip
      have h87_ := (h30_ (S 1148 0))
      have h88_ := (h30_ (S 1148 0 + 1))
      by_cases c89_ : p2 = (-1)
      · skip
        have e90_ : (if p2 = (-1) then 0 else 1 : Int) = 0 := if_pos c89_
        have e91_ : (if p2 = (-1) then 1 else p4 + 2 : Int) = 1 := if_pos c89_
        exact (la_callWays_7 e50_ e91_)
      · skip
        have e92_ : (if p2 = (-1) then 0 else 1 : Int) = 1 := if_neg c89_
        have e93_ : (if p2 = (-1) then 1 else p4 + 2 : Int) = p4 + 2 := if_neg c89_
        exact (la_callWays_8 e50_ h54_ e93_)
    intro r16
    intro h94_
    intro h95_
    refine ⟨(la_callWays_9 h24_ h41_ (la_callWays_0 h40_ h49_) h95_), ?_⟩
    intro h96_
    intro h97_
    refine ⟨?_, ?_⟩
    · skip
      intro s20
      intro h98_
      intro h99_
      refine ⟨⟨la_callWays_10, ⟨(la_callWays_11 h7_), ⟨h99_, la_callWays_12⟩⟩⟩, ?_⟩
      intro l11_22
      intro h100_
      intro l12_23
      intro h101_
      intro l13_24
      intro h102_
      rintro ⟨h103_, ⟨h104_, ⟨h105_, h106_⟩⟩⟩
      refine ⟨(la_callWays_13 h104_), ?_⟩
      intro h107_
      refine ⟨?_, ?_⟩
      · skip
        intro h108_
        refine ⟨?_, ?_⟩
        · skip
          intro g29
          rintro ⟨h109_, ⟨h110_, ⟨h111_, ⟨h112_, ⟨h113_, ⟨h114_, ⟨h115_, ⟨h116_, ⟨h117_, h118_⟩⟩⟩⟩⟩⟩⟩⟩⟩
          refine ⟨?_, ?_⟩
          · skip
            intro g34
            rintro ⟨h119_, ⟨h120_, ⟨h121_, ⟨h122_, ⟨h123_, ⟨h124_, ⟨h125_, ⟨h126_, ⟨h127_, h128_⟩⟩⟩⟩⟩⟩⟩⟩⟩
            refine ⟨?_, ?_⟩
            · skip
              refine ⟨la_callWays_14, ?_⟩
              refine ⟨la_callWays_15, ?_⟩
              refine ⟨h119_, ?_⟩
              refine ⟨h120_, ?_⟩
              refine ⟨h121_, ?_⟩
              refine ⟨h122_, ?_⟩
              refine ⟨?_, ?_⟩
              · skip
                intro k
                intro h129_
                have h130_ := (h30_ (S 1148 0))
                have h131_ := (h30_ (S 1148 0 + 1))
                have h132_ := ((h113_ (S 1148 0)) h34_)
                have h133_ := ((h113_ k) h129_)
                have h134_ := ((h123_ k) h133_)
                have h135_ := ((h123_ (S 1148 0)) h132_)
                exact h134_
              refine ⟨h124_, ?_⟩
              refine ⟨(la_callWays_16 h72_ h73_ h74_ h115_ h125_), ?_⟩
              refine ⟨h126_, ?_⟩
              refine ⟨h127_, ?_⟩
              intro kv1
              intro h136_
              intro h137_
              refine ⟨?_, ?_⟩
              · skip
                have h138_ := (h30_ (S 1148 0))
                have h139_ := (h30_ (S 1148 0 + 1))
                have h140_ := ((h113_ (S 1148 0)) h34_)
                obtain ⟨h141_, h142_⟩ := (((h128_ kv1) h136_) h137_)
                have h143_ := ((h123_ (S 1148 0)) h140_)
                exact h141_
              have h144_ := (h30_ (S 1148 0))
              have h145_ := (h30_ (S 1148 0 + 1))
              have h146_ := ((h113_ (S 1148 0)) h34_)
              obtain ⟨h147_, h148_⟩ := (((h128_ kv1) h136_) h137_)
              have h149_ := ((h123_ (S 1148 0)) h146_)
              exact h148_
            intro l13_40
            intro h150_
            intro g39
            rintro ⟨h151_, ⟨h152_, ⟨h153_, ⟨h154_, ⟨h155_, ⟨h156_, ⟨h157_, ⟨h158_, ⟨h159_, ⟨h160_, ⟨h161_, h162_⟩⟩⟩⟩⟩⟩⟩⟩⟩⟩⟩
            refine ⟨(la_callWays_17 h152_), ?_⟩
            refine ⟨?_, ?_⟩
            · skip
              intro h163_
              refine ⟨⟨la_callWays_18, ⟨h11_, ⟨h153_, ⟨h154_, ⟨h155_, ⟨h156_, ⟨h157_, ⟨h158_, ⟨h159_, ⟨h160_, ⟨h161_, h162_⟩⟩⟩⟩⟩⟩⟩⟩⟩⟩⟩, ?_⟩
              intro l13_47
              intro h164_
              intro g46
              rintro ⟨h165_, ⟨h166_, ⟨h167_, ⟨h168_, ⟨h169_, ⟨h170_, ⟨h171_, ⟨h172_, ⟨h173_, ⟨h174_, ⟨h175_, h176_⟩⟩⟩⟩⟩⟩⟩⟩⟩⟩⟩
              refine ⟨(la_callWays_13 h166_), ?_⟩
              intro h177_
              refine ⟨?_, ?_⟩
              · skip
                intro h178_
                refine ⟨h167_, ?_⟩
                refine ⟨h168_, ?_⟩
                refine ⟨h169_, ?_⟩
                refine ⟨h170_, ?_⟩
                refine ⟨h171_, ?_⟩
                refine ⟨h172_, ?_⟩
                refine ⟨h173_, ?_⟩
                refine ⟨h174_, ?_⟩
                refine ⟨h175_, ?_⟩
                intro kv2
                intro h179_
                intro h180_
                refine ⟨?_, ?_⟩
                · skip
                  have h181_ := (h30_ (S 1148 0))
                  have h182_ := (h30_ (S 1148 0 + 1))
                  have h183_ := ((h113_ (S 1148 0)) h34_)
                  have h184_ := ((h157_ (S 1148 0)) h34_)
                  have h185_ := ((h171_ (S 1148 0)) h34_)
                  obtain ⟨h186_, h187_⟩ := (((h176_ kv2) h179_) h180_)
                  have h188_ := ((h123_ (S 1148 0)) h183_)
                  exact h186_
                have h189_ := (h30_ (S 1148 0))
                have h190_ := (h30_ (S 1148 0 + 1))
                have h191_ := ((h113_ (S 1148 0)) h34_)
                have h192_ := ((h157_ (S 1148 0)) h34_)
                have h193_ := ((h171_ (S 1148 0)) h34_)
                obtain ⟨h194_, h195_⟩ := (((h176_ kv2) h179_) h180_)
                have h196_ := ((h123_ (S 1148 0)) h191_)
                exact h195_
              intro h197_
              refine ⟨?_, ?_⟩
              · skip
                refine ⟨h7_, ?_⟩
                refine ⟨h8_, ?_⟩
                refine ⟨h9_, ?_⟩
                refine ⟨h10_, ?_⟩
                refine ⟨h11_, ?_⟩
                refine ⟨h12_, ?_⟩
                refine ⟨h13_, ?_⟩
                refine ⟨h14_, ?_⟩
                refine ⟨h15_, ?_⟩
                refine ⟨h16_, ?_⟩
                refine ⟨h17_, ?_⟩
                refine ⟨h18_, ?_⟩
                refine ⟨h19_, ?_⟩
                refine ⟨h20_, ?_⟩
                refine ⟨h21_, ?_⟩
                refine ⟨h22_, ?_⟩
                refine ⟨h23_, ?_⟩
                refine ⟨h170_, ?_⟩
                refine ⟨h167_, ?_⟩
                refine ⟨h168_, ?_⟩
                refine ⟨h169_, ?_⟩
                refine ⟨h28_, ?_⟩
                refine ⟨h29_, ?_⟩
                refine ⟨h30_, ?_⟩
                refine ⟨h172_, ?_⟩
                refine ⟨h32_, ?_⟩
                refine ⟨h33_, ?_⟩
                refine ⟨?_, ?_⟩
                · skip
                  have h198_ := (h30_ (S 1148 0))
                  have h199_ := (h30_ (S 1148 0 + 1))
                  have h200_ := ((h113_ (S 1148 0)) h34_)
                  have h201_ := ((h157_ (S 1148 0)) h34_)
                  have h202_ := ((h171_ (S 1148 0)) h34_)
                  have h203_ := ((h123_ (S 1148 0)) h200_)
                  exact h202_
                refine ⟨h35_, ?_⟩
                refine ⟨h36_, ?_⟩
                refine ⟨h174_, ?_⟩
                refine ⟨h175_, ?_⟩
                refine ⟨h176_, ?_⟩
                refine ⟨h165_, ?_⟩
                refine ⟨(la_callWays_19 h197_), ?_⟩
                refine ⟨h51_, ?_⟩
                refine ⟨h52_, ?_⟩
                refine ⟨h53_, ?_⟩
                refine ⟨?_, ?_⟩
                · skip
                  have h204_ := (h30_ (S 1148 0))
                  have h205_ := (h30_ (S 1148 0 + 1))
                  have h206_ := ((h113_ (S 1148 0)) h34_)
                  have h207_ := ((h157_ (S 1148 0)) h34_)
                  have h208_ := ((h171_ (S 1148 0)) h34_)
                  have h209_ := ((h123_ (S 1148 0)) h206_)
                  by_cases c210_ : p2 = (-1)
                  · skip
                    have e211_ : (if p2 = (-1) then 0 else 1 : Int) = 0 := if_pos c210_
                    have e212_ : (if p2 = (-1) then 1 else p4 + 2 : Int) = 1 := if_pos c210_
                    exact (la_callWays_20 h54_ h56_ e211_)
                  · skip
                    have e213_ : (if p2 = (-1) then 0 else 1 : Int) = 1 := if_neg c210_
                    have e214_ : (if p2 = (-1) then 1 else p4 + 2 : Int) = p4 + 2 := if_neg c210_
                    exact (la_callWays_21 h54_ h56_ e213_)
                refine ⟨h54_, ?_⟩
                refine ⟨h55_, ?_⟩
                refine ⟨h43_, ?_⟩
                refine ⟨h44_, ?_⟩
                refine ⟨h45_, ?_⟩
                refine ⟨h46_, ?_⟩
                refine ⟨h47_, ?_⟩
                refine ⟨la_callWays_22, ?_⟩
                exact (la_callWays_23 h13_)
              refine ⟨?_, ?_⟩
              · skip
                have h215_ := (h30_ (S 1148 0))
                have h216_ := (h30_ (S 1148 0 + 1))
                have h217_ := ((h113_ (S 1148 0)) h34_)
                have h218_ := ((h157_ (S 1148 0)) h34_)
                have h219_ := ((h171_ (S 1148 0)) h34_)
                have h220_ := ((h123_ (S 1148 0)) h217_)
                by_cases c221_ : p2 = (-1)
                · skip
                  have e222_ : (if p2 = (-1) then 0 else 1 : Int) = 0 := if_pos c221_
                  have e223_ : (if p2 = (-1) then 1 else p4 + 2 : Int) = 1 := if_pos c221_
                  exact (la_callWays_24 e50_ e223_)
                · skip
                  have e224_ : (if p2 = (-1) then 0 else 1 : Int) = 1 := if_neg c221_
                  have e225_ : (if p2 = (-1) then 1 else p4 + 2 : Int) = p4 + 2 := if_neg c221_
                  exact (la_callWays_25 e50_ h54_ e225_)
              intro g57
              rintro ⟨h226_, ⟨h227_, ⟨h228_, ⟨h229_, ⟨h230_, ⟨h231_, ⟨h232_, ⟨h233_, ⟨h234_, h235_⟩⟩⟩⟩⟩⟩⟩⟩⟩
              refine ⟨(la_callWays_26 h12_ h165_ h197_), ?_⟩
              refine ⟨?_, ?_⟩
              · skip
                refine ⟨(la_callWays_27 h165_), ?_⟩
                refine ⟨(la_callWays_28 h197_), ?_⟩
                refine ⟨h226_, ?_⟩
                refine ⟨h227_, ?_⟩
                refine ⟨h228_, ?_⟩
                refine ⟨h229_, ?_⟩
                refine ⟨?_, ?_⟩
                · skip
                  intro kv3
                  intro h236_
                  have h237_ := (h30_ (S 1148 0))
                  have h238_ := (h30_ (S 1148 0 + 1))
                  have h239_ := ((h113_ (S 1148 0)) h34_)
                  have h240_ := ((h113_ kv3) h236_)
                  have h241_ := ((h157_ (S 1148 0)) h34_)
                  have h242_ := ((h157_ kv3) h236_)
                  have h243_ := ((h171_ (S 1148 0)) h34_)
                  have h244_ := ((h171_ kv3) h236_)
                  have h245_ := ((h230_ kv3) h244_)
                  have h246_ := ((h123_ (S 1148 0)) h239_)
                  have h247_ := ((h123_ kv3) h240_)
                  have h248_ := ((h230_ (S 1148 0)) h243_)
                  exact h245_
                refine ⟨h231_, ?_⟩
                refine ⟨(la_callWays_29 h173_ h232_), ?_⟩
                refine ⟨h233_, ?_⟩
                refine ⟨h234_, ?_⟩
                intro kv4
                intro h249_
                intro h250_
                refine ⟨?_, ?_⟩
                · skip
                  have h251_ := (h30_ (S 1148 0))
                  have h252_ := (h30_ (S 1148 0 + 1))
                  have h253_ := ((h113_ (S 1148 0)) h34_)
                  have h254_ := ((h157_ (S 1148 0)) h34_)
                  have h255_ := ((h171_ (S 1148 0)) h34_)
                  obtain ⟨h256_, h257_⟩ := (((h235_ kv4) h249_) h250_)
                  have h258_ := ((h123_ (S 1148 0)) h253_)
                  have h259_ := ((h230_ (S 1148 0)) h255_)
                  exact h256_
                have h260_ := (h30_ (S 1148 0))
                have h261_ := (h30_ (S 1148 0 + 1))
                have h262_ := ((h113_ (S 1148 0)) h34_)
                have h263_ := ((h157_ (S 1148 0)) h34_)
                have h264_ := ((h171_ (S 1148 0)) h34_)
                obtain ⟨h265_, h266_⟩ := (((h235_ kv4) h249_) h250_)
                have h267_ := ((h123_ (S 1148 0)) h262_)
                have h268_ := ((h230_ (S 1148 0)) h264_)
                exact h266_
              exact la_callWays_30
            intro h269_
            refine ⟨(la_callWays_31 h151_ h269_), ?_⟩
            intro r70
            intro h270_
            rintro ⟨h271_, h272_⟩
            refine ⟨?_, ?_⟩
            · skip
              intro h273_
              have h274_ := (h272_.resolve_left h273_)
              refine ⟨?_, ?_⟩
              · skip
                intro h275_
                refine ⟨?_, ?_⟩
                · skip
                  refine ⟨h7_, ?_⟩
                  refine ⟨h8_, ?_⟩
                  refine ⟨h9_, ?_⟩
                  refine ⟨h10_, ?_⟩
                  refine ⟨h11_, ?_⟩
                  refine ⟨h12_, ?_⟩
                  refine ⟨h13_, ?_⟩
                  refine ⟨h14_, ?_⟩
                  refine ⟨h15_, ?_⟩
                  refine ⟨h16_, ?_⟩
                  refine ⟨h17_, ?_⟩
                  refine ⟨h18_, ?_⟩
                  refine ⟨h19_, ?_⟩
                  refine ⟨h20_, ?_⟩
                  refine ⟨h21_, ?_⟩
                  refine ⟨h22_, ?_⟩
                  refine ⟨h23_, ?_⟩
                  refine ⟨h156_, ?_⟩
                  refine ⟨h153_, ?_⟩
                  refine ⟨h154_, ?_⟩
                  refine ⟨h155_, ?_⟩
                  refine ⟨h28_, ?_⟩
                  refine ⟨h29_, ?_⟩
                  refine ⟨h30_, ?_⟩
                  refine ⟨h158_, ?_⟩
                  refine ⟨h32_, ?_⟩
                  refine ⟨h33_, ?_⟩
                  refine ⟨?_, ?_⟩
                  · skip
                    have h276_ := (h30_ (S 1148 0))
                    have h277_ := (h30_ (S 1148 0 + 1))
                    have h278_ := ((h113_ (S 1148 0)) h34_)
                    have h279_ := ((h157_ (S 1148 0)) h34_)
                    have h280_ := ((h123_ (S 1148 0)) h278_)
                    exact h279_
                  refine ⟨h151_, ?_⟩
                  refine ⟨(la_callWays_34 h269_), ?_⟩
                  refine ⟨h275_, ?_⟩
                  refine ⟨h51_, ?_⟩
                  refine ⟨h52_, ?_⟩
                  refine ⟨h53_, ?_⟩
                  refine ⟨?_, ?_⟩
                  · skip
                    have h281_ := (h30_ (S 1148 0))
                    have h282_ := (h30_ (S 1148 0 + 1))
                    have h283_ := ((h113_ (S 1148 0)) h34_)
                    have h284_ := ((h157_ (S 1148 0)) h34_)
                    have h285_ := ((h123_ (S 1148 0)) h283_)
                    by_cases c286_ : p2 = (-1)
                    · skip
                      have e287_ : (if p2 = (-1) then 0 else 1 : Int) = 0 := if_pos c286_
                      have e288_ : (if p2 = (-1) then 1 else p4 + 2 : Int) = 1 := if_pos c286_
                      exact (la_callWays_20 h54_ h56_ e287_)
                    · skip
                      have e289_ : (if p2 = (-1) then 0 else 1 : Int) = 1 := if_neg c286_
                      have e290_ : (if p2 = (-1) then 1 else p4 + 2 : Int) = p4 + 2 := if_neg c286_
                      exact (la_callWays_21 h54_ h56_ e289_)
                  refine ⟨h54_, ?_⟩
                  refine ⟨h55_, ?_⟩
                  refine ⟨h43_, ?_⟩
                  refine ⟨h44_, ?_⟩
                  refine ⟨h45_, ?_⟩
                  refine ⟨h46_, ?_⟩
                  exact h47_
                refine ⟨?_, ?_⟩
                · skip
                  have h291_ := (h30_ (S 1148 0))
                  have h292_ := (h30_ (S 1148 0 + 1))
                  have h293_ := ((h113_ (S 1148 0)) h34_)
                  have h294_ := ((h157_ (S 1148 0)) h34_)
                  have h295_ := ((h123_ (S 1148 0)) h293_)
                  by_cases c296_ : p2 = (-1)
                  · skip
                    have e297_ : (if p2 = (-1) then 0 else 1 : Int) = 0 := if_pos c296_
                    have e298_ : (if p2 = (-1) then 1 else p4 + 2 : Int) = 1 := if_pos c296_
                    exact (la_callWays_35 e50_ e298_)
                  · skip
                    have e299_ : (if p2 = (-1) then 0 else 1 : Int) = 1 := if_neg c296_
                    have e300_ : (if p2 = (-1) then 1 else p4 + 2 : Int) = p4 + 2 := if_neg c296_
                    exact (la_callWays_36 e50_ h54_ e300_)
                intro g73
                rintro ⟨h301_, ⟨h302_, ⟨h303_, ⟨h304_, ⟨h305_, ⟨h306_, h307_⟩⟩⟩⟩⟩⟩
                refine ⟨(la_callWays_37 h151_ h269_), ?_⟩
                refine ⟨?_, ?_⟩
                · skip
                  refine ⟨(la_callWays_38 h151_), ?_⟩
                  refine ⟨(la_callWays_39 h269_), ?_⟩
                  refine ⟨h301_, ?_⟩
                  refine ⟨h302_, ?_⟩
                  refine ⟨h303_, ?_⟩
                  refine ⟨h304_, ?_⟩
                  refine ⟨?_, ?_⟩
                  · skip
                    intro kv5
                    intro h308_
                    have h309_ := (h30_ (S 1148 0))
                    have h310_ := (h30_ (S 1148 0 + 1))
                    have h311_ := ((h113_ kv5) h308_)
                    have h312_ := ((h113_ (S 1148 0)) h34_)
                    have h313_ := ((h157_ kv5) h308_)
                    have h314_ := ((h157_ (S 1148 0)) h34_)
                    have h315_ := ((h305_ kv5) h313_)
                    have h316_ := ((h123_ kv5) h311_)
                    have h317_ := ((h123_ (S 1148 0)) h312_)
                    have h318_ := ((h305_ (S 1148 0)) h314_)
                    exact h315_
                  refine ⟨h306_, ?_⟩
                  refine ⟨(la_callWays_29 h159_ h307_), ?_⟩
                  refine ⟨h160_, ?_⟩
                  refine ⟨h161_, ?_⟩
                  intro kv6
                  intro h319_
                  intro h320_
                  refine ⟨?_, ?_⟩
                  · skip
                    have h321_ := (h30_ (S 1148 0))
                    have h322_ := (h30_ (S 1148 0 + 1))
                    have h323_ := ((h113_ (S 1148 0)) h34_)
                    have h324_ := ((h157_ (S 1148 0)) h34_)
                    obtain ⟨h325_, h326_⟩ := (((h162_ kv6) h319_) h320_)
                    have h327_ := ((h123_ (S 1148 0)) h323_)
                    have h328_ := ((h305_ (S 1148 0)) h324_)
                    exact h325_
                  have h329_ := (h30_ (S 1148 0))
                  have h330_ := (h30_ (S 1148 0 + 1))
                  have h331_ := ((h113_ (S 1148 0)) h34_)
                  have h332_ := ((h157_ (S 1148 0)) h34_)
                  obtain ⟨h333_, h334_⟩ := (((h162_ kv6) h319_) h320_)
                  have h335_ := ((h123_ (S 1148 0)) h331_)
                  have h336_ := ((h305_ (S 1148 0)) h332_)
                  exact h334_
                exact la_callWays_40
              intro h337_
              refine ⟨?_, ?_⟩
              · skip
                intro h338_
                refine ⟨?_, ?_⟩
                · skip
                  intro h339_
                  refine ⟨?_, ?_⟩
                  · skip
                    have h340_ := (h30_ (S 1148 0))
                    have h341_ := (h30_ (S 1148 0 + 1))
                    have h342_ := ((h113_ (S 1148 0)) h34_)
                    have h343_ := ((h157_ (S 1148 0)) h34_)
                    have h344_ := ((h123_ (S 1148 0)) h342_)
                    by_cases c345_ : p2 = (-1)
                    · skip
                      have e346_ : (if p2 = (-1) then 0 else 1 : Int) = 0 := if_pos c345_
                      have e347_ : (if p2 = (-1) then 1 else p4 + 2 : Int) = 1 := if_pos c345_
                      exact (la_callWays_41 h53_ h54_ h56_ e346_)
                    · skip
                      have e348_ : (if p2 = (-1) then 0 else 1 : Int) = 1 := if_neg c345_
                      have e349_ : (if p2 = (-1) then 1 else p4 + 2 : Int) = p4 + 2 := if_neg c345_
                      exact (la_callWays_42 h53_ h54_ h56_ e348_)
                  refine ⟨?_, ?_⟩
                  · skip
                    refine ⟨h7_, ?_⟩
                    refine ⟨h8_, ?_⟩
                    refine ⟨h9_, ?_⟩
                    refine ⟨h10_, ?_⟩
                    refine ⟨h11_, ?_⟩
                    refine ⟨h12_, ?_⟩
                    refine ⟨h13_, ?_⟩
                    refine ⟨h14_, ?_⟩
                    refine ⟨h15_, ?_⟩
                    refine ⟨h16_, ?_⟩
                    refine ⟨h17_, ?_⟩
                    refine ⟨h18_, ?_⟩
                    refine ⟨h19_, ?_⟩
                    refine ⟨h20_, ?_⟩
                    refine ⟨h21_, ?_⟩
                    refine ⟨h22_, ?_⟩
                    refine ⟨h23_, ?_⟩
                    refine ⟨h156_, ?_⟩
                    refine ⟨h153_, ?_⟩
                    refine ⟨h154_, ?_⟩
                    refine ⟨h155_, ?_⟩
                    refine ⟨h28_, ?_⟩
                    refine ⟨h29_, ?_⟩
                    refine ⟨h30_, ?_⟩
                    refine ⟨h158_, ?_⟩
                    refine ⟨h32_, ?_⟩
                    refine ⟨h33_, ?_⟩
                    refine ⟨?_, ?_⟩
                    · skip
                      have h350_ := (h30_ (S 1148 0))
                      have h351_ := (h30_ (S 1148 0 + 1))
                      have h352_ := ((h113_ (S 1148 0)) h34_)
                      have h353_ := ((h157_ (S 1148 0)) h34_)
                      have h354_ := ((h123_ (S 1148 0)) h352_)
                      exact h353_
                    refine ⟨h35_, ?_⟩
                    refine ⟨h36_, ?_⟩
                    refine ⟨h160_, ?_⟩
                    refine ⟨h161_, ?_⟩
                    refine ⟨h162_, ?_⟩
                    refine ⟨h51_, ?_⟩
                    refine ⟨h52_, ?_⟩
                    refine ⟨?_, ?_⟩
                    · skip
                      intro h355_
                      have e356_ : (if p2 = (-1) then 0 else 1 : Int) = 1 := if_neg h355_
                      have e357_ : (if p2 = (-1) then 1 else p4 + 2 : Int) = p4 + 2 := if_neg h355_
                      refine ⟨la_callWays_22, ?_⟩
                      refine ⟨la_callWays_43, ?_⟩
                      refine ⟨(la_callWays_44 h53_), ?_⟩
                      refine ⟨la_callWays_10, ?_⟩
                      refine ⟨la_callWays_45, ?_⟩
                      have h358_ := (h30_ (S 1148 0))
                      have h359_ := (h30_ (S 1148 0 + 1))
                      have h360_ := ((h113_ (S 1148 0)) h34_)
                      have h361_ := ((h157_ (S 1148 0)) h34_)
                      have e362_ : (if ((-1) : Int) = (-1) then 0 else 1 : Int) = 0 := if_pos la_callWays_46
                      have h363_ := ((h123_ (S 1148 0)) h360_)
                      exact (la_callWays_47 h54_ h56_ e356_ e362_)
                    refine ⟨h43_, ?_⟩
                    refine ⟨h44_, ?_⟩
                    refine ⟨h45_, ?_⟩
                    refine ⟨h46_, ?_⟩
                    exact h47_
                  refine ⟨?_, ?_⟩
                  · skip
                    refine ⟨?_, ?_⟩
                    · skip
                      have h364_ := (h30_ (S 1148 0))
                      have h365_ := (h30_ (S 1148 0 + 1))
                      have h366_ := ((h113_ (S 1148 0)) h34_)
                      have h367_ := ((h157_ (S 1148 0)) h34_)
                      have e368_ : (if ((-1) : Int) = (-1) then 1 else 0 + 2 : Int) = 1 := if_pos la_callWays_46
                      have h369_ := ((h123_ (S 1148 0)) h366_)
                      by_cases c370_ : p2 = (-1)
                      · skip
                        have e371_ : (if p2 = (-1) then 0 else (if ((-1) : Int) = (-1) then 1 else 0 + 2) : Int) = 0 := if_pos c370_
                        have e372_ : (if p2 = (-1) then 0 else 1 : Int) = 0 := if_pos c370_
                        have e373_ : (if p2 = (-1) then 1 else p4 + 2 : Int) = 1 := if_pos c370_
                        exact (la_callWays_48 e371_)
                      · skip
                        have e374_ : (if p2 = (-1) then 0 else (if ((-1) : Int) = (-1) then 1 else 0 + 2) : Int) = (if ((-1) : Int) = (-1) then 1 else 0 + 2) := if_neg c370_
                        have e375_ : (if p2 = (-1) then 0 else 1 : Int) = 1 := if_neg c370_
                        have e376_ : (if p2 = (-1) then 1 else p4 + 2 : Int) = p4 + 2 := if_neg c370_
                        exact (la_callWays_49 e368_ e374_)
                    have h377_ := (h30_ (S 1148 0))
                    have h378_ := (h30_ (S 1148 0 + 1))
                    have h379_ := ((h113_ (S 1148 0)) h34_)
                    have h380_ := ((h157_ (S 1148 0)) h34_)
                    have e381_ : (if ((-1) : Int) = (-1) then 1 else 0 + 2 : Int) = 1 := if_pos la_callWays_46
                    have h382_ := ((h123_ (S 1148 0)) h379_)
                    by_cases c383_ : p2 = (-1)
                    · skip
                      have e384_ : (if p2 = (-1) then 0 else (if ((-1) : Int) = (-1) then 1 else 0 + 2) : Int) = 0 := if_pos c383_
                      have e385_ : (if p2 = (-1) then 0 else 1 : Int) = 0 := if_pos c383_
                      have e386_ : (if p2 = (-1) then 1 else p4 + 2 : Int) = 1 := if_pos c383_
                      exact (la_callWays_50 h48_ e50_ e384_ e386_)
                    · skip
                      have e387_ : (if p2 = (-1) then 0 else (if ((-1) : Int) = (-1) then 1 else 0 + 2) : Int) = (if ((-1) : Int) = (-1) then 1 else 0 + 2) := if_neg c383_
                      have e388_ : (if p2 = (-1) then 0 else 1 : Int) = 1 := if_neg c383_
                      have e389_ : (if p2 = (-1) then 1 else p4 + 2 : Int) = p4 + 2 := if_neg c383_
                      exact (la_callWays_51 h48_ e50_ h54_ e381_ e387_ e389_)
                  refine ⟨?_, ?_⟩
                  · skip
                    refine ⟨?_, ?_⟩
                    · skip
                      have h390_ := (h30_ (S 1148 0))
                      have h391_ := (h30_ (S 1148 0 + 1))
                      have h392_ := ((h113_ (S 1148 0)) h34_)
                      have h393_ := ((h157_ (S 1148 0)) h34_)
                      have e394_ : (if ((-1) : Int) = (-1) then 1 else 0 + 2 : Int) = 1 := if_pos la_callWays_46
                      have h395_ := ((h123_ (S 1148 0)) h392_)
                      by_cases c396_ : p2 = (-1)
                      · skip
                        have e397_ : (if p2 = (-1) then 0 else (if ((-1) : Int) = (-1) then 1 else 0 + 2) : Int) = 0 := if_pos c396_
                        have e398_ : (if p2 = (-1) then 0 else 1 : Int) = 0 := if_pos c396_
                        have e399_ : (if p2 = (-1) then 1 else p4 + 2 : Int) = 1 := if_pos c396_
                        exact (la_callWays_52 e397_)
                      · skip
                        have e400_ : (if p2 = (-1) then 0 else (if ((-1) : Int) = (-1) then 1 else 0 + 2) : Int) = (if ((-1) : Int) = (-1) then 1 else 0 + 2) := if_neg c396_
                        have e401_ : (if p2 = (-1) then 0 else 1 : Int) = 1 := if_neg c396_
                        have e402_ : (if p2 = (-1) then 1 else p4 + 2 : Int) = p4 + 2 := if_neg c396_
                        exact (la_callWays_53 e394_ e400_)
                    have h403_ := (h30_ (S 1148 0))
                    have h404_ := (h30_ (S 1148 0 + 1))
                    have h405_ := ((h113_ (S 1148 0)) h34_)
                    have h406_ := ((h157_ (S 1148 0)) h34_)
                    have e407_ : (if ((-1) : Int) = (-1) then 1 else 0 + 2 : Int) = 1 := if_pos la_callWays_46
                    have h408_ := ((h123_ (S 1148 0)) h405_)
                    by_cases c409_ : p2 = (-1)
                    · skip
                      have e410_ : (if p2 = (-1) then 0 else (if ((-1) : Int) = (-1) then 1 else 0 + 2) : Int) = 0 := if_pos c409_
                      have e411_ : (if p2 = (-1) then 0 else 1 : Int) = 0 := if_pos c409_
                      have e412_ : (if p2 = (-1) then 1 else p4 + 2 : Int) = 1 := if_pos c409_
                      exact (la_callWays_54 e50_ e410_ e412_)
                    · skip
                      have e413_ : (if p2 = (-1) then 0 else (if ((-1) : Int) = (-1) then 1 else 0 + 2) : Int) = (if ((-1) : Int) = (-1) then 1 else 0 + 2) := if_neg c409_
                      have e414_ : (if p2 = (-1) then 0 else 1 : Int) = 1 := if_neg c409_
                      have e415_ : (if p2 = (-1) then 1 else p4 + 2 : Int) = p4 + 2 := if_neg c409_
                      exact (la_callWays_55 e50_ h54_ e407_ e413_ e415_)
                  intro g84
                  rintro ⟨h416_, ⟨h417_, ⟨h418_, ⟨h419_, ⟨h420_, ⟨h421_, ⟨h422_, ⟨h423_, ⟨h424_, h425_⟩⟩⟩⟩⟩⟩⟩⟩⟩
                  refine ⟨(la_callWays_56 h337_), ?_⟩
                  refine ⟨?_, ?_⟩
                  · skip
                    refine ⟨(la_callWays_57 h337_), ?_⟩
                    refine ⟨(la_callWays_58 h337_), ?_⟩
                    refine ⟨h416_, ?_⟩
                    refine ⟨h417_, ?_⟩
                    refine ⟨h418_, ?_⟩
                    refine ⟨h419_, ?_⟩
                    refine ⟨?_, ?_⟩
                    · skip
                      intro kv7
                      intro h426_
                      have h427_ := (h30_ (S 1148 0))
                      have h428_ := (h30_ (S 1148 0 + 1))
                      have h429_ := ((h113_ kv7) h426_)
                      have h430_ := ((h113_ (S 1148 0)) h34_)
                      have h431_ := ((h157_ kv7) h426_)
                      have h432_ := ((h157_ (S 1148 0)) h34_)
                      have h433_ := ((h420_ kv7) h431_)
                      have h434_ := ((h123_ kv7) h429_)
                      have h435_ := ((h123_ (S 1148 0)) h430_)
                      have h436_ := ((h420_ (S 1148 0)) h432_)
                      exact h433_
                    refine ⟨h421_, ?_⟩
                    refine ⟨(la_callWays_29 h159_ h422_), ?_⟩
                    refine ⟨h423_, ?_⟩
                    refine ⟨h424_, ?_⟩
                    intro kv8
                    intro h437_
                    intro h438_
                    refine ⟨?_, ?_⟩
                    · skip
                      have h439_ := (h30_ (S 1148 0))
                      have h440_ := (h30_ (S 1148 0 + 1))
                      have h441_ := ((h113_ (S 1148 0)) h34_)
                      have h442_ := ((h157_ (S 1148 0)) h34_)
                      obtain ⟨h443_, h444_⟩ := (((h425_ kv8) h437_) h438_)
                      have h445_ := ((h123_ (S 1148 0)) h441_)
                      have h446_ := ((h420_ (S 1148 0)) h442_)
                      exact h443_
                    have h447_ := (h30_ (S 1148 0))
                    have h448_ := (h30_ (S 1148 0 + 1))
                    have h449_ := ((h113_ (S 1148 0)) h34_)
                    have h450_ := ((h157_ (S 1148 0)) h34_)
                    obtain ⟨h451_, h452_⟩ := (((h425_ kv8) h437_) h438_)
                    have h453_ := ((h123_ (S 1148 0)) h449_)
                    have h454_ := ((h420_ (S 1148 0)) h450_)
                    exact h452_
                  exact la_callWays_40
                intro h455_
                refine ⟨(la_callWays_59 h53_ h338_ h455_), ?_⟩
                refine ⟨(la_callWays_60 h338_ h455_), ?_⟩
                refine ⟨?_, ?_⟩
                · skip
                  refine ⟨h7_, ?_⟩
                  refine ⟨h8_, ?_⟩
                  refine ⟨h9_, ?_⟩
                  refine ⟨h10_, ?_⟩
                  refine ⟨h11_, ?_⟩
                  refine ⟨h12_, ?_⟩
                  refine ⟨h13_, ?_⟩
                  refine ⟨h14_, ?_⟩
                  refine ⟨h15_, ?_⟩
                  refine ⟨h16_, ?_⟩
                  refine ⟨h17_, ?_⟩
                  refine ⟨h18_, ?_⟩
                  refine ⟨h19_, ?_⟩
                  refine ⟨h20_, ?_⟩
                  refine ⟨h21_, ?_⟩
                  refine ⟨h22_, ?_⟩
                  refine ⟨h23_, ?_⟩
                  refine ⟨h156_, ?_⟩
                  refine ⟨h153_, ?_⟩
                  refine ⟨h154_, ?_⟩
                  refine ⟨h155_, ?_⟩
                  refine ⟨h28_, ?_⟩
                  refine ⟨h29_, ?_⟩
                  refine ⟨h30_, ?_⟩
                  refine ⟨h158_, ?_⟩
                  refine ⟨h32_, ?_⟩
                  refine ⟨h33_, ?_⟩
                  refine ⟨?_, ?_⟩
                  · skip
                    have h456_ := (h30_ (S 1148 0))
                    have h457_ := (h30_ (S 1148 0 + 1))
                    have h458_ := ((h113_ (S 1148 0)) h34_)
                    have h459_ := ((h157_ (S 1148 0)) h34_)
                    have h460_ := ((h123_ (S 1148 0)) h458_)
                    exact h459_
                  refine ⟨h35_, ?_⟩
                  refine ⟨h36_, ?_⟩
                  refine ⟨h160_, ?_⟩
                  refine ⟨h161_, ?_⟩
                  refine ⟨h162_, ?_⟩
                  refine ⟨h51_, ?_⟩
                  refine ⟨h52_, ?_⟩
                  refine ⟨(la_callWays_61 h51_ h53_ h338_ h455_), ?_⟩
                  refine ⟨h43_, ?_⟩
                  refine ⟨h44_, ?_⟩
                  refine ⟨h45_, ?_⟩
                  refine ⟨h46_, ?_⟩
                  exact h47_
                refine ⟨?_, ?_⟩
                · skip
                  refine ⟨?_, ?_⟩
                  · skip
                    have h461_ := (h30_ (S 1148 0))
                    have h462_ := (h30_ (S 1148 0 + 1))
                    have h463_ := ((h113_ (S 1148 0)) h34_)
                    have h464_ := ((h157_ (S 1148 0)) h34_)
                    have e465_ : (if ((-1) : Int) = (-1) then 1 else p4 - 1 + 2 : Int) = 1 := if_pos la_callWays_46
                    have h466_ := ((h123_ (S 1148 0)) h463_)
                    exact ((la_callWays_62 h338_ h455_)).elim
                  have h467_ := (h30_ (S 1148 0))
                  have h468_ := (h30_ (S 1148 0 + 1))
                  have h469_ := ((h113_ (S 1148 0)) h34_)
                  have h470_ := ((h157_ (S 1148 0)) h34_)
                  have e471_ : (if ((-1) : Int) = (-1) then 1 else p4 - 1 + 2 : Int) = 1 := if_pos la_callWays_46
                  have h472_ := ((h123_ (S 1148 0)) h469_)
                  exact ((la_callWays_62 h338_ h455_)).elim
                refine ⟨?_, ?_⟩
                · skip
                  refine ⟨?_, ?_⟩
                  · skip
                    have h473_ := (h30_ (S 1148 0))
                    have h474_ := (h30_ (S 1148 0 + 1))
                    have h475_ := ((h113_ (S 1148 0)) h34_)
                    have h476_ := ((h157_ (S 1148 0)) h34_)
                    have e477_ : (if ((-1) : Int) = (-1) then 1 else p4 - 1 + 2 : Int) = 1 := if_pos la_callWays_46
                    have h478_ := ((h123_ (S 1148 0)) h475_)
                    exact ((la_callWays_62 h338_ h455_)).elim
                  have h479_ := (h30_ (S 1148 0))
                  have h480_ := (h30_ (S 1148 0 + 1))
                  have h481_ := ((h113_ (S 1148 0)) h34_)
                  have h482_ := ((h157_ (S 1148 0)) h34_)
                  have e483_ : (if ((-1) : Int) = (-1) then 1 else p4 - 1 + 2 : Int) = 1 := if_pos la_callWays_46
                  have h484_ := ((h123_ (S 1148 0)) h481_)
                  exact ((la_callWays_62 h338_ h455_)).elim
                intro g96
                rintro ⟨h485_, ⟨h486_, ⟨h487_, ⟨h488_, ⟨h489_, ⟨h490_, ⟨h491_, ⟨h492_, ⟨h493_, h494_⟩⟩⟩⟩⟩⟩⟩⟩⟩
                refine ⟨(la_callWays_56 h337_), ?_⟩
                refine ⟨?_, ?_⟩
                · skip
                  refine ⟨(la_callWays_57 h337_), ?_⟩
                  refine ⟨(la_callWays_58 h337_), ?_⟩
                  refine ⟨h485_, ?_⟩
                  refine ⟨h486_, ?_⟩
                  refine ⟨h487_, ?_⟩
                  refine ⟨h488_, ?_⟩
                  refine ⟨?_, ?_⟩
                  · skip
                    intro kv9
                    intro h495_
                    have h496_ := (h30_ (S 1148 0))
                    have h497_ := (h30_ (S 1148 0 + 1))
                    have h498_ := ((h113_ kv9) h495_)
                    have h499_ := ((h113_ (S 1148 0)) h34_)
                    have h500_ := ((h157_ kv9) h495_)
                    have h501_ := ((h157_ (S 1148 0)) h34_)
                    have h502_ := ((h489_ kv9) h500_)
                    have h503_ := ((h123_ kv9) h498_)
                    have h504_ := ((h123_ (S 1148 0)) h499_)
                    have h505_ := ((h489_ (S 1148 0)) h501_)
                    exact h502_
                  refine ⟨h490_, ?_⟩
                  refine ⟨(la_callWays_29 h159_ h491_), ?_⟩
                  refine ⟨h492_, ?_⟩
                  refine ⟨h493_, ?_⟩
                  intro kv10
                  intro h506_
                  intro h507_
                  refine ⟨?_, ?_⟩
                  · skip
                    have h508_ := (h30_ (S 1148 0))
                    have h509_ := (h30_ (S 1148 0 + 1))
                    have h510_ := ((h113_ (S 1148 0)) h34_)
                    have h511_ := ((h157_ (S 1148 0)) h34_)
                    obtain ⟨h512_, h513_⟩ := (((h494_ kv10) h506_) h507_)
                    have h514_ := ((h123_ (S 1148 0)) h510_)
                    have h515_ := ((h489_ (S 1148 0)) h511_)
                    exact h512_
                  have h516_ := (h30_ (S 1148 0))
                  have h517_ := (h30_ (S 1148 0 + 1))
                  have h518_ := ((h113_ (S 1148 0)) h34_)
                  have h519_ := ((h157_ (S 1148 0)) h34_)
                  obtain ⟨h520_, h521_⟩ := (((h494_ kv10) h506_) h507_)
                  have h522_ := ((h123_ (S 1148 0)) h518_)
                  have h523_ := ((h489_ (S 1148 0)) h519_)
                  exact h521_
                exact la_callWays_40
              intro h524_
              refine ⟨?_, ?_⟩
              · skip
                intro h525_
                refine ⟨(la_callWays_63 h53_ h524_ h525_), ?_⟩
                refine ⟨?_, ?_⟩
                · skip
                  refine ⟨h7_, ?_⟩
                  refine ⟨h8_, ?_⟩
                  refine ⟨h9_, ?_⟩
                  refine ⟨h10_, ?_⟩
                  refine ⟨h11_, ?_⟩
                  refine ⟨h12_, ?_⟩
                  refine ⟨h13_, ?_⟩
                  refine ⟨h14_, ?_⟩
                  refine ⟨h15_, ?_⟩
                  refine ⟨h16_, ?_⟩
                  refine ⟨h17_, ?_⟩
                  refine ⟨h18_, ?_⟩
                  refine ⟨h19_, ?_⟩
                  refine ⟨h20_, ?_⟩
                  refine ⟨h21_, ?_⟩
                  refine ⟨h22_, ?_⟩
                  refine ⟨h23_, ?_⟩
                  refine ⟨h156_, ?_⟩
                  refine ⟨h153_, ?_⟩
                  refine ⟨h154_, ?_⟩
                  refine ⟨h155_, ?_⟩
                  refine ⟨h28_, ?_⟩
                  refine ⟨h29_, ?_⟩
                  refine ⟨h30_, ?_⟩
                  refine ⟨h158_, ?_⟩
                  refine ⟨h32_, ?_⟩
                  refine ⟨h33_, ?_⟩
                  refine ⟨?_, ?_⟩
                  · skip
                    have h526_ := (h30_ (S 1148 0))
                    have h527_ := (h30_ (S 1148 0 + 1))
                    have h528_ := ((h113_ (S 1148 0)) h34_)
                    have h529_ := ((h157_ (S 1148 0)) h34_)
                    have h530_ := ((h123_ (S 1148 0)) h528_)
                    exact h529_
                  refine ⟨h35_, ?_⟩
                  refine ⟨h36_, ?_⟩
                  refine ⟨h160_, ?_⟩
                  refine ⟨h161_, ?_⟩
                  refine ⟨h162_, ?_⟩
                  refine ⟨h51_, ?_⟩
                  refine ⟨h52_, ?_⟩
                  refine ⟨(la_callWays_64 h51_ h53_ h524_ h525_), ?_⟩
                  refine ⟨h43_, ?_⟩
                  refine ⟨h44_, ?_⟩
                  refine ⟨h45_, ?_⟩
                  refine ⟨h46_, ?_⟩
                  exact h47_
                refine ⟨?_, ?_⟩
                · skip
                  refine ⟨?_, ?_⟩
                  · skip
                    have h531_ := (h30_ (S 1148 0))
                    have h532_ := (h30_ (S 1148 0 + 1))
                    have h533_ := ((h113_ (S 1148 0)) h34_)
                    have h534_ := ((h157_ (S 1148 0)) h34_)
                    have e535_ : (if p3 = (-1) then 1 else 0 + 2 : Int) = 1 := if_pos (la_callWays_65 h53_ h524_ h525_)
                    have h536_ := ((h123_ (S 1148 0)) h533_)
                    exact ((la_callWays_66 h524_ h525_)).elim
                  have h537_ := (h30_ (S 1148 0))
                  have h538_ := (h30_ (S 1148 0 + 1))
                  have h539_ := ((h113_ (S 1148 0)) h34_)
                  have h540_ := ((h157_ (S 1148 0)) h34_)
                  have e541_ : (if p3 = (-1) then 1 else 0 + 2 : Int) = 1 := if_pos (la_callWays_65 h53_ h524_ h525_)
                  have h542_ := ((h123_ (S 1148 0)) h539_)
                  exact ((la_callWays_66 h524_ h525_)).elim
                refine ⟨?_, ?_⟩
                · skip
                  refine ⟨?_, ?_⟩
                  · skip
                    have h543_ := (h30_ (S 1148 0))
                    have h544_ := (h30_ (S 1148 0 + 1))
                    have h545_ := ((h113_ (S 1148 0)) h34_)
                    have h546_ := ((h157_ (S 1148 0)) h34_)
                    have e547_ : (if p3 = (-1) then 1 else 0 + 2 : Int) = 1 := if_pos (la_callWays_65 h53_ h524_ h525_)
                    have h548_ := ((h123_ (S 1148 0)) h545_)
                    exact ((la_callWays_66 h524_ h525_)).elim
                  have h549_ := (h30_ (S 1148 0))
                  have h550_ := (h30_ (S 1148 0 + 1))
                  have h551_ := ((h113_ (S 1148 0)) h34_)
                  have h552_ := ((h157_ (S 1148 0)) h34_)
                  have e553_ : (if p3 = (-1) then 1 else 0 + 2 : Int) = 1 := if_pos (la_callWays_65 h53_ h524_ h525_)
                  have h554_ := ((h123_ (S 1148 0)) h551_)
                  exact ((la_callWays_66 h524_ h525_)).elim
                intro g107
                rintro ⟨h555_, ⟨h556_, ⟨h557_, ⟨h558_, ⟨h559_, ⟨h560_, ⟨h561_, ⟨h562_, ⟨h563_, h564_⟩⟩⟩⟩⟩⟩⟩⟩⟩
                refine ⟨(la_callWays_56 h337_), ?_⟩
                refine ⟨?_, ?_⟩
                · skip
                  refine ⟨(la_callWays_57 h337_), ?_⟩
                  refine ⟨(la_callWays_58 h337_), ?_⟩
                  refine ⟨h555_, ?_⟩
                  refine ⟨h556_, ?_⟩
                  refine ⟨h557_, ?_⟩
                  refine ⟨h558_, ?_⟩
                  refine ⟨?_, ?_⟩
                  · skip
                    intro kv11
                    intro h565_
                    have h566_ := (h30_ (S 1148 0))
                    have h567_ := (h30_ (S 1148 0 + 1))
                    have h568_ := ((h113_ kv11) h565_)
                    have h569_ := ((h113_ (S 1148 0)) h34_)
                    have h570_ := ((h157_ kv11) h565_)
                    have h571_ := ((h157_ (S 1148 0)) h34_)
                    have h572_ := ((h559_ kv11) h570_)
                    have h573_ := ((h123_ kv11) h568_)
                    have h574_ := ((h123_ (S 1148 0)) h569_)
                    have h575_ := ((h559_ (S 1148 0)) h571_)
                    exact h572_
                  refine ⟨h560_, ?_⟩
                  refine ⟨(la_callWays_29 h159_ h561_), ?_⟩
                  refine ⟨h562_, ?_⟩
                  refine ⟨h563_, ?_⟩
                  intro kv12
                  intro h576_
                  intro h577_
                  refine ⟨?_, ?_⟩
                  · skip
                    have h578_ := (h30_ (S 1148 0))
                    have h579_ := (h30_ (S 1148 0 + 1))
                    have h580_ := ((h113_ (S 1148 0)) h34_)
                    have h581_ := ((h157_ (S 1148 0)) h34_)
                    obtain ⟨h582_, h583_⟩ := (((h564_ kv12) h576_) h577_)
                    have h584_ := ((h123_ (S 1148 0)) h580_)
                    have h585_ := ((h559_ (S 1148 0)) h581_)
                    exact h582_
                  have h586_ := (h30_ (S 1148 0))
                  have h587_ := (h30_ (S 1148 0 + 1))
                  have h588_ := ((h113_ (S 1148 0)) h34_)
                  have h589_ := ((h157_ (S 1148 0)) h34_)
                  obtain ⟨h590_, h591_⟩ := (((h564_ kv12) h576_) h577_)
                  have h592_ := ((h123_ (S 1148 0)) h588_)
                  have h593_ := ((h559_ (S 1148 0)) h589_)
                  exact h591_
                exact la_callWays_40
              intro h594_
              refine ⟨?_, ?_⟩
              · skip
                have h595_ := (h30_ (S 1148 0))
                have h596_ := (h30_ (S 1148 0 + 1))
                have h597_ := ((h113_ (S 1148 0)) h34_)
                have h598_ := ((h157_ (S 1148 0)) h34_)
                have h599_ := ((h123_ (S 1148 0)) h597_)
                by_cases c600_ : p2 = (-1)
                · skip
                  have e601_ : (if p2 = (-1) then 0 else 1 : Int) = 0 := if_pos c600_
                  have e602_ : (if p2 = (-1) then 1 else p4 + 2 : Int) = 1 := if_pos c600_
                  exact (la_callWays_67 h53_ h56_ h524_ e601_)
                · skip
                  have e603_ : (if p2 = (-1) then 0 else 1 : Int) = 1 := if_neg c600_
                  have e604_ : (if p2 = (-1) then 1 else p4 + 2 : Int) = p4 + 2 := if_neg c600_
                  exact (la_callWays_68 h53_ h56_ h524_ e603_)
              refine ⟨(la_callWays_69 h55_ h524_), ?_⟩
              refine ⟨?_, ?_⟩
              · skip
                refine ⟨h7_, ?_⟩
                refine ⟨h8_, ?_⟩
                refine ⟨h9_, ?_⟩
                refine ⟨h10_, ?_⟩
                refine ⟨h11_, ?_⟩
                refine ⟨h12_, ?_⟩
                refine ⟨h13_, ?_⟩
                refine ⟨h14_, ?_⟩
                refine ⟨h15_, ?_⟩
                refine ⟨h16_, ?_⟩
                refine ⟨h17_, ?_⟩
                refine ⟨h18_, ?_⟩
                refine ⟨h19_, ?_⟩
                refine ⟨h20_, ?_⟩
                refine ⟨h21_, ?_⟩
                refine ⟨h22_, ?_⟩
                refine ⟨h23_, ?_⟩
                refine ⟨h156_, ?_⟩
                refine ⟨h153_, ?_⟩
                refine ⟨h154_, ?_⟩
                refine ⟨h155_, ?_⟩
                refine ⟨h28_, ?_⟩
                refine ⟨h29_, ?_⟩
                refine ⟨h30_, ?_⟩
                refine ⟨h158_, ?_⟩
                refine ⟨h32_, ?_⟩
                refine ⟨h33_, ?_⟩
                refine ⟨?_, ?_⟩
                · skip
                  have h605_ := (h30_ (S 1148 0))
                  have h606_ := (h30_ (S 1148 0 + 1))
                  have h607_ := ((h113_ (S 1148 0)) h34_)
                  have h608_ := ((h157_ (S 1148 0)) h34_)
                  have h609_ := ((h123_ (S 1148 0)) h607_)
                  exact h608_
                refine ⟨h35_, ?_⟩
                refine ⟨h36_, ?_⟩
                refine ⟨h160_, ?_⟩
                refine ⟨h161_, ?_⟩
                refine ⟨h162_, ?_⟩
                refine ⟨h51_, ?_⟩
                refine ⟨h52_, ?_⟩
                refine ⟨?_, ?_⟩
                · skip
                  intro h610_
                  have e611_ : (if p2 = (-1) then 0 else 1 : Int) = 1 := if_neg h610_
                  have e612_ : (if p2 = (-1) then 1 else p4 + 2 : Int) = p4 + 2 := if_neg h610_
                  refine ⟨(la_callWays_70 h53_), ?_⟩
                  refine ⟨(la_callWays_71 h56_ h524_ e611_), ?_⟩
                  refine ⟨(la_callWays_44 h53_), ?_⟩
                  refine ⟨(la_callWays_72 h524_), ?_⟩
                  refine ⟨(la_callWays_73 h55_), ?_⟩
                  have h613_ := (h30_ (S 1148 0))
                  have h614_ := (h30_ (S 1148 0 + 1))
                  have h615_ := ((h113_ (S 1148 0)) h34_)
                  have h616_ := ((h157_ (S 1148 0)) h34_)
                  have e617_ : (if p3 = (-1) then 0 else 1 : Int) = 1 := if_neg (la_callWays_74 h53_)
                  have h618_ := ((h123_ (S 1148 0)) h615_)
                  exact (la_callWays_75 h56_ e611_ e617_)
                refine ⟨h43_, ?_⟩
                refine ⟨h44_, ?_⟩
                refine ⟨h45_, ?_⟩
                refine ⟨h46_, ?_⟩
                exact h47_
              refine ⟨?_, ?_⟩
              · skip
                refine ⟨?_, ?_⟩
                · skip
                  have h619_ := (h30_ (S 1148 0))
                  have h620_ := (h30_ (S 1148 0 + 1))
                  have h621_ := ((h113_ (S 1148 0)) h34_)
                  have h622_ := ((h157_ (S 1148 0)) h34_)
                  have e623_ : (if p3 = (-1) then 1 else p4 - 1 + 2 : Int) = p4 - 1 + 2 := if_neg (la_callWays_74 h53_)
                  have h624_ := ((h123_ (S 1148 0)) h621_)
                  by_cases c625_ : p2 = (-1)
                  · skip
                    have e626_ : (if p2 = (-1) then 0 else (if p3 = (-1) then 1 else p4 - 1 + 2) : Int) = 0 := if_pos c625_
                    have e627_ : (if p2 = (-1) then 0 else 1 : Int) = 0 := if_pos c625_
                    have e628_ : (if p2 = (-1) then 1 else p4 + 2 : Int) = 1 := if_pos c625_
                    exact (la_callWays_48 e626_)
                  · skip
                    have e629_ : (if p2 = (-1) then 0 else (if p3 = (-1) then 1 else p4 - 1 + 2) : Int) = (if p3 = (-1) then 1 else p4 - 1 + 2) := if_neg c625_
                    have e630_ : (if p2 = (-1) then 0 else 1 : Int) = 1 := if_neg c625_
                    have e631_ : (if p2 = (-1) then 1 else p4 + 2 : Int) = p4 + 2 := if_neg c625_
                    exact (la_callWays_76 h524_ e623_ e629_)
                have h632_ := (h30_ (S 1148 0))
                have h633_ := (h30_ (S 1148 0 + 1))
                have h634_ := ((h113_ (S 1148 0)) h34_)
                have h635_ := ((h157_ (S 1148 0)) h34_)
                have e636_ : (if p3 = (-1) then 1 else p4 - 1 + 2 : Int) = p4 - 1 + 2 := if_neg (la_callWays_74 h53_)
                have h637_ := ((h123_ (S 1148 0)) h634_)
                by_cases c638_ : p2 = (-1)
                · skip
                  have e639_ : (if p2 = (-1) then 0 else (if p3 = (-1) then 1 else p4 - 1 + 2) : Int) = 0 := if_pos c638_
                  have e640_ : (if p2 = (-1) then 0 else 1 : Int) = 0 := if_pos c638_
                  have e641_ : (if p2 = (-1) then 1 else p4 + 2 : Int) = 1 := if_pos c638_
                  exact (la_callWays_50 h48_ e50_ e639_ e641_)
                · skip
                  have e642_ : (if p2 = (-1) then 0 else (if p3 = (-1) then 1 else p4 - 1 + 2) : Int) = (if p3 = (-1) then 1 else p4 - 1 + 2) := if_neg c638_
                  have e643_ : (if p2 = (-1) then 0 else 1 : Int) = 1 := if_neg c638_
                  have e644_ : (if p2 = (-1) then 1 else p4 + 2 : Int) = p4 + 2 := if_neg c638_
                  exact (la_callWays_77 h48_ e50_ e636_ e642_ e644_)
              refine ⟨?_, ?_⟩
              · skip
                refine ⟨?_, ?_⟩
                · skip
                  have h645_ := (h30_ (S 1148 0))
                  have h646_ := (h30_ (S 1148 0 + 1))
                  have h647_ := ((h113_ (S 1148 0)) h34_)
                  have h648_ := ((h157_ (S 1148 0)) h34_)
                  have e649_ : (if p3 = (-1) then 1 else p4 - 1 + 2 : Int) = p4 - 1 + 2 := if_neg (la_callWays_74 h53_)
                  have h650_ := ((h123_ (S 1148 0)) h647_)
                  by_cases c651_ : p2 = (-1)
                  · skip
                    have e652_ : (if p2 = (-1) then 0 else (if p3 = (-1) then 1 else p4 - 1 + 2) : Int) = 0 := if_pos c651_
                    have e653_ : (if p2 = (-1) then 0 else 1 : Int) = 0 := if_pos c651_
                    have e654_ : (if p2 = (-1) then 1 else p4 + 2 : Int) = 1 := if_pos c651_
                    exact (la_callWays_52 e652_)
                  · skip
                    have e655_ : (if p2 = (-1) then 0 else (if p3 = (-1) then 1 else p4 - 1 + 2) : Int) = (if p3 = (-1) then 1 else p4 - 1 + 2) := if_neg c651_
                    have e656_ : (if p2 = (-1) then 0 else 1 : Int) = 1 := if_neg c651_
                    have e657_ : (if p2 = (-1) then 1 else p4 + 2 : Int) = p4 + 2 := if_neg c651_
                    exact (la_callWays_78 h524_ e649_ e655_)
                have h658_ := (h30_ (S 1148 0))
                have h659_ := (h30_ (S 1148 0 + 1))
                have h660_ := ((h113_ (S 1148 0)) h34_)
                have h661_ := ((h157_ (S 1148 0)) h34_)
                have e662_ : (if p3 = (-1) then 1 else p4 - 1 + 2 : Int) = p4 - 1 + 2 := if_neg (la_callWays_74 h53_)
                have h663_ := ((h123_ (S 1148 0)) h660_)
                by_cases c664_ : p2 = (-1)
                · skip
                  have e665_ : (if p2 = (-1) then 0 else (if p3 = (-1) then 1 else p4 - 1 + 2) : Int) = 0 := if_pos c664_
                  have e666_ : (if p2 = (-1) then 0 else 1 : Int) = 0 := if_pos c664_
                  have e667_ : (if p2 = (-1) then 1 else p4 + 2 : Int) = 1 := if_pos c664_
                  exact (la_callWays_54 e50_ e665_ e667_)
                · skip
                  have e668_ : (if p2 = (-1) then 0 else (if p3 = (-1) then 1 else p4 - 1 + 2) : Int) = (if p3 = (-1) then 1 else p4 - 1 + 2) := if_neg c664_
                  have e669_ : (if p2 = (-1) then 0 else 1 : Int) = 1 := if_neg c664_
                  have e670_ : (if p2 = (-1) then 1 else p4 + 2 : Int) = p4 + 2 := if_neg c664_
                  exact (la_callWays_79 e50_ e662_ e668_ e670_)
              intro g119
              rintro ⟨h671_, ⟨h672_, ⟨h673_, ⟨h674_, ⟨h675_, ⟨h676_, ⟨h677_, ⟨h678_, ⟨h679_, h680_⟩⟩⟩⟩⟩⟩⟩⟩⟩
              refine ⟨(la_callWays_56 h337_), ?_⟩
              refine ⟨?_, ?_⟩
              · skip
                refine ⟨(la_callWays_57 h337_), ?_⟩
                refine ⟨(la_callWays_58 h337_), ?_⟩
                refine ⟨h671_, ?_⟩
                refine ⟨h672_, ?_⟩
                refine ⟨h673_, ?_⟩
                refine ⟨h674_, ?_⟩
                refine ⟨?_, ?_⟩
                · skip
                  intro kv13
                  intro h681_
                  have h682_ := (h30_ (S 1148 0))
                  have h683_ := (h30_ (S 1148 0 + 1))
                  have h684_ := ((h113_ kv13) h681_)
                  have h685_ := ((h113_ (S 1148 0)) h34_)
                  have h686_ := ((h157_ kv13) h681_)
                  have h687_ := ((h157_ (S 1148 0)) h34_)
                  have h688_ := ((h675_ kv13) h686_)
                  have h689_ := ((h123_ kv13) h684_)
                  have h690_ := ((h123_ (S 1148 0)) h685_)
                  have h691_ := ((h675_ (S 1148 0)) h687_)
                  exact h688_
                refine ⟨h676_, ?_⟩
                refine ⟨(la_callWays_29 h159_ h677_), ?_⟩
                refine ⟨h678_, ?_⟩
                refine ⟨h679_, ?_⟩
                intro kv14
                intro h692_
                intro h693_
                refine ⟨?_, ?_⟩
                · skip
                  have h694_ := (h30_ (S 1148 0))
                  have h695_ := (h30_ (S 1148 0 + 1))
                  have h696_ := ((h113_ (S 1148 0)) h34_)
                  have h697_ := ((h157_ (S 1148 0)) h34_)
                  obtain ⟨h698_, h699_⟩ := (((h680_ kv14) h692_) h693_)
                  have h700_ := ((h123_ (S 1148 0)) h696_)
                  have h701_ := ((h675_ (S 1148 0)) h697_)
                  exact h698_
                have h702_ := (h30_ (S 1148 0))
                have h703_ := (h30_ (S 1148 0 + 1))
                have h704_ := ((h113_ (S 1148 0)) h34_)
                have h705_ := ((h157_ (S 1148 0)) h34_)
                obtain ⟨h706_, h707_⟩ := (((h680_ kv14) h692_) h693_)
                have h708_ := ((h123_ (S 1148 0)) h704_)
                have h709_ := ((h675_ (S 1148 0)) h705_)
                exact h707_
              exact la_callWays_40
            intro h710_
            have h711_ := (h272_.resolve_right (la_callWays_80 h710_))
            refine ⟨(la_callWays_37 h151_ h269_), ?_⟩
            refine ⟨⟨(la_callWays_38 h151_), ⟨(la_callWays_39 h269_), ⟨h153_, ⟨h154_, ⟨h155_, ⟨h156_, ⟨h157_, ⟨h158_, ⟨h159_, ⟨h160_, ⟨h161_, h162_⟩⟩⟩⟩⟩⟩⟩⟩⟩⟩⟩, ?_⟩
            exact la_callWays_40
          refine ⟨?_, ?_⟩
          · skip
            intro h712_
            have h713_ := (h106_.resolve_right (la_callWays_81 h712_))
            refine ⟨h109_, ?_⟩
            refine ⟨h110_, ?_⟩
            refine ⟨h111_, ?_⟩
            refine ⟨h112_, ?_⟩
            refine ⟨?_, ?_⟩
            · skip
              intro kv15
              intro h714_
              exact h714_
            refine ⟨h114_, ?_⟩
            refine ⟨la_callWays_82, ?_⟩
            refine ⟨h116_, ?_⟩
            refine ⟨h117_, ?_⟩
            intro kv16
            intro h715_
            intro h716_
            refine ⟨?_, ?_⟩
            · skip
              have h717_ := (h30_ (S 1148 0))
              have h718_ := (h30_ (S 1148 0 + 1))
              have h719_ := ((h113_ (S 1148 0)) h34_)
              obtain ⟨h720_, h721_⟩ := (((h118_ kv16) h715_) h716_)
              exact h720_
            have h722_ := (h30_ (S 1148 0))
            have h723_ := (h30_ (S 1148 0 + 1))
            have h724_ := ((h113_ (S 1148 0)) h34_)
            obtain ⟨h725_, h726_⟩ := (((h118_ kv16) h715_) h716_)
            exact h726_
          intro h727_
          have h728_ := (h106_.resolve_left h727_)
          refine ⟨?_, ?_⟩
          · skip
            refine ⟨h7_, ?_⟩
            refine ⟨h8_, ?_⟩
            refine ⟨h9_, ?_⟩
            refine ⟨h10_, ?_⟩
            refine ⟨h11_, ?_⟩
            refine ⟨h12_, ?_⟩
            refine ⟨h13_, ?_⟩
            refine ⟨h14_, ?_⟩
            refine ⟨h15_, ?_⟩
            refine ⟨h16_, ?_⟩
            refine ⟨h17_, ?_⟩
            refine ⟨h18_, ?_⟩
            refine ⟨h19_, ?_⟩
            refine ⟨h20_, ?_⟩
            refine ⟨h21_, ?_⟩
            refine ⟨h22_, ?_⟩
            refine ⟨h23_, ?_⟩
            refine ⟨h112_, ?_⟩
            refine ⟨h109_, ?_⟩
            refine ⟨h110_, ?_⟩
            refine ⟨h111_, ?_⟩
            refine ⟨h28_, ?_⟩
            refine ⟨h29_, ?_⟩
            refine ⟨h30_, ?_⟩
            refine ⟨h114_, ?_⟩
            refine ⟨h32_, ?_⟩
            refine ⟨h33_, ?_⟩
            refine ⟨?_, ?_⟩
            · skip
              have h729_ := (h30_ (S 1148 0))
              have h730_ := (h30_ (S 1148 0 + 1))
              have h731_ := ((h113_ (S 1148 0)) h34_)
              exact h731_
            refine ⟨la_callWays_83, ?_⟩
            refine ⟨la_callWays_84, ?_⟩
            exact la_callWays_85
          refine ⟨?_, ?_⟩
          · skip
            have h732_ := (h30_ (S 1148 0))
            have h733_ := (h30_ (S 1148 0 + 1))
            have h734_ := ((h113_ (S 1148 0)) h34_)
            by_cases c735_ : p2 = (-1)
            · skip
              have e736_ : (if p2 = (-1) then 0 else 1 : Int) = 0 := if_pos c735_
              have e737_ : (if p2 = (-1) then 1 else p4 + 2 : Int) = 1 := if_pos c735_
              exact (la_callWays_86 e50_ e737_)
            · skip
              have e738_ : (if p2 = (-1) then 0 else 1 : Int) = 1 := if_neg c735_
              have e739_ : (if p2 = (-1) then 1 else p4 + 2 : Int) = p4 + 2 := if_neg c735_
              exact (la_callWays_87 e50_ h54_ e739_)
          intro g130
          rintro ⟨h740_, ⟨h741_, ⟨h742_, ⟨h743_, ⟨h744_, ⟨h745_, h746_⟩⟩⟩⟩⟩⟩
          refine ⟨h740_, ?_⟩
          refine ⟨h741_, ?_⟩
          refine ⟨h742_, ?_⟩
          refine ⟨h743_, ?_⟩
          refine ⟨h744_, ?_⟩
          refine ⟨h745_, ?_⟩
          refine ⟨h746_, ?_⟩
          refine ⟨h116_, ?_⟩
          refine ⟨h117_, ?_⟩
          intro kv17
          intro h747_
          intro h748_
          refine ⟨?_, ?_⟩
          · skip
            have h749_ := (h30_ (S 1148 0))
            have h750_ := (h30_ (S 1148 0 + 1))
            have h751_ := ((h113_ (S 1148 0)) h34_)
            obtain ⟨h752_, h753_⟩ := (((h118_ kv17) h747_) h748_)
            have h754_ := ((h744_ (S 1148 0)) h751_)
            exact h752_
          have h755_ := (h30_ (S 1148 0))
          have h756_ := (h30_ (S 1148 0 + 1))
          have h757_ := ((h113_ (S 1148 0)) h34_)
          obtain ⟨h758_, h759_⟩ := (((h118_ kv17) h747_) h748_)
          have h760_ := ((h744_ (S 1148 0)) h757_)
          exact h759_
        refine ⟨?_, ?_⟩
        · skip
          intro h761_
          have h762_ := (h105_.resolve_right (la_callWays_81 h761_))
          refine ⟨h75_, ?_⟩
          refine ⟨h26_, ?_⟩
          refine ⟨h27_, ?_⟩
          refine ⟨h24_, ?_⟩
          refine ⟨?_, ?_⟩
          · skip
            intro kv18
            intro h763_
            exact h763_
          refine ⟨h31_, ?_⟩
          refine ⟨la_callWays_82, ?_⟩
          refine ⟨h37_, ?_⟩
          refine ⟨h38_, ?_⟩
          intro kv19
          intro h764_
          intro h765_
          refine ⟨?_, ?_⟩
          · skip
            have h766_ := (h30_ (S 1148 0))
            have h767_ := (h30_ (S 1148 0 + 1))
            obtain ⟨h768_, h769_⟩ := (((h39_ kv19) h764_) h765_)
            exact h768_
          have h770_ := (h30_ (S 1148 0))
          have h771_ := (h30_ (S 1148 0 + 1))
          obtain ⟨h772_, h773_⟩ := (((h39_ kv19) h764_) h765_)
          exact h773_
        intro h774_
        have h775_ := (h105_.resolve_left h774_)
        refine ⟨⟨h7_, ⟨h8_, ⟨h9_, ⟨h10_, ⟨h11_, ⟨h12_, ⟨h13_, ⟨h14_, ⟨h15_, ⟨h16_, ⟨h17_, ⟨h18_, ⟨h19_, ⟨h20_, ⟨h21_, ⟨h22_, ⟨h23_, ⟨h24_, ⟨h75_, ⟨h26_, ⟨h27_, ⟨h28_, ⟨h29_, ⟨h30_, ⟨h31_, (la_callWays_88 h32_ h34_ h46_)⟩⟩⟩⟩⟩⟩⟩⟩⟩⟩⟩⟩⟩⟩⟩⟩⟩⟩⟩⟩⟩⟩⟩⟩⟩, ?_⟩
        refine ⟨?_, ?_⟩
        · skip
          have h776_ := (h30_ (S 1148 0))
          have h777_ := (h30_ (S 1148 0 + 1))
          by_cases c778_ : p2 = (-1)
          · skip
            have e779_ : (if p2 = (-1) then 0 else 1 : Int) = 0 := if_pos c778_
            have e780_ : (if p2 = (-1) then 1 else p4 + 2 : Int) = 1 := if_pos c778_
            exact (la_callWays_86 e50_ e780_)
          · skip
            have e781_ : (if p2 = (-1) then 0 else 1 : Int) = 1 := if_neg c778_
            have e782_ : (if p2 = (-1) then 1 else p4 + 2 : Int) = p4 + 2 := if_neg c778_
            exact (la_callWays_87 e50_ h54_ e782_)
        intro g139
        rintro ⟨h783_, ⟨h784_, ⟨h785_, ⟨h786_, ⟨h787_, ⟨h788_, h789_⟩⟩⟩⟩⟩⟩
        refine ⟨h783_, ?_⟩
        refine ⟨h784_, ?_⟩
        refine ⟨h785_, ?_⟩
        refine ⟨h786_, ?_⟩
        refine ⟨h787_, ?_⟩
        refine ⟨h788_, ?_⟩
        refine ⟨h789_, ?_⟩
        refine ⟨h37_, ?_⟩
        refine ⟨h38_, ?_⟩
        intro kv20
        intro h790_
        intro h791_
        refine ⟨?_, ?_⟩
        · skip
          have h792_ := (h30_ (S 1148 0))
          have h793_ := (h30_ (S 1148 0 + 1))
          obtain ⟨h794_, h795_⟩ := (((h39_ kv20) h790_) h791_)
          have h796_ := ((h787_ (S 1148 0)) h34_)
          exact h794_
        have h797_ := (h30_ (S 1148 0))
        have h798_ := (h30_ (S 1148 0 + 1))
        obtain ⟨h799_, h800_⟩ := (((h39_ kv20) h790_) h791_)
        have h801_ := ((h787_ (S 1148 0)) h34_)
        exact h800_
      intro h802_
      refine ⟨(la_callWays_89 h8_ h103_ h802_), ?_⟩
      intro r150
      intro h803_
      rintro ⟨h804_, h805_⟩
      refine ⟨?_, ?_⟩
      · skip
        intro h806_
        have h807_ := (h805_.resolve_left h806_)
        refine ⟨?_, ?_⟩
        · skip
          intro s151
          intro h808_
          intro h809_
          refine ⟨?_, ?_⟩
          · skip
            intro s153
            intro h810_
            intro h811_
            refine ⟨(la_callWays_90 h8_ h103_ h802_), ?_⟩
            refine ⟨⟨(la_callWays_44 h103_), ⟨(la_callWays_28 h802_), ⟨h809_, h811_⟩⟩⟩, ?_⟩
            exact la_callWays_30
          refine ⟨la_callWays_91, ?_⟩
          intro h812_
          have h813_ := (h106_.resolve_right (la_callWays_80 h812_))
          refine ⟨(la_callWays_92 h8_ h11_ h12_ h103_ h802_), ?_⟩
          refine ⟨?_, ?_⟩
          · skip
            have h814_ := (h30_ (S 1148 0))
            have h815_ := (h30_ (S 1148 0 + 1))
            by_cases c816_ : p2 = (-1)
            · skip
              have e817_ : (if p2 = (-1) then 0 else 1 : Int) = 0 := if_pos c816_
              have e818_ : (if p2 = (-1) then 1 else p4 + 2 : Int) = 1 := if_pos c816_
              exact (la_callWays_93 e50_ e818_)
            · skip
              have e819_ : (if p2 = (-1) then 0 else 1 : Int) = 1 := if_neg c816_
              have e820_ : (if p2 = (-1) then 1 else p4 + 2 : Int) = p4 + 2 := if_neg c816_
              exact (la_callWays_94 e50_ h54_ e820_)
          intro r163
          intro h821_
          rintro ⟨h822_, h823_⟩
          refine ⟨la_callWays_95, ?_⟩
          intro h824_
          exact la_callWays_96
        refine ⟨la_callWays_91, ?_⟩
        intro h825_
        have h826_ := (h105_.resolve_right (la_callWays_80 h825_))
        refine ⟨(la_callWays_92 h8_ h11_ h12_ h103_ h802_), ?_⟩
        intro r170
        intro h827_
        rintro ⟨h828_, h829_⟩
        refine ⟨la_callWays_97, ?_⟩
        intro h830_
        have h831_ := (h828_.resolve_right (la_callWays_80 h830_))
        exact la_callWays_96
      intro h832_
      have h833_ := (h805_.resolve_right (la_callWays_80 h832_))
      refine ⟨(la_callWays_90 h8_ h103_ h802_), ?_⟩
      refine ⟨⟨(la_callWays_44 h103_), ⟨(la_callWays_28 h802_), ⟨h105_, h106_⟩⟩⟩, ?_⟩
      exact la_callWays_30
    refine ⟨?_, ?_⟩
    · skip
      have h834_ := (h30_ (S 1148 0))
      have h835_ := (h30_ (S 1148 0 + 1))
      by_cases c836_ : p2 = (-1)
      · skip
        have e837_ : (if p2 = (-1) then 0 else 1 : Int) = 0 := if_pos c836_
        have e838_ : (if p2 = (-1) then 1 else p4 + 2 : Int) = 1 := if_pos c836_
        exact (la_callWays_93 e50_ e838_)
      · skip
        have e839_ : (if p2 = (-1) then 0 else 1 : Int) = 1 := if_neg c836_
        have e840_ : (if p2 = (-1) then 1 else p4 + 2 : Int) = p4 + 2 := if_neg c836_
        exact (la_callWays_94 e50_ h54_ e840_)
    intro r178
    intro h841_
    intro h842_
    refine ⟨la_callWays_98, ?_⟩
    intro h843_
    exact la_callWays_96
  intro h844_
  have e845_ : (if p1 = (-1) then 0 else (if p2 = (-1) then 1 else p4 + 2) : Int) = 0 := if_pos (la_callWays_99 h40_ h844_)
  intro h846_
  refine ⟨⟨h7_, ⟨h8_, ⟨h9_, ⟨h10_, ⟨h11_, ⟨h12_, ⟨h13_, ⟨h14_, ⟨h15_, ⟨h16_, ⟨h17_, ⟨h18_, ⟨h19_, ⟨h20_, ⟨h21_, ⟨h22_, ⟨h23_, ⟨h24_, ⟨h25_, ⟨h26_, ⟨h27_, ⟨h28_, ⟨h29_, ⟨h30_, ⟨h31_, (la_callWays_88 h32_ h34_ h46_)⟩⟩⟩⟩⟩⟩⟩⟩⟩⟩⟩⟩⟩⟩⟩⟩⟩⟩⟩⟩⟩⟩⟩⟩⟩, ?_⟩
  refine ⟨(la_callWays_100 e845_), ?_⟩
  intro g182
  rintro ⟨h847_, ⟨h848_, ⟨h849_, ⟨h850_, ⟨h851_, ⟨h852_, h853_⟩⟩⟩⟩⟩⟩
  refine ⟨h847_, ?_⟩
  refine ⟨h848_, ?_⟩
  refine ⟨h849_, ?_⟩
  refine ⟨h850_, ?_⟩
  refine ⟨h851_, ?_⟩
  refine ⟨h852_, ?_⟩
  refine ⟨h853_, ?_⟩
  refine ⟨h37_, ?_⟩
  refine ⟨h38_, ?_⟩
  intro kv21
  intro h854_
  intro h855_
  refine ⟨?_, ?_⟩
  · skip
    have h856_ := (h30_ (S 1148 0))
    have h857_ := (h30_ (S 1148 0 + 1))
    obtain ⟨h858_, h859_⟩ := (((h39_ kv21) h854_) h855_)
    have h860_ := ((h851_ (S 1148 0)) h34_)
    exact h858_
  have h861_ := (h30_ (S 1148 0))
  have h862_ := (h30_ (S 1148 0 + 1))
  obtain ⟨h863_, h864_⟩ := (((h39_ kv21) h854_) h855_)
  have h865_ := ((h851_ (S 1148 0)) h34_)
  exact h864_
set_option maxRecDepth 8000 in
set_option maxHeartbeats 2000000 in
theorem s_callWays (d : Int) (h0 : 0 ≤ d) (IH : ∀ d' : Int, 0 ≤ d' → d' < d → P_CW d') : T_callWays d := by
  intro p1 p2 p3 p4 p5 S hok hp1 hp2 hp3 hp4 hp5 hpre hd
  have h := f_callWays d p1 p2 p3 p4 p5 S hok hp1 hp2 hp3 hp4 hp5 hpre hd
  have hM := sm_h281
  show sv_T sm_XS sm_cs sm_L sm_sh ((10 + (if p1 = -1 then 0 else if p2 = -1 then 1 else p4 + 2))).toNat (q_callWays p1 p2 p3 p4 p5 S) 281 0 [(0, .ref 0), (1, sv_I p1), (2, sv_I p2), (3, sv_I p3), (4, sv_I p4), (5, sv_I p5)] [] S
  refine sv_iload_n hM dX12_callWays_0 rfl rfl ?_
  refine sv_iconst (d := (-1 : Int)) hM dX12_callWays_1 rfl rfl ?_
  refine sv_icmp_ne hM dX12_callWays_2 hp1 (⟨by decide, by decide⟩ : sv_R (-1 : Int)) (t := 16) rfl rfl (fun hc => ?_) (fun hc => ?_)
  · have h := h.1 (hc)
    have k1 : (sm_CT (S 26) (S 27) (S 28) (S 29) (S 1100007) (S 1100023) (S 1100024) (S 1100025) (S 21) (S 1046 0) (S 1032 0) (S 1008 0) (S 1055 0) → 0 ≤ (S 1148 0) → (S 1148 0) < (S 1046 0) → 0 ≤ (S 1100007 (S 1148 0)) ∧ (S 1100007 (S 1148 0)) ≤ 396 ∧ -1 ≤ (S 1100023 (S 1148 0)) ∧ (S 1100023 (S 1148 0)) < (S 1148 0)) := fun h h0 h1 => by have q := sm_ct_0 h _ h0 h1; exact ⟨q.2.2.2.2.1, q.2.2.2.2.2.1, q.2.2.2.2.2.2.2.1, q.2.2.2.2.2.2.2.2.1⟩
    have h := h k1
    refine sv_aload_n hM dX12_callWays_16 rfl rfl ?_
    refine sv_aload_n hM dX12_callWays_17 rfl rfl ?_
    have k2 : sv_R (S 1148 0) := sm_okI hok sm_r1148 0
    have h := h k2
    refine sv_getI hM dX12_callWays_18 sm_fl_1188 (sm_a0 _) sm_k148 rfl (x := (S 1148 0)) rfl ?_
    obtain ⟨o3, h⟩ := h
    obtain ⟨o4, h⟩ := h
    refine sv_callV hM dX12_callWays_21 sm_iv_1211 (by decide) (sm_a0 _) rfl rfl (Nat.le_of_ble_eq_true rfl) sm_h231 (Nat.le_of_ble_eq_true rfl) (Nat.le_of_ble_eq_true rfl) (F' := 3) (sv_Fn (n := 3) o4) rfl (t_load (S 1148 0) S hok k2 o3) (fun v S1 hq => ?_)
    obtain ⟨rfl, ok6, md7, hpo8⟩ := hq
    obtain ⟨g5, rfl⟩ : ∃ g, S1 = sv_sts S [68, 69, 70, 81, 82, 83, 84, 85, 86, 74, 78, 79, 80, 76, 77, 1100031] g := ⟨_, md7.eq⟩
    show sv_T sm_XS sm_cs sm_L sm_sh ((10 + (if p1 = -1 then 0 else if p2 = -1 then 1 else p4 + 2))).toNat (q_callWays p1 p2 p3 p4 p5 S) 281 24 [(0, .ref 0), (1, sv_I p1), (2, sv_I p2), (3, sv_I p3), (4, sv_I p4), (5, sv_I p5)] [] (sv_sts S [68, 69, 70, 81, 82, 83, 84, 85, 86, 74, 78, 79, 80, 76, 77, 1100031] g5)
    have md9 : sv_mod [68, 69, 70, 81, 82, 83, 84, 85, 86, 71, 74, 75, 1127, 78, 79, 80, 72, 76, 77, 1143, 1144, 5, 1011, 1150, 1149, 1145, 1113, 1111, 1112, 91, 1147, 1100031] S (sv_sts S [68, 69, 70, 81, 82, 83, 84, 85, 86, 74, 78, 79, 80, 76, 77, 1100031] g5) := sv_mod.sts sv_mod.rf (by decide)
    have h := h g5 hpo8
    refine sv_aload_n hM dX12_callWays_24 rfl rfl ?_
    refine sv_sipush (d := (639 : Int)) hM dX12_callWays_25 rfl rfl ?_
    refine sv_iload_n hM dX12_callWays_28 rfl rfl ?_
    obtain ⟨o10, h⟩ := h
    obtain ⟨o11, h⟩ := h
    refine sv_callV hM dX12_callWays_29 sm_iv_1323 (by decide) (sm_a0 _) rfl rfl (Nat.le_of_ble_eq_true rfl) sm_h228 (Nat.le_of_ble_eq_true rfl) (Nat.le_of_ble_eq_true rfl) (F' := 0) (sv_Fn (n := 0) o11) rfl (t_onStack (639 : Int) p1 (sv_sts S [68, 69, 70, 81, 82, 83, 84, 85, 86, 74, 78, 79, 80, 76, 77, 1100031] g5) ok6 (⟨by decide, by decide⟩ : sv_R (639 : Int)) hp1 o10) (fun v S1 hq => ?_)
    obtain ⟨r16, rfl, hr16, ok13, md14, hpo15⟩ := hq
    obtain rfl : (sv_sts S [68, 69, 70, 81, 82, 83, 84, 85, 86, 74, 78, 79, 80, 76, 77, 1100031] g5) = S1 := (funext fun j => md14 j (by intro q; cases q)).symm
    show sv_T sm_XS sm_cs sm_L sm_sh ((10 + (if p1 = -1 then 0 else if p2 = -1 then 1 else p4 + 2))).toNat (q_callWays p1 p2 p3 p4 p5 S) 281 32 [(0, .ref 0), (1, sv_I p1), (2, sv_I p2), (3, sv_I p3), (4, sv_I p4), (5, sv_I p5)] [sv_I r16] (sv_sts S [68, 69, 70, 81, 82, 83, 84, 85, 86, 74, 78, 79, 80, 76, 77, 1100031] g5)
    have h := h r16 hr16 hpo15
    refine sv_istore hM dX12_callWays_32 (by decide) rfl ?_
    show sv_T sm_XS sm_cs sm_L sm_sh ((10 + (if p1 = -1 then 0 else if p2 = -1 then 1 else p4 + 2))).toNat (q_callWays p1 p2 p3 p4 p5 S) 281 34 [(0, .ref 0), (1, sv_I p1), (2, sv_I p2), (3, sv_I p3), (4, sv_I p4), (5, sv_I p5), (6, sv_I r16)] [] (sv_sts S [68, 69, 70, 81, 82, 83, 84, 85, 86, 74, 78, 79, 80, 76, 77, 1100031] g5)
    refine sv_aload_n hM dX12_callWays_34 rfl rfl ?_
    refine sv_getA hM dX12_callWays_35 sm_fl_220 (sm_a0 _) sm_k117 rfl ?_
    refine sv_iload hM dX12_callWays_38 rfl rfl ?_
    obtain ⟨o17, h⟩ := h
    have k18 : sv_RL (g5 69 r16) := sm_okJ ok13 sm_r69 r16
    have h := h k18
    refine sv_lald hM dX12_callWays_40 (sm_a69 _) (by decide) o17.1 o17.2 rfl (x := (g5 69 r16)) rfl ?_
    refine sv_lstore hM dX12_callWays_41 (by decide) rfl ?_
    show sv_T sm_XS sm_cs sm_L sm_sh ((10 + (if p1 = -1 then 0 else if p2 = -1 then 1 else p4 + 2))).toNat (q_callWays p1 p2 p3 p4 p5 S) 281 43 [(0, .ref 0), (1, sv_I p1), (2, sv_I p2), (3, sv_I p3), (4, sv_I p4), (5, sv_I p5), (6, sv_I r16), (7, sv_L (g5 69 r16))] [] (sv_sts S [68, 69, 70, 81, 82, 83, 84, 85, 86, 74, 78, 79, 80, 76, 77, 1100031] g5)
    refine sv_aload_n hM dX12_callWays_43 rfl rfl ?_
    refine sv_getA hM dX12_callWays_44 sm_fl_223 (sm_a0 _) sm_k118 rfl ?_
    refine sv_iload hM dX12_callWays_47 rfl rfl ?_
    have k19 : sv_RL (g5 70 r16) := sm_okJ ok13 sm_r70 r16
    have h := h k19
    refine sv_lald hM dX12_callWays_49 (sm_a70 _) (by decide) o17.1 o17.2 rfl (x := (g5 70 r16)) rfl ?_
    refine sv_lstore hM dX12_callWays_50 (by decide) rfl ?_
    show sv_T sm_XS sm_cs sm_L sm_sh ((10 + (if p1 = -1 then 0 else if p2 = -1 then 1 else p4 + 2))).toNat (q_callWays p1 p2 p3 p4 p5 S) 281 52 [(0, .ref 0), (1, sv_I p1), (2, sv_I p2), (3, sv_I p3), (4, sv_I p4), (5, sv_I p5), (6, sv_I r16), (7, sv_L (g5 69 r16)), (9, sv_L (g5 70 r16))] [] (sv_sts S [68, 69, 70, 81, 82, 83, 84, 85, 86, 74, 78, 79, 80, 76, 77, 1100031] g5)
    have J172 : ∀ s20 : Int, sv_R s20 → (s20 = 0 ∨ s20 = 1) → sv_T sm_XS sm_cs sm_L sm_sh ((10 + (if p1 = -1 then 0 else if p2 = -1 then 1 else p4 + 2))).toNat (q_callWays p1 p2 p3 p4 p5 S) 281 66 [(0, .ref 0), (1, sv_I p1), (2, sv_I p2), (3, sv_I p3), (4, sv_I p4), (5, sv_I p5), (6, sv_I r16), (7, sv_L (g5 69 r16)), (9, sv_L (g5 70 r16))] [sv_I s20] (sv_sts S [68, 69, 70, 81, 82, 83, 84, 85, 86, 74, 78, 79, 80, 76, 77, 1100031] g5) := by
      intro s20 hs20 hin21
      have h := h.1 s20 hs20 hin21
      refine sv_istore hM dX12_callWays_66 (by decide) rfl ?_
      show sv_T sm_XS sm_cs sm_L sm_sh ((10 + (if p1 = -1 then 0 else if p2 = -1 then 1 else p4 + 2))).toNat (q_callWays p1 p2 p3 p4 p5 S) 281 68 [(0, .ref 0), (1, sv_I p1), (2, sv_I p2), (3, sv_I p3), (4, sv_I p4), (5, sv_I p5), (6, sv_I r16), (7, sv_L (g5 69 r16)), (9, sv_L (g5 70 r16)), (11, sv_I s20)] [] (sv_sts S [68, 69, 70, 81, 82, 83, 84, 85, 86, 74, 78, 79, 80, 76, 77, 1100031] g5)
      refine sv_iconst (d := (0 : Int)) hM dX12_callWays_68 rfl rfl ?_
      refine sv_istore hM dX12_callWays_69 (by decide) rfl ?_
      show sv_T sm_XS sm_cs sm_L sm_sh ((10 + (if p1 = -1 then 0 else if p2 = -1 then 1 else p4 + 2))).toNat (q_callWays p1 p2 p3 p4 p5 S) 281 71 [(0, .ref 0), (1, sv_I p1), (2, sv_I p2), (3, sv_I p3), (4, sv_I p4), (5, sv_I p5), (6, sv_I r16), (7, sv_L (g5 69 r16)), (9, sv_L (g5 70 r16)), (11, sv_I s20), (12, sv_I (0 : Int))] [] (sv_sts S [68, 69, 70, 81, 82, 83, 84, 85, 86, 74, 78, 79, 80, 76, 77, 1100031] g5)
      refine sv_iconst (d := (0 : Int)) hM dX12_callWays_71 rfl rfl ?_
      refine sv_istore hM dX12_callWays_72 (by decide) rfl ?_
      show sv_T sm_XS sm_cs sm_L sm_sh ((10 + (if p1 = -1 then 0 else if p2 = -1 then 1 else p4 + 2))).toNat (q_callWays p1 p2 p3 p4 p5 S) 281 74 [(0, .ref 0), (1, sv_I p1), (2, sv_I p2), (3, sv_I p3), (4, sv_I p4), (5, sv_I p5), (6, sv_I r16), (7, sv_L (g5 69 r16)), (9, sv_L (g5 70 r16)), (11, sv_I s20), (12, sv_I (0 : Int)), (13, sv_I (0 : Int))] [] (sv_sts S [68, 69, 70, 81, 82, 83, 84, 85, 86, 74, 78, 79, 80, 76, 77, 1100031] g5)
      obtain ⟨hin26, h⟩ := h
      have hJ : ∀ a : Int × Int × Int × Unit, (sv_R a.1 ∧ sv_R a.2.1 ∧ sv_R a.2.2.1 ∧ sm_ok (sv_sts S [68, 69, 70, 81, 82, 83, 84, 85, 86, 74, 78, 79, 80, 76, 77, 1100031] g5) ∧ (0 ≤ a.2.2.1 ∧ a.2.2.1 ≤ (S 1071 0) ∧ (a.1 = 0 ∨ a.1 = 1) ∧ (a.2.1 = 0 ∨ a.2.1 = 1))) → sv_T sm_XS sm_cs sm_L sm_sh ((10 + (if p1 = -1 then 0 else if p2 = -1 then 1 else p4 + 2))).toNat (q_callWays p1 p2 p3 p4 p5 S) 281 74 [(0, .ref 0), (1, sv_I p1), (2, sv_I p2), (3, sv_I p3), (4, sv_I p4), (5, sv_I p5), (6, sv_I r16), (7, sv_L (g5 69 r16)), (9, sv_L (g5 70 r16)), (11, sv_I a.1), (12, sv_I a.2.1), (13, sv_I a.2.2.1)] [] (sv_sts S [68, 69, 70, 81, 82, 83, 84, 85, 86, 74, 78, 79, 80, 76, 77, 1100031] g5) := by
        refine sv_loop (α := Int × Int × Int × Unit) (fun a => sv_R a.1 ∧ sv_R a.2.1 ∧ sv_R a.2.2.1 ∧ sm_ok (sv_sts S [68, 69, 70, 81, 82, 83, 84, 85, 86, 74, 78, 79, 80, 76, 77, 1100031] g5) ∧ (0 ≤ a.2.2.1 ∧ a.2.2.1 ≤ (S 1071 0) ∧ (a.1 = 0 ∨ a.1 = 1) ∧ (a.2.1 = 0 ∨ a.2.1 = 1))) (fun a => (S 1071 0) - a.2.2.1) (fun a => sv_T sm_XS sm_cs sm_L sm_sh ((10 + (if p1 = -1 then 0 else if p2 = -1 then 1 else p4 + 2))).toNat (q_callWays p1 p2 p3 p4 p5 S) 281 74 [(0, .ref 0), (1, sv_I p1), (2, sv_I p2), (3, sv_I p3), (4, sv_I p4), (5, sv_I p5), (6, sv_I r16), (7, sv_L (g5 69 r16)), (9, sv_L (g5 70 r16)), (11, sv_I a.1), (12, sv_I a.2.1), (13, sv_I a.2.2.1)] [] (sv_sts S [68, 69, 70, 81, 82, 83, 84, 85, 86, 74, 78, 79, 80, 76, 77, 1100031] g5)) (fun a q => (h a.1 q.1 a.2.1 q.2.1 a.2.2.1 q.2.2.1 q.2.2.2.2).1) (fun a q ih25 => ?_)
        obtain ⟨l11_22, l12_23, l13_24, _u⟩ := a
        obtain ⟨hl11_22, hl12_23, hl13_24, ok27, hin26i⟩ := q
        have h := (h l11_22 hl11_22 l12_23 hl12_23 l13_24 hl13_24 hin26i).2
        show sv_T sm_XS sm_cs sm_L sm_sh ((10 + (if p1 = -1 then 0 else if p2 = -1 then 1 else p4 + 2))).toNat (q_callWays p1 p2 p3 p4 p5 S) 281 74 [(0, .ref 0), (1, sv_I p1), (2, sv_I p2), (3, sv_I p3), (4, sv_I p4), (5, sv_I p5), (6, sv_I r16), (7, sv_L (g5 69 r16)), (9, sv_L (g5 70 r16)), (11, sv_I l11_22), (12, sv_I l12_23), (13, sv_I l13_24)] [] (sv_sts S [68, 69, 70, 81, 82, 83, 84, 85, 86, 74, 78, 79, 80, 76, 77, 1100031] g5)
        refine sv_iload hM dX12_callWays_74 rfl rfl ?_
        refine sv_aload_n hM dX12_callWays_76 rfl rfl ?_
        have k28 : sv_R (S 1071 0) := sm_okI ok27 sm_r1071 0
        have h := h k28
        refine sv_getI hM dX12_callWays_77 sm_fl_765 (sm_a0 _) sm_k71 rfl (x := (S 1071 0)) rfl ?_
        refine sv_icmp_ge hM dX12_callWays_80 hl13_24 k28 (t := 146) rfl rfl (fun hc => ?_) (fun hc => ?_)
        · have h := h.1 (hc)
          have J136 : ∀ g29 : sv_S, sm_ok (sv_sts (sv_sts S [68, 69, 70, 81, 82, 83, 84, 85, 86, 74, 78, 79, 80, 76, 77, 1100031] g5) [68, 69, 70, 81, 82, 83, 84, 85, 86, 71, 74, 75, 1127, 78, 79, 80, 72, 76, 77, 1143, 1144, 5, 1011, 1150, 1149, 1145, 1113, 1111, 1112, 91, 1147, 1100031] g29) → (sm_ST (g29 71) (g29 74) (g29 75) (g29 78) (g29 79) (g29 80) (S 27) (S 1100007) (S 1100023) (S 1100024) (S 1046 0) ((S 1046 0) + 2 * (S 1032 0)) (g29 1127 0) ∧ 465000 ≤ (g29 1127 0) ∧ (g29 1127 0) + sm_hs (g29 71) (S 1100007) ≤ 635000 ∧ (g29 75 639) = 647340 ∧ (∀ k : Int, (S 71 k) = 1 → (g29 71 k) = 1) ∧ sm_DR (g29 72) (g29 71) (S 1046 0) ∧ (641 * (sm_cm (g29 71) + sm_pt (g29 68) (g29 69) (g29 70) + sm_pl (g29 81) (g29 82) (g29 83) (g29 84) (g29 85) (g29 86) + sm_ps (g29 76) (g29 77)) + sm_du (g29 72)) ≤ (641 * (sm_cm (S 71) + sm_pt (g5 68) (g5 69) (g5 70) + sm_pl (g5 81) (g5 82) (g5 83) (g5 84) (g5 85) (g5 86) + sm_ps (g5 76) (g5 77)) + sm_du (S 72)) ∧ 0 ≤ (g29 1147 0) ∧ (g29 1147 0) ≤ 12 ∧ (∀ k : Int, 0 ≤ k → k < (g29 1147 0) → 635639 ≤ (g29 91 k) ∧ (g29 91 k) < 647800)) → sv_T sm_XS sm_cs sm_L sm_sh ((10 + (if p1 = -1 then 0 else if p2 = -1 then 1 else p4 + 2))).toNat (q_callWays p1 p2 p3 p4 p5 S) 281 161 [(0, .ref 0), (1, sv_I p1), (2, sv_I p2), (3, sv_I p3), (4, sv_I p4), (5, sv_I p5), (6, sv_I r16), (7, sv_L (g5 69 r16)), (9, sv_L (g5 70 r16)), (11, sv_I l11_22), (12, sv_I l12_23), (13, sv_I l13_24)] [] (sv_sts (sv_sts S [68, 69, 70, 81, 82, 83, 84, 85, 86, 74, 78, 79, 80, 76, 77, 1100031] g5) [68, 69, 70, 81, 82, 83, 84, 85, 86, 71, 74, 75, 1127, 78, 79, 80, 72, 76, 77, 1143, 1144, 5, 1011, 1150, 1149, 1145, 1113, 1111, 1112, 91, 1147, 1100031] g29) := by
            intro  g29 ok30 hin31
            have h := h.1 g29 hin31
            have md32 : sv_mod [68, 69, 70, 81, 82, 83, 84, 85, 86, 71, 74, 75, 1127, 78, 79, 80, 72, 76, 77, 1143, 1144, 5, 1011, 1150, 1149, 1145, 1113, 1111, 1112, 91, 1147, 1100031] S (sv_sts (sv_sts S [68, 69, 70, 81, 82, 83, 84, 85, 86, 74, 78, 79, 80, 76, 77, 1100031] g5) [68, 69, 70, 81, 82, 83, 84, 85, 86, 71, 74, 75, 1127, 78, 79, 80, 72, 76, 77, 1143, 1144, 5, 1011, 1150, 1149, 1145, 1113, 1111, 1112, 91, 1147, 1100031] g29) := sv_mod.sts md9 (by decide)
            have md33 : sv_mod [68, 69, 70, 81, 82, 83, 84, 85, 86, 71, 74, 75, 1127, 78, 79, 80, 72, 76, 77, 1143, 1144, 5, 1011, 1150, 1149, 1145, 1113, 1111, 1112, 91, 1147, 1100031] (sv_sts S [68, 69, 70, 81, 82, 83, 84, 85, 86, 74, 78, 79, 80, 76, 77, 1100031] g5) (sv_sts (sv_sts S [68, 69, 70, 81, 82, 83, 84, 85, 86, 74, 78, 79, 80, 76, 77, 1100031] g5) [68, 69, 70, 81, 82, 83, 84, 85, 86, 71, 74, 75, 1127, 78, 79, 80, 72, 76, 77, 1143, 1144, 5, 1011, 1150, 1149, 1145, 1113, 1111, 1112, 91, 1147, 1100031] g29) := sv_mod.sts sv_mod.rf (by decide)
            have J127 : ∀ g34 : sv_S, sm_ok (sv_sts (sv_sts (sv_sts S [68, 69, 70, 81, 82, 83, 84, 85, 86, 74, 78, 79, 80, 76, 77, 1100031] g5) [68, 69, 70, 81, 82, 83, 84, 85, 86, 71, 74, 75, 1127, 78, 79, 80, 72, 76, 77, 1143, 1144, 5, 1011, 1150, 1149, 1145, 1113, 1111, 1112, 91, 1147, 1100031] g29) [68, 69, 70, 81, 82, 83, 84, 85, 86, 71, 74, 75, 1127, 78, 79, 80, 72, 76, 77, 1143, 1144, 5, 1011, 1150, 1149, 1145, 1113, 1111, 1112, 91, 1147, 1100031] g34) → (sm_ST (g34 71) (g34 74) (g34 75) (g34 78) (g34 79) (g34 80) (S 27) (S 1100007) (S 1100023) (S 1100024) (S 1046 0) ((S 1046 0) + 2 * (S 1032 0)) (g34 1127 0) ∧ 465000 ≤ (g34 1127 0) ∧ (g34 1127 0) + sm_hs (g34 71) (S 1100007) ≤ 635000 ∧ (g34 75 639) = 647340 ∧ (∀ k : Int, (g29 71 k) = 1 → (g34 71 k) = 1) ∧ sm_DR (g34 72) (g34 71) (S 1046 0) ∧ (641 * (sm_cm (g34 71) + sm_pt (g34 68) (g34 69) (g34 70) + sm_pl (g34 81) (g34 82) (g34 83) (g34 84) (g34 85) (g34 86) + sm_ps (g34 76) (g34 77)) + sm_du (g34 72)) ≤ (641 * (sm_cm (g29 71) + sm_pt (g29 68) (g29 69) (g29 70) + sm_pl (g29 81) (g29 82) (g29 83) (g29 84) (g29 85) (g29 86) + sm_ps (g29 76) (g29 77)) + sm_du (g29 72)) ∧ 0 ≤ (g34 1147 0) ∧ (g34 1147 0) ≤ 12 ∧ (∀ k : Int, 0 ≤ k → k < (g34 1147 0) → 635639 ≤ (g34 91 k) ∧ (g34 91 k) < 647800)) → sv_T sm_XS sm_cs sm_L sm_sh ((10 + (if p1 = -1 then 0 else if p2 = -1 then 1 else p4 + 2))).toNat (q_callWays p1 p2 p3 p4 p5 S) 281 176 [(0, .ref 0), (1, sv_I p1), (2, sv_I p2), (3, sv_I p3), (4, sv_I p4), (5, sv_I p5), (6, sv_I r16), (7, sv_L (g5 69 r16)), (9, sv_L (g5 70 r16)), (11, sv_I l11_22), (12, sv_I l12_23), (13, sv_I l13_24)] [] (sv_sts (sv_sts (sv_sts S [68, 69, 70, 81, 82, 83, 84, 85, 86, 74, 78, 79, 80, 76, 77, 1100031] g5) [68, 69, 70, 81, 82, 83, 84, 85, 86, 71, 74, 75, 1127, 78, 79, 80, 72, 76, 77, 1143, 1144, 5, 1011, 1150, 1149, 1145, 1113, 1111, 1112, 91, 1147, 1100031] g29) [68, 69, 70, 81, 82, 83, 84, 85, 86, 71, 74, 75, 1127, 78, 79, 80, 72, 76, 77, 1143, 1144, 5, 1011, 1150, 1149, 1145, 1113, 1111, 1112, 91, 1147, 1100031] g34) := by
              intro  g34 ok35 hin36
              have h := h.1 g34 hin36
              have md37 : sv_mod [68, 69, 70, 81, 82, 83, 84, 85, 86, 71, 74, 75, 1127, 78, 79, 80, 72, 76, 77, 1143, 1144, 5, 1011, 1150, 1149, 1145, 1113, 1111, 1112, 91, 1147, 1100031] S (sv_sts (sv_sts (sv_sts S [68, 69, 70, 81, 82, 83, 84, 85, 86, 74, 78, 79, 80, 76, 77, 1100031] g5) [68, 69, 70, 81, 82, 83, 84, 85, 86, 71, 74, 75, 1127, 78, 79, 80, 72, 76, 77, 1143, 1144, 5, 1011, 1150, 1149, 1145, 1113, 1111, 1112, 91, 1147, 1100031] g29) [68, 69, 70, 81, 82, 83, 84, 85, 86, 71, 74, 75, 1127, 78, 79, 80, 72, 76, 77, 1143, 1144, 5, 1011, 1150, 1149, 1145, 1113, 1111, 1112, 91, 1147, 1100031] g34) := sv_mod.sts md32 (by decide)
              have md38 : sv_mod [68, 69, 70, 81, 82, 83, 84, 85, 86, 71, 74, 75, 1127, 78, 79, 80, 72, 76, 77, 1143, 1144, 5, 1011, 1150, 1149, 1145, 1113, 1111, 1112, 91, 1147, 1100031] (sv_sts (sv_sts S [68, 69, 70, 81, 82, 83, 84, 85, 86, 74, 78, 79, 80, 76, 77, 1100031] g5) [68, 69, 70, 81, 82, 83, 84, 85, 86, 71, 74, 75, 1127, 78, 79, 80, 72, 76, 77, 1143, 1144, 5, 1011, 1150, 1149, 1145, 1113, 1111, 1112, 91, 1147, 1100031] g29) (sv_sts (sv_sts (sv_sts S [68, 69, 70, 81, 82, 83, 84, 85, 86, 74, 78, 79, 80, 76, 77, 1100031] g5) [68, 69, 70, 81, 82, 83, 84, 85, 86, 71, 74, 75, 1127, 78, 79, 80, 72, 76, 77, 1143, 1144, 5, 1011, 1150, 1149, 1145, 1113, 1111, 1112, 91, 1147, 1100031] g29) [68, 69, 70, 81, 82, 83, 84, 85, 86, 71, 74, 75, 1127, 78, 79, 80, 72, 76, 77, 1143, 1144, 5, 1011, 1150, 1149, 1145, 1113, 1111, 1112, 91, 1147, 1100031] g34) := sv_mod.sts sv_mod.rf (by decide)
              refine sv_bipush (d := (9 : Int)) hM dX12_callWays_176 rfl rfl ?_
              refine sv_istore hM dX12_callWays_178 (by decide) rfl ?_
              show sv_T sm_XS sm_cs sm_L sm_sh ((10 + (if p1 = -1 then 0 else if p2 = -1 then 1 else p4 + 2))).toNat (q_callWays p1 p2 p3 p4 p5 S) 281 180 [(0, .ref 0), (1, sv_I p1), (2, sv_I p2), (3, sv_I p3), (4, sv_I p4), (5, sv_I p5), (6, sv_I r16), (7, sv_L (g5 69 r16)), (9, sv_L (g5 70 r16)), (11, sv_I l11_22), (12, sv_I l12_23), (13, sv_I (9 : Int))] [] (sv_sts (sv_sts (sv_sts S [68, 69, 70, 81, 82, 83, 84, 85, 86, 74, 78, 79, 80, 76, 77, 1100031] g5) [68, 69, 70, 81, 82, 83, 84, 85, 86, 71, 74, 75, 1127, 78, 79, 80, 72, 76, 77, 1143, 1144, 5, 1011, 1150, 1149, 1145, 1113, 1111, 1112, 91, 1147, 1100031] g29) [68, 69, 70, 81, 82, 83, 84, 85, 86, 71, 74, 75, 1127, 78, 79, 80, 72, 76, 77, 1143, 1144, 5, 1011, 1150, 1149, 1145, 1113, 1111, 1112, 91, 1147, 1100031] g34)
              obtain ⟨hin42, h⟩ := h
              have hJ : ∀ a : Int × sv_S, (sv_R a.1 ∧ sm_ok (sv_sts (sv_sts (sv_sts (sv_sts S [68, 69, 70, 81, 82, 83, 84, 85, 86, 74, 78, 79, 80, 76, 77, 1100031] g5) [68, 69, 70, 81, 82, 83, 84, 85, 86, 71, 74, 75, 1127, 78, 79, 80, 72, 76, 77, 1143, 1144, 5, 1011, 1150, 1149, 1145, 1113, 1111, 1112, 91, 1147, 1100031] g29) [68, 69, 70, 81, 82, 83, 84, 85, 86, 71, 74, 75, 1127, 78, 79, 80, 72, 76, 77, 1143, 1144, 5, 1011, 1150, 1149, 1145, 1113, 1111, 1112, 91, 1147, 1100031] g34) [68, 69, 70, 81, 82, 83, 84, 85, 86, 71, 74, 75, 1127, 78, 79, 80, 72, 76, 77, 1143, 1144, 5, 1011, 1150, 1149, 1145, 1113, 1111, 1112, 91, 1147, 1100031] a.2) ∧ (9 ≤ a.1 ∧ a.1 ≤ 23 ∧ sm_ST (a.2 71) (a.2 74) (a.2 75) (a.2 78) (a.2 79) (a.2 80) (S 27) (S 1100007) (S 1100023) (S 1100024) (S 1046 0) ((S 1046 0) + 2 * (S 1032 0)) (a.2 1127 0) ∧ 465000 ≤ (a.2 1127 0) ∧ (a.2 1127 0) + sm_hs (a.2 71) (S 1100007) ≤ 635000 ∧ (a.2 75 639) = 647340 ∧ (∀ k : Int, (S 71 k) = 1 → (a.2 71 k) = 1) ∧ sm_DR (a.2 72) (a.2 71) (S 1046 0) ∧ (641 * (sm_cm (a.2 71) + sm_pt (a.2 68) (a.2 69) (a.2 70) + sm_pl (a.2 81) (a.2 82) (a.2 83) (a.2 84) (a.2 85) (a.2 86) + sm_ps (a.2 76) (a.2 77)) + sm_du (a.2 72)) ≤ (641 * (sm_cm (S 71) + sm_pt (S 68) (S 69) (S 70) + sm_pl (S 81) (S 82) (S 83) (S 84) (S 85) (S 86) + sm_ps (S 76) (S 77)) + sm_du (S 72)) ∧ 0 ≤ (a.2 1147 0) ∧ (a.2 1147 0) ≤ 12 ∧ (∀ k : Int, 0 ≤ k → k < (a.2 1147 0) → 635639 ≤ (a.2 91 k) ∧ (a.2 91 k) < 647800))) → sv_T sm_XS sm_cs sm_L sm_sh ((10 + (if p1 = -1 then 0 else if p2 = -1 then 1 else p4 + 2))).toNat (q_callWays p1 p2 p3 p4 p5 S) 281 180 [(0, .ref 0), (1, sv_I p1), (2, sv_I p2), (3, sv_I p3), (4, sv_I p4), (5, sv_I p5), (6, sv_I r16), (7, sv_L (g5 69 r16)), (9, sv_L (g5 70 r16)), (11, sv_I l11_22), (12, sv_I l12_23), (13, sv_I a.1)] [] (sv_sts (sv_sts (sv_sts (sv_sts S [68, 69, 70, 81, 82, 83, 84, 85, 86, 74, 78, 79, 80, 76, 77, 1100031] g5) [68, 69, 70, 81, 82, 83, 84, 85, 86, 71, 74, 75, 1127, 78, 79, 80, 72, 76, 77, 1143, 1144, 5, 1011, 1150, 1149, 1145, 1113, 1111, 1112, 91, 1147, 1100031] g29) [68, 69, 70, 81, 82, 83, 84, 85, 86, 71, 74, 75, 1127, 78, 79, 80, 72, 76, 77, 1143, 1144, 5, 1011, 1150, 1149, 1145, 1113, 1111, 1112, 91, 1147, 1100031] g34) [68, 69, 70, 81, 82, 83, 84, 85, 86, 71, 74, 75, 1127, 78, 79, 80, 72, 76, 77, 1143, 1144, 5, 1011, 1150, 1149, 1145, 1113, 1111, 1112, 91, 1147, 1100031] a.2) := by
                refine sv_loop (α := Int × sv_S) (fun a => sv_R a.1 ∧ sm_ok (sv_sts (sv_sts (sv_sts (sv_sts S [68, 69, 70, 81, 82, 83, 84, 85, 86, 74, 78, 79, 80, 76, 77, 1100031] g5) [68, 69, 70, 81, 82, 83, 84, 85, 86, 71, 74, 75, 1127, 78, 79, 80, 72, 76, 77, 1143, 1144, 5, 1011, 1150, 1149, 1145, 1113, 1111, 1112, 91, 1147, 1100031] g29) [68, 69, 70, 81, 82, 83, 84, 85, 86, 71, 74, 75, 1127, 78, 79, 80, 72, 76, 77, 1143, 1144, 5, 1011, 1150, 1149, 1145, 1113, 1111, 1112, 91, 1147, 1100031] g34) [68, 69, 70, 81, 82, 83, 84, 85, 86, 71, 74, 75, 1127, 78, 79, 80, 72, 76, 77, 1143, 1144, 5, 1011, 1150, 1149, 1145, 1113, 1111, 1112, 91, 1147, 1100031] a.2) ∧ (9 ≤ a.1 ∧ a.1 ≤ 23 ∧ sm_ST (a.2 71) (a.2 74) (a.2 75) (a.2 78) (a.2 79) (a.2 80) (S 27) (S 1100007) (S 1100023) (S 1100024) (S 1046 0) ((S 1046 0) + 2 * (S 1032 0)) (a.2 1127 0) ∧ 465000 ≤ (a.2 1127 0) ∧ (a.2 1127 0) + sm_hs (a.2 71) (S 1100007) ≤ 635000 ∧ (a.2 75 639) = 647340 ∧ (∀ k : Int, (S 71 k) = 1 → (a.2 71 k) = 1) ∧ sm_DR (a.2 72) (a.2 71) (S 1046 0) ∧ (641 * (sm_cm (a.2 71) + sm_pt (a.2 68) (a.2 69) (a.2 70) + sm_pl (a.2 81) (a.2 82) (a.2 83) (a.2 84) (a.2 85) (a.2 86) + sm_ps (a.2 76) (a.2 77)) + sm_du (a.2 72)) ≤ (641 * (sm_cm (S 71) + sm_pt (S 68) (S 69) (S 70) + sm_pl (S 81) (S 82) (S 83) (S 84) (S 85) (S 86) + sm_ps (S 76) (S 77)) + sm_du (S 72)) ∧ 0 ≤ (a.2 1147 0) ∧ (a.2 1147 0) ≤ 12 ∧ (∀ k : Int, 0 ≤ k → k < (a.2 1147 0) → 635639 ≤ (a.2 91 k) ∧ (a.2 91 k) < 647800))) (fun a => 23 - a.1) (fun a => sv_T sm_XS sm_cs sm_L sm_sh ((10 + (if p1 = -1 then 0 else if p2 = -1 then 1 else p4 + 2))).toNat (q_callWays p1 p2 p3 p4 p5 S) 281 180 [(0, .ref 0), (1, sv_I p1), (2, sv_I p2), (3, sv_I p3), (4, sv_I p4), (5, sv_I p5), (6, sv_I r16), (7, sv_L (g5 69 r16)), (9, sv_L (g5 70 r16)), (11, sv_I l11_22), (12, sv_I l12_23), (13, sv_I a.1)] [] (sv_sts (sv_sts (sv_sts (sv_sts S [68, 69, 70, 81, 82, 83, 84, 85, 86, 74, 78, 79, 80, 76, 77, 1100031] g5) [68, 69, 70, 81, 82, 83, 84, 85, 86, 71, 74, 75, 1127, 78, 79, 80, 72, 76, 77, 1143, 1144, 5, 1011, 1150, 1149, 1145, 1113, 1111, 1112, 91, 1147, 1100031] g29) [68, 69, 70, 81, 82, 83, 84, 85, 86, 71, 74, 75, 1127, 78, 79, 80, 72, 76, 77, 1143, 1144, 5, 1011, 1150, 1149, 1145, 1113, 1111, 1112, 91, 1147, 1100031] g34) [68, 69, 70, 81, 82, 83, 84, 85, 86, 71, 74, 75, 1127, 78, 79, 80, 72, 76, 77, 1143, 1144, 5, 1011, 1150, 1149, 1145, 1113, 1111, 1112, 91, 1147, 1100031] a.2)) (fun a q => (h a.1 q.1 a.2 q.2.2).1) (fun a q ih41 => ?_)
                obtain ⟨l13_40, g39⟩ := a
                obtain ⟨hl13_40, ok43, hin42i⟩ := q
                have h := (h l13_40 hl13_40 g39 hin42i).2
                show sv_T sm_XS sm_cs sm_L sm_sh ((10 + (if p1 = -1 then 0 else if p2 = -1 then 1 else p4 + 2))).toNat (q_callWays p1 p2 p3 p4 p5 S) 281 180 [(0, .ref 0), (1, sv_I p1), (2, sv_I p2), (3, sv_I p3), (4, sv_I p4), (5, sv_I p5), (6, sv_I r16), (7, sv_L (g5 69 r16)), (9, sv_L (g5 70 r16)), (11, sv_I l11_22), (12, sv_I l12_23), (13, sv_I l13_40)] [] (sv_sts (sv_sts (sv_sts (sv_sts S [68, 69, 70, 81, 82, 83, 84, 85, 86, 74, 78, 79, 80, 76, 77, 1100031] g5) [68, 69, 70, 81, 82, 83, 84, 85, 86, 71, 74, 75, 1127, 78, 79, 80, 72, 76, 77, 1143, 1144, 5, 1011, 1150, 1149, 1145, 1113, 1111, 1112, 91, 1147, 1100031] g29) [68, 69, 70, 81, 82, 83, 84, 85, 86, 71, 74, 75, 1127, 78, 79, 80, 72, 76, 77, 1143, 1144, 5, 1011, 1150, 1149, 1145, 1113, 1111, 1112, 91, 1147, 1100031] g34) [68, 69, 70, 81, 82, 83, 84, 85, 86, 71, 74, 75, 1127, 78, 79, 80, 72, 76, 77, 1143, 1144, 5, 1011, 1150, 1149, 1145, 1113, 1111, 1112, 91, 1147, 1100031] g39)
                have md44 : sv_mod [68, 69, 70, 81, 82, 83, 84, 85, 86, 71, 74, 75, 1127, 78, 79, 80, 72, 76, 77, 1143, 1144, 5, 1011, 1150, 1149, 1145, 1113, 1111, 1112, 91, 1147, 1100031] S (sv_sts (sv_sts (sv_sts (sv_sts S [68, 69, 70, 81, 82, 83, 84, 85, 86, 74, 78, 79, 80, 76, 77, 1100031] g5) [68, 69, 70, 81, 82, 83, 84, 85, 86, 71, 74, 75, 1127, 78, 79, 80, 72, 76, 77, 1143, 1144, 5, 1011, 1150, 1149, 1145, 1113, 1111, 1112, 91, 1147, 1100031] g29) [68, 69, 70, 81, 82, 83, 84, 85, 86, 71, 74, 75, 1127, 78, 79, 80, 72, 76, 77, 1143, 1144, 5, 1011, 1150, 1149, 1145, 1113, 1111, 1112, 91, 1147, 1100031] g34) [68, 69, 70, 81, 82, 83, 84, 85, 86, 71, 74, 75, 1127, 78, 79, 80, 72, 76, 77, 1143, 1144, 5, 1011, 1150, 1149, 1145, 1113, 1111, 1112, 91, 1147, 1100031] g39) := sv_mod.sts md37 (by decide)
                have md45 : sv_mod [68, 69, 70, 81, 82, 83, 84, 85, 86, 71, 74, 75, 1127, 78, 79, 80, 72, 76, 77, 1143, 1144, 5, 1011, 1150, 1149, 1145, 1113, 1111, 1112, 91, 1147, 1100031] (sv_sts (sv_sts (sv_sts S [68, 69, 70, 81, 82, 83, 84, 85, 86, 74, 78, 79, 80, 76, 77, 1100031] g5) [68, 69, 70, 81, 82, 83, 84, 85, 86, 71, 74, 75, 1127, 78, 79, 80, 72, 76, 77, 1143, 1144, 5, 1011, 1150, 1149, 1145, 1113, 1111, 1112, 91, 1147, 1100031] g29) [68, 69, 70, 81, 82, 83, 84, 85, 86, 71, 74, 75, 1127, 78, 79, 80, 72, 76, 77, 1143, 1144, 5, 1011, 1150, 1149, 1145, 1113, 1111, 1112, 91, 1147, 1100031] g34) (sv_sts (sv_sts (sv_sts (sv_sts S [68, 69, 70, 81, 82, 83, 84, 85, 86, 74, 78, 79, 80, 76, 77, 1100031] g5) [68, 69, 70, 81, 82, 83, 84, 85, 86, 71, 74, 75, 1127, 78, 79, 80, 72, 76, 77, 1143, 1144, 5, 1011, 1150, 1149, 1145, 1113, 1111, 1112, 91, 1147, 1100031] g29) [68, 69, 70, 81, 82, 83, 84, 85, 86, 71, 74, 75, 1127, 78, 79, 80, 72, 76, 77, 1143, 1144, 5, 1011, 1150, 1149, 1145, 1113, 1111, 1112, 91, 1147, 1100031] g34) [68, 69, 70, 81, 82, 83, 84, 85, 86, 71, 74, 75, 1127, 78, 79, 80, 72, 76, 77, 1143, 1144, 5, 1011, 1150, 1149, 1145, 1113, 1111, 1112, 91, 1147, 1100031] g39) := sv_mod.sts sv_mod.rf (by decide)
                refine sv_iload hM dX12_callWays_180 rfl rfl ?_
                refine sv_bipush (d := (23 : Int)) hM dX12_callWays_182 rfl rfl ?_
                refine sv_icmp_ge hM dX12_callWays_184 hl13_40 (⟨by decide, by decide⟩ : sv_R (23 : Int)) (t := 263) rfl rfl (fun hc => ?_) (fun hc => ?_)
                · have h := h.1 (hc)
                  refine sv_iconst (d := (1 : Int)) hM dX12_callWays_263 rfl rfl ?_
                  refine sv_istore hM dX12_callWays_264 (by decide) rfl ?_
                  show sv_T sm_XS sm_cs sm_L sm_sh ((10 + (if p1 = -1 then 0 else if p2 = -1 then 1 else p4 + 2))).toNat (q_callWays p1 p2 p3 p4 p5 S) 281 266 [(0, .ref 0), (1, sv_I p1), (2, sv_I p2), (3, sv_I p3), (4, sv_I p4), (5, sv_I p5), (6, sv_I r16), (7, sv_L (g5 69 r16)), (9, sv_L (g5 70 r16)), (11, sv_I l11_22), (12, sv_I l12_23), (13, sv_I (1 : Int))] [] (sv_sts (sv_sts (sv_sts (sv_sts S [68, 69, 70, 81, 82, 83, 84, 85, 86, 74, 78, 79, 80, 76, 77, 1100031] g5) [68, 69, 70, 81, 82, 83, 84, 85, 86, 71, 74, 75, 1127, 78, 79, 80, 72, 76, 77, 1143, 1144, 5, 1011, 1150, 1149, 1145, 1113, 1111, 1112, 91, 1147, 1100031] g29) [68, 69, 70, 81, 82, 83, 84, 85, 86, 71, 74, 75, 1127, 78, 79, 80, 72, 76, 77, 1143, 1144, 5, 1011, 1150, 1149, 1145, 1113, 1111, 1112, 91, 1147, 1100031] g34) [68, 69, 70, 81, 82, 83, 84, 85, 86, 71, 74, 75, 1127, 78, 79, 80, 72, 76, 77, 1143, 1144, 5, 1011, 1150, 1149, 1145, 1113, 1111, 1112, 91, 1147, 1100031] g39)
                  obtain ⟨hin49, h⟩ := h
                  have hJ : ∀ a : Int × sv_S, (sv_R a.1 ∧ sm_ok (sv_sts (sv_sts (sv_sts (sv_sts (sv_sts S [68, 69, 70, 81, 82, 83, 84, 85, 86, 74, 78, 79, 80, 76, 77, 1100031] g5) [68, 69, 70, 81, 82, 83, 84, 85, 86, 71, 74, 75, 1127, 78, 79, 80, 72, 76, 77, 1143, 1144, 5, 1011, 1150, 1149, 1145, 1113, 1111, 1112, 91, 1147, 1100031] g29) [68, 69, 70, 81, 82, 83, 84, 85, 86, 71, 74, 75, 1127, 78, 79, 80, 72, 76, 77, 1143, 1144, 5, 1011, 1150, 1149, 1145, 1113, 1111, 1112, 91, 1147, 1100031] g34) [68, 69, 70, 81, 82, 83, 84, 85, 86, 71, 74, 75, 1127, 78, 79, 80, 72, 76, 77, 1143, 1144, 5, 1011, 1150, 1149, 1145, 1113, 1111, 1112, 91, 1147, 1100031] g39) [68, 69, 70, 81, 82, 83, 84, 85, 86, 71, 74, 75, 1127, 78, 79, 80, 72, 76, 77, 1143, 1144, 5, 1011, 1150, 1149, 1145, 1113, 1111, 1112, 91, 1147, 1100031] a.2) ∧ (1 ≤ a.1 ∧ a.1 ≤ (S 1032 0) ∧ sm_ST (a.2 71) (a.2 74) (a.2 75) (a.2 78) (a.2 79) (a.2 80) (S 27) (S 1100007) (S 1100023) (S 1100024) (S 1046 0) ((S 1046 0) + 2 * (S 1032 0)) (a.2 1127 0) ∧ 465000 ≤ (a.2 1127 0) ∧ (a.2 1127 0) + sm_hs (a.2 71) (S 1100007) ≤ 635000 ∧ (a.2 75 639) = 647340 ∧ (∀ k : Int, (S 71 k) = 1 → (a.2 71 k) = 1) ∧ sm_DR (a.2 72) (a.2 71) (S 1046 0) ∧ (641 * (sm_cm (a.2 71) + sm_pt (a.2 68) (a.2 69) (a.2 70) + sm_pl (a.2 81) (a.2 82) (a.2 83) (a.2 84) (a.2 85) (a.2 86) + sm_ps (a.2 76) (a.2 77)) + sm_du (a.2 72)) ≤ (641 * (sm_cm (S 71) + sm_pt (S 68) (S 69) (S 70) + sm_pl (S 81) (S 82) (S 83) (S 84) (S 85) (S 86) + sm_ps (S 76) (S 77)) + sm_du (S 72)) ∧ 0 ≤ (a.2 1147 0) ∧ (a.2 1147 0) ≤ 12 ∧ (∀ k : Int, 0 ≤ k → k < (a.2 1147 0) → 635639 ≤ (a.2 91 k) ∧ (a.2 91 k) < 647800))) → sv_T sm_XS sm_cs sm_L sm_sh ((10 + (if p1 = -1 then 0 else if p2 = -1 then 1 else p4 + 2))).toNat (q_callWays p1 p2 p3 p4 p5 S) 281 266 [(0, .ref 0), (1, sv_I p1), (2, sv_I p2), (3, sv_I p3), (4, sv_I p4), (5, sv_I p5), (6, sv_I r16), (7, sv_L (g5 69 r16)), (9, sv_L (g5 70 r16)), (11, sv_I l11_22), (12, sv_I l12_23), (13, sv_I a.1)] [] (sv_sts (sv_sts (sv_sts (sv_sts (sv_sts S [68, 69, 70, 81, 82, 83, 84, 85, 86, 74, 78, 79, 80, 76, 77, 1100031] g5) [68, 69, 70, 81, 82, 83, 84, 85, 86, 71, 74, 75, 1127, 78, 79, 80, 72, 76, 77, 1143, 1144, 5, 1011, 1150, 1149, 1145, 1113, 1111, 1112, 91, 1147, 1100031] g29) [68, 69, 70, 81, 82, 83, 84, 85, 86, 71, 74, 75, 1127, 78, 79, 80, 72, 76, 77, 1143, 1144, 5, 1011, 1150, 1149, 1145, 1113, 1111, 1112, 91, 1147, 1100031] g34) [68, 69, 70, 81, 82, 83, 84, 85, 86, 71, 74, 75, 1127, 78, 79, 80, 72, 76, 77, 1143, 1144, 5, 1011, 1150, 1149, 1145, 1113, 1111, 1112, 91, 1147, 1100031] g39) [68, 69, 70, 81, 82, 83, 84, 85, 86, 71, 74, 75, 1127, 78, 79, 80, 72, 76, 77, 1143, 1144, 5, 1011, 1150, 1149, 1145, 1113, 1111, 1112, 91, 1147, 1100031] a.2) := by
                    refine sv_loop (α := Int × sv_S) (fun a => sv_R a.1 ∧ sm_ok (sv_sts (sv_sts (sv_sts (sv_sts (sv_sts S [68, 69, 70, 81, 82, 83, 84, 85, 86, 74, 78, 79, 80, 76, 77, 1100031] g5) [68, 69, 70, 81, 82, 83, 84, 85, 86, 71, 74, 75, 1127, 78, 79, 80, 72, 76, 77, 1143, 1144, 5, 1011, 1150, 1149, 1145, 1113, 1111, 1112, 91, 1147, 1100031] g29) [68, 69, 70, 81, 82, 83, 84, 85, 86, 71, 74, 75, 1127, 78, 79, 80, 72, 76, 77, 1143, 1144, 5, 1011, 1150, 1149, 1145, 1113, 1111, 1112, 91, 1147, 1100031] g34) [68, 69, 70, 81, 82, 83, 84, 85, 86, 71, 74, 75, 1127, 78, 79, 80, 72, 76, 77, 1143, 1144, 5, 1011, 1150, 1149, 1145, 1113, 1111, 1112, 91, 1147, 1100031] g39) [68, 69, 70, 81, 82, 83, 84, 85, 86, 71, 74, 75, 1127, 78, 79, 80, 72, 76, 77, 1143, 1144, 5, 1011, 1150, 1149, 1145, 1113, 1111, 1112, 91, 1147, 1100031] a.2) ∧ (1 ≤ a.1 ∧ a.1 ≤ (S 1032 0) ∧ sm_ST (a.2 71) (a.2 74) (a.2 75) (a.2 78) (a.2 79) (a.2 80) (S 27) (S 1100007) (S 1100023) (S 1100024) (S 1046 0) ((S 1046 0) + 2 * (S 1032 0)) (a.2 1127 0) ∧ 465000 ≤ (a.2 1127 0) ∧ (a.2 1127 0) + sm_hs (a.2 71) (S 1100007) ≤ 635000 ∧ (a.2 75 639) = 647340 ∧ (∀ k : Int, (S 71 k) = 1 → (a.2 71 k) = 1) ∧ sm_DR (a.2 72) (a.2 71) (S 1046 0) ∧ (641 * (sm_cm (a.2 71) + sm_pt (a.2 68) (a.2 69) (a.2 70) + sm_pl (a.2 81) (a.2 82) (a.2 83) (a.2 84) (a.2 85) (a.2 86) + sm_ps (a.2 76) (a.2 77)) + sm_du (a.2 72)) ≤ (641 * (sm_cm (S 71) + sm_pt (S 68) (S 69) (S 70) + sm_pl (S 81) (S 82) (S 83) (S 84) (S 85) (S 86) + sm_ps (S 76) (S 77)) + sm_du (S 72)) ∧ 0 ≤ (a.2 1147 0) ∧ (a.2 1147 0) ≤ 12 ∧ (∀ k : Int, 0 ≤ k → k < (a.2 1147 0) → 635639 ≤ (a.2 91 k) ∧ (a.2 91 k) < 647800))) (fun a => (S 1032 0) - a.1) (fun a => sv_T sm_XS sm_cs sm_L sm_sh ((10 + (if p1 = -1 then 0 else if p2 = -1 then 1 else p4 + 2))).toNat (q_callWays p1 p2 p3 p4 p5 S) 281 266 [(0, .ref 0), (1, sv_I p1), (2, sv_I p2), (3, sv_I p3), (4, sv_I p4), (5, sv_I p5), (6, sv_I r16), (7, sv_L (g5 69 r16)), (9, sv_L (g5 70 r16)), (11, sv_I l11_22), (12, sv_I l12_23), (13, sv_I a.1)] [] (sv_sts (sv_sts (sv_sts (sv_sts (sv_sts S [68, 69, 70, 81, 82, 83, 84, 85, 86, 74, 78, 79, 80, 76, 77, 1100031] g5) [68, 69, 70, 81, 82, 83, 84, 85, 86, 71, 74, 75, 1127, 78, 79, 80, 72, 76, 77, 1143, 1144, 5, 1011, 1150, 1149, 1145, 1113, 1111, 1112, 91, 1147, 1100031] g29) [68, 69, 70, 81, 82, 83, 84, 85, 86, 71, 74, 75, 1127, 78, 79, 80, 72, 76, 77, 1143, 1144, 5, 1011, 1150, 1149, 1145, 1113, 1111, 1112, 91, 1147, 1100031] g34) [68, 69, 70, 81, 82, 83, 84, 85, 86, 71, 74, 75, 1127, 78, 79, 80, 72, 76, 77, 1143, 1144, 5, 1011, 1150, 1149, 1145, 1113, 1111, 1112, 91, 1147, 1100031] g39) [68, 69, 70, 81, 82, 83, 84, 85, 86, 71, 74, 75, 1127, 78, 79, 80, 72, 76, 77, 1143, 1144, 5, 1011, 1150, 1149, 1145, 1113, 1111, 1112, 91, 1147, 1100031] a.2)) (fun a q => (h a.1 q.1 a.2 q.2.2).1) (fun a q ih48 => ?_)
                    obtain ⟨l13_47, g46⟩ := a
                    obtain ⟨hl13_47, ok50, hin49i⟩ := q
                    have h := (h l13_47 hl13_47 g46 hin49i).2
                    show sv_T sm_XS sm_cs sm_L sm_sh ((10 + (if p1 = -1 then 0 else if p2 = -1 then 1 else p4 + 2))).toNat (q_callWays p1 p2 p3 p4 p5 S) 281 266 [(0, .ref 0), (1, sv_I p1), (2, sv_I p2), (3, sv_I p3), (4, sv_I p4), (5, sv_I p5), (6, sv_I r16), (7, sv_L (g5 69 r16)), (9, sv_L (g5 70 r16)), (11, sv_I l11_22), (12, sv_I l12_23), (13, sv_I l13_47)] [] (sv_sts (sv_sts (sv_sts (sv_sts (sv_sts S [68, 69, 70, 81, 82, 83, 84, 85, 86, 74, 78, 79, 80, 76, 77, 1100031] g5) [68, 69, 70, 81, 82, 83, 84, 85, 86, 71, 74, 75, 1127, 78, 79, 80, 72, 76, 77, 1143, 1144, 5, 1011, 1150, 1149, 1145, 1113, 1111, 1112, 91, 1147, 1100031] g29) [68, 69, 70, 81, 82, 83, 84, 85, 86, 71, 74, 75, 1127, 78, 79, 80, 72, 76, 77, 1143, 1144, 5, 1011, 1150, 1149, 1145, 1113, 1111, 1112, 91, 1147, 1100031] g34) [68, 69, 70, 81, 82, 83, 84, 85, 86, 71, 74, 75, 1127, 78, 79, 80, 72, 76, 77, 1143, 1144, 5, 1011, 1150, 1149, 1145, 1113, 1111, 1112, 91, 1147, 1100031] g39) [68, 69, 70, 81, 82, 83, 84, 85, 86, 71, 74, 75, 1127, 78, 79, 80, 72, 76, 77, 1143, 1144, 5, 1011, 1150, 1149, 1145, 1113, 1111, 1112, 91, 1147, 1100031] g46)
                    have md51 : sv_mod [68, 69, 70, 81, 82, 83, 84, 85, 86, 71, 74, 75, 1127, 78, 79, 80, 72, 76, 77, 1143, 1144, 5, 1011, 1150, 1149, 1145, 1113, 1111, 1112, 91, 1147, 1100031] S (sv_sts (sv_sts (sv_sts (sv_sts (sv_sts S [68, 69, 70, 81, 82, 83, 84, 85, 86, 74, 78, 79, 80, 76, 77, 1100031] g5) [68, 69, 70, 81, 82, 83, 84, 85, 86, 71, 74, 75, 1127, 78, 79, 80, 72, 76, 77, 1143, 1144, 5, 1011, 1150, 1149, 1145, 1113, 1111, 1112, 91, 1147, 1100031] g29) [68, 69, 70, 81, 82, 83, 84, 85, 86, 71, 74, 75, 1127, 78, 79, 80, 72, 76, 77, 1143, 1144, 5, 1011, 1150, 1149, 1145, 1113, 1111, 1112, 91, 1147, 1100031] g34) [68, 69, 70, 81, 82, 83, 84, 85, 86, 71, 74, 75, 1127, 78, 79, 80, 72, 76, 77, 1143, 1144, 5, 1011, 1150, 1149, 1145, 1113, 1111, 1112, 91, 1147, 1100031] g39) [68, 69, 70, 81, 82, 83, 84, 85, 86, 71, 74, 75, 1127, 78, 79, 80, 72, 76, 77, 1143, 1144, 5, 1011, 1150, 1149, 1145, 1113, 1111, 1112, 91, 1147, 1100031] g46) := sv_mod.sts md44 (by decide)
                    have md52 : sv_mod [68, 69, 70, 81, 82, 83, 84, 85, 86, 71, 74, 75, 1127, 78, 79, 80, 72, 76, 77, 1143, 1144, 5, 1011, 1150, 1149, 1145, 1113, 1111, 1112, 91, 1147, 1100031] (sv_sts (sv_sts (sv_sts S [68, 69, 70, 81, 82, 83, 84, 85, 86, 74, 78, 79, 80, 76, 77, 1100031] g5) [68, 69, 70, 81, 82, 83, 84, 85, 86, 71, 74, 75, 1127, 78, 79, 80, 72, 76, 77, 1143, 1144, 5, 1011, 1150, 1149, 1145, 1113, 1111, 1112, 91, 1147, 1100031] g29) [68, 69, 70, 81, 82, 83, 84, 85, 86, 71, 74, 75, 1127, 78, 79, 80, 72, 76, 77, 1143, 1144, 5, 1011, 1150, 1149, 1145, 1113, 1111, 1112, 91, 1147, 1100031] g34) (sv_sts (sv_sts (sv_sts (sv_sts (sv_sts S [68, 69, 70, 81, 82, 83, 84, 85, 86, 74, 78, 79, 80, 76, 77, 1100031] g5) [68, 69, 70, 81, 82, 83, 84, 85, 86, 71, 74, 75, 1127, 78, 79, 80, 72, 76, 77, 1143, 1144, 5, 1011, 1150, 1149, 1145, 1113, 1111, 1112, 91, 1147, 1100031] g29) [68, 69, 70, 81, 82, 83, 84, 85, 86, 71, 74, 75, 1127, 78, 79, 80, 72, 76, 77, 1143, 1144, 5, 1011, 1150, 1149, 1145, 1113, 1111, 1112, 91, 1147, 1100031] g34) [68, 69, 70, 81, 82, 83, 84, 85, 86, 71, 74, 75, 1127, 78, 79, 80, 72, 76, 77, 1143, 1144, 5, 1011, 1150, 1149, 1145, 1113, 1111, 1112, 91, 1147, 1100031] g39) [68, 69, 70, 81, 82, 83, 84, 85, 86, 71, 74, 75, 1127, 78, 79, 80, 72, 76, 77, 1143, 1144, 5, 1011, 1150, 1149, 1145, 1113, 1111, 1112, 91, 1147, 1100031] g46) := sv_mod.sts md45 (by decide)
                    have md53 : sv_mod [68, 69, 70, 81, 82, 83, 84, 85, 86, 71, 74, 75, 1127, 78, 79, 80, 72, 76, 77, 1143, 1144, 5, 1011, 1150, 1149, 1145, 1113, 1111, 1112, 91, 1147, 1100031] (sv_sts (sv_sts (sv_sts (sv_sts S [68, 69, 70, 81, 82, 83, 84, 85, 86, 74, 78, 79, 80, 76, 77, 1100031] g5) [68, 69, 70, 81, 82, 83, 84, 85, 86, 71, 74, 75, 1127, 78, 79, 80, 72, 76, 77, 1143, 1144, 5, 1011, 1150, 1149, 1145, 1113, 1111, 1112, 91, 1147, 1100031] g29) [68, 69, 70, 81, 82, 83, 84, 85, 86, 71, 74, 75, 1127, 78, 79, 80, 72, 76, 77, 1143, 1144, 5, 1011, 1150, 1149, 1145, 1113, 1111, 1112, 91, 1147, 1100031] g34) [68, 69, 70, 81, 82, 83, 84, 85, 86, 71, 74, 75, 1127, 78, 79, 80, 72, 76, 77, 1143, 1144, 5, 1011, 1150, 1149, 1145, 1113, 1111, 1112, 91, 1147, 1100031] g39) (sv_sts (sv_sts (sv_sts (sv_sts (sv_sts S [68, 69, 70, 81, 82, 83, 84, 85, 86, 74, 78, 79, 80, 76, 77, 1100031] g5) [68, 69, 70, 81, 82, 83, 84, 85, 86, 71, 74, 75, 1127, 78, 79, 80, 72, 76, 77, 1143, 1144, 5, 1011, 1150, 1149, 1145, 1113, 1111, 1112, 91, 1147, 1100031] g29) [68, 69, 70, 81, 82, 83, 84, 85, 86, 71, 74, 75, 1127, 78, 79, 80, 72, 76, 77, 1143, 1144, 5, 1011, 1150, 1149, 1145, 1113, 1111, 1112, 91, 1147, 1100031] g34) [68, 69, 70, 81, 82, 83, 84, 85, 86, 71, 74, 75, 1127, 78, 79, 80, 72, 76, 77, 1143, 1144, 5, 1011, 1150, 1149, 1145, 1113, 1111, 1112, 91, 1147, 1100031] g39) [68, 69, 70, 81, 82, 83, 84, 85, 86, 71, 74, 75, 1127, 78, 79, 80, 72, 76, 77, 1143, 1144, 5, 1011, 1150, 1149, 1145, 1113, 1111, 1112, 91, 1147, 1100031] g46) := sv_mod.sts sv_mod.rf (by decide)
                    refine sv_iload hM dX12_callWays_266 rfl rfl ?_
                    refine sv_aload_n hM dX12_callWays_268 rfl rfl ?_
                    have k54 : sv_R (S 1032 0) := sm_okI ok50 sm_r1032 0
                    have h := h k54
                    refine sv_getI hM dX12_callWays_269 sm_fl_527 (sm_a0 _) sm_k32 rfl (x := (S 1032 0)) rfl ?_
                    refine sv_icmp_ge hM dX12_callWays_272 hl13_47 k54 (t := 298) rfl rfl (fun hc => ?_) (fun hc => ?_)
                    · have h := h.1 (hc)
                      exact sv_vret hM dX12_callWays_298 rfl ⟨rfl, ok50, md51, h⟩
                    · have h := h.2 (hc)
                      refine sv_aload_n hM dX12_callWays_275 rfl rfl ?_
                      refine sv_iload hM dX12_callWays_276 rfl rfl ?_
                      refine sv_lload hM dX12_callWays_278 rfl rfl ?_
                      refine sv_lload hM dX12_callWays_280 rfl rfl ?_
                      refine sv_iload_n hM dX12_callWays_282 rfl rfl ?_
                      refine sv_iload_n hM dX12_callWays_283 rfl rfl ?_
                      refine sv_iload hM dX12_callWays_284 rfl rfl ?_
                      refine sv_iload hM dX12_callWays_286 rfl rfl ?_
                      refine sv_iconst (d := (-1 : Int)) hM dX12_callWays_288 rfl rfl ?_
                      obtain ⟨o55, h⟩ := h
                      obtain ⟨o56, h⟩ := h
                      refine sv_callV hM dX12_callWays_289 sm_iv_1332 (by decide) (sm_a0 _) rfl rfl (Nat.le_of_ble_eq_true rfl) sm_h284 (Nat.le_of_ble_eq_true rfl) (Nat.le_of_ble_eq_true rfl) (F' := 6) (sv_Fn (n := 6) o56) rfl (t_codeWays l13_47 (g5 69 r16) (g5 70 r16) p2 p3 p4 p5 (-1 : Int) (sv_sts (sv_sts (sv_sts (sv_sts (sv_sts S [68, 69, 70, 81, 82, 83, 84, 85, 86, 74, 78, 79, 80, 76, 77, 1100031] g5) [68, 69, 70, 81, 82, 83, 84, 85, 86, 71, 74, 75, 1127, 78, 79, 80, 72, 76, 77, 1143, 1144, 5, 1011, 1150, 1149, 1145, 1113, 1111, 1112, 91, 1147, 1100031] g29) [68, 69, 70, 81, 82, 83, 84, 85, 86, 71, 74, 75, 1127, 78, 79, 80, 72, 76, 77, 1143, 1144, 5, 1011, 1150, 1149, 1145, 1113, 1111, 1112, 91, 1147, 1100031] g34) [68, 69, 70, 81, 82, 83, 84, 85, 86, 71, 74, 75, 1127, 78, 79, 80, 72, 76, 77, 1143, 1144, 5, 1011, 1150, 1149, 1145, 1113, 1111, 1112, 91, 1147, 1100031] g39) [68, 69, 70, 81, 82, 83, 84, 85, 86, 71, 74, 75, 1127, 78, 79, 80, 72, 76, 77, 1143, 1144, 5, 1011, 1150, 1149, 1145, 1113, 1111, 1112, 91, 1147, 1100031] g46) ok50 hl13_47 k18 k19 hp2 hp3 hp4 hp5 (⟨by decide, by decide⟩ : sv_R (-1 : Int)) o55) (fun v S1 hq => ?_)
                      obtain ⟨rfl, ok58, md59, hpo60⟩ := hq
                      obtain ⟨g57, rfl⟩ : ∃ g, S1 = sv_sts (sv_sts (sv_sts (sv_sts (sv_sts (sv_sts S [68, 69, 70, 81, 82, 83, 84, 85, 86, 74, 78, 79, 80, 76, 77, 1100031] g5) [68, 69, 70, 81, 82, 83, 84, 85, 86, 71, 74, 75, 1127, 78, 79, 80, 72, 76, 77, 1143, 1144, 5, 1011, 1150, 1149, 1145, 1113, 1111, 1112, 91, 1147, 1100031] g29) [68, 69, 70, 81, 82, 83, 84, 85, 86, 71, 74, 75, 1127, 78, 79, 80, 72, 76, 77, 1143, 1144, 5, 1011, 1150, 1149, 1145, 1113, 1111, 1112, 91, 1147, 1100031] g34) [68, 69, 70, 81, 82, 83, 84, 85, 86, 71, 74, 75, 1127, 78, 79, 80, 72, 76, 77, 1143, 1144, 5, 1011, 1150, 1149, 1145, 1113, 1111, 1112, 91, 1147, 1100031] g39) [68, 69, 70, 81, 82, 83, 84, 85, 86, 71, 74, 75, 1127, 78, 79, 80, 72, 76, 77, 1143, 1144, 5, 1011, 1150, 1149, 1145, 1113, 1111, 1112, 91, 1147, 1100031] g46) [68, 69, 70, 81, 82, 83, 84, 85, 86, 71, 74, 75, 1127, 78, 79, 80, 72, 76, 77, 1143, 1144, 5, 1011, 1150, 1149, 1145, 1113, 1111, 1112, 91, 1147, 1100031] g := ⟨_, md59.eq⟩
                      show sv_T sm_XS sm_cs sm_L sm_sh ((10 + (if p1 = -1 then 0 else if p2 = -1 then 1 else p4 + 2))).toNat (q_callWays p1 p2 p3 p4 p5 S) 281 292 [(0, .ref 0), (1, sv_I p1), (2, sv_I p2), (3, sv_I p3), (4, sv_I p4), (5, sv_I p5), (6, sv_I r16), (7, sv_L (g5 69 r16)), (9, sv_L (g5 70 r16)), (11, sv_I l11_22), (12, sv_I l12_23), (13, sv_I l13_47)] [] (sv_sts (sv_sts (sv_sts (sv_sts (sv_sts (sv_sts S [68, 69, 70, 81, 82, 83, 84, 85, 86, 74, 78, 79, 80, 76, 77, 1100031] g5) [68, 69, 70, 81, 82, 83, 84, 85, 86, 71, 74, 75, 1127, 78, 79, 80, 72, 76, 77, 1143, 1144, 5, 1011, 1150, 1149, 1145, 1113, 1111, 1112, 91, 1147, 1100031] g29) [68, 69, 70, 81, 82, 83, 84, 85, 86, 71, 74, 75, 1127, 78, 79, 80, 72, 76, 77, 1143, 1144, 5, 1011, 1150, 1149, 1145, 1113, 1111, 1112, 91, 1147, 1100031] g34) [68, 69, 70, 81, 82, 83, 84, 85, 86, 71, 74, 75, 1127, 78, 79, 80, 72, 76, 77, 1143, 1144, 5, 1011, 1150, 1149, 1145, 1113, 1111, 1112, 91, 1147, 1100031] g39) [68, 69, 70, 81, 82, 83, 84, 85, 86, 71, 74, 75, 1127, 78, 79, 80, 72, 76, 77, 1143, 1144, 5, 1011, 1150, 1149, 1145, 1113, 1111, 1112, 91, 1147, 1100031] g46) [68, 69, 70, 81, 82, 83, 84, 85, 86, 71, 74, 75, 1127, 78, 79, 80, 72, 76, 77, 1143, 1144, 5, 1011, 1150, 1149, 1145, 1113, 1111, 1112, 91, 1147, 1100031] g57)
                      have md61 : sv_mod [68, 69, 70, 81, 82, 83, 84, 85, 86, 71, 74, 75, 1127, 78, 79, 80, 72, 76, 77, 1143, 1144, 5, 1011, 1150, 1149, 1145, 1113, 1111, 1112, 91, 1147, 1100031] S (sv_sts (sv_sts (sv_sts (sv_sts (sv_sts (sv_sts S [68, 69, 70, 81, 82, 83, 84, 85, 86, 74, 78, 79, 80, 76, 77, 1100031] g5) [68, 69, 70, 81, 82, 83, 84, 85, 86, 71, 74, 75, 1127, 78, 79, 80, 72, 76, 77, 1143, 1144, 5, 1011, 1150, 1149, 1145, 1113, 1111, 1112, 91, 1147, 1100031] g29) [68, 69, 70, 81, 82, 83, 84, 85, 86, 71, 74, 75, 1127, 78, 79, 80, 72, 76, 77, 1143, 1144, 5, 1011, 1150, 1149, 1145, 1113, 1111, 1112, 91, 1147, 1100031] g34) [68, 69, 70, 81, 82, 83, 84, 85, 86, 71, 74, 75, 1127, 78, 79, 80, 72, 76, 77, 1143, 1144, 5, 1011, 1150, 1149, 1145, 1113, 1111, 1112, 91, 1147, 1100031] g39) [68, 69, 70, 81, 82, 83, 84, 85, 86, 71, 74, 75, 1127, 78, 79, 80, 72, 76, 77, 1143, 1144, 5, 1011, 1150, 1149, 1145, 1113, 1111, 1112, 91, 1147, 1100031] g46) [68, 69, 70, 81, 82, 83, 84, 85, 86, 71, 74, 75, 1127, 78, 79, 80, 72, 76, 77, 1143, 1144, 5, 1011, 1150, 1149, 1145, 1113, 1111, 1112, 91, 1147, 1100031] g57) := sv_mod.sts md51 (by decide)
                      have md62 : sv_mod [68, 69, 70, 81, 82, 83, 84, 85, 86, 71, 74, 75, 1127, 78, 79, 80, 72, 76, 77, 1143, 1144, 5, 1011, 1150, 1149, 1145, 1113, 1111, 1112, 91, 1147, 1100031] (sv_sts (sv_sts (sv_sts S [68, 69, 70, 81, 82, 83, 84, 85, 86, 74, 78, 79, 80, 76, 77, 1100031] g5) [68, 69, 70, 81, 82, 83, 84, 85, 86, 71, 74, 75, 1127, 78, 79, 80, 72, 76, 77, 1143, 1144, 5, 1011, 1150, 1149, 1145, 1113, 1111, 1112, 91, 1147, 1100031] g29) [68, 69, 70, 81, 82, 83, 84, 85, 86, 71, 74, 75, 1127, 78, 79, 80, 72, 76, 77, 1143, 1144, 5, 1011, 1150, 1149, 1145, 1113, 1111, 1112, 91, 1147, 1100031] g34) (sv_sts (sv_sts (sv_sts (sv_sts (sv_sts (sv_sts S [68, 69, 70, 81, 82, 83, 84, 85, 86, 74, 78, 79, 80, 76, 77, 1100031] g5) [68, 69, 70, 81, 82, 83, 84, 85, 86, 71, 74, 75, 1127, 78, 79, 80, 72, 76, 77, 1143, 1144, 5, 1011, 1150, 1149, 1145, 1113, 1111, 1112, 91, 1147, 1100031] g29) [68, 69, 70, 81, 82, 83, 84, 85, 86, 71, 74, 75, 1127, 78, 79, 80, 72, 76, 77, 1143, 1144, 5, 1011, 1150, 1149, 1145, 1113, 1111, 1112, 91, 1147, 1100031] g34) [68, 69, 70, 81, 82, 83, 84, 85, 86, 71, 74, 75, 1127, 78, 79, 80, 72, 76, 77, 1143, 1144, 5, 1011, 1150, 1149, 1145, 1113, 1111, 1112, 91, 1147, 1100031] g39) [68, 69, 70, 81, 82, 83, 84, 85, 86, 71, 74, 75, 1127, 78, 79, 80, 72, 76, 77, 1143, 1144, 5, 1011, 1150, 1149, 1145, 1113, 1111, 1112, 91, 1147, 1100031] g46) [68, 69, 70, 81, 82, 83, 84, 85, 86, 71, 74, 75, 1127, 78, 79, 80, 72, 76, 77, 1143, 1144, 5, 1011, 1150, 1149, 1145, 1113, 1111, 1112, 91, 1147, 1100031] g57) := sv_mod.sts md52 (by decide)
                      have md63 : sv_mod [68, 69, 70, 81, 82, 83, 84, 85, 86, 71, 74, 75, 1127, 78, 79, 80, 72, 76, 77, 1143, 1144, 5, 1011, 1150, 1149, 1145, 1113, 1111, 1112, 91, 1147, 1100031] (sv_sts (sv_sts (sv_sts (sv_sts S [68, 69, 70, 81, 82, 83, 84, 85, 86, 74, 78, 79, 80, 76, 77, 1100031] g5) [68, 69, 70, 81, 82, 83, 84, 85, 86, 71, 74, 75, 1127, 78, 79, 80, 72, 76, 77, 1143, 1144, 5, 1011, 1150, 1149, 1145, 1113, 1111, 1112, 91, 1147, 1100031] g29) [68, 69, 70, 81, 82, 83, 84, 85, 86, 71, 74, 75, 1127, 78, 79, 80, 72, 76, 77, 1143, 1144, 5, 1011, 1150, 1149, 1145, 1113, 1111, 1112, 91, 1147, 1100031] g34) [68, 69, 70, 81, 82, 83, 84, 85, 86, 71, 74, 75, 1127, 78, 79, 80, 72, 76, 77, 1143, 1144, 5, 1011, 1150, 1149, 1145, 1113, 1111, 1112, 91, 1147, 1100031] g39) (sv_sts (sv_sts (sv_sts (sv_sts (sv_sts (sv_sts S [68, 69, 70, 81, 82, 83, 84, 85, 86, 74, 78, 79, 80, 76, 77, 1100031] g5) [68, 69, 70, 81, 82, 83, 84, 85, 86, 71, 74, 75, 1127, 78, 79, 80, 72, 76, 77, 1143, 1144, 5, 1011, 1150, 1149, 1145, 1113, 1111, 1112, 91, 1147, 1100031] g29) [68, 69, 70, 81, 82, 83, 84, 85, 86, 71, 74, 75, 1127, 78, 79, 80, 72, 76, 77, 1143, 1144, 5, 1011, 1150, 1149, 1145, 1113, 1111, 1112, 91, 1147, 1100031] g34) [68, 69, 70, 81, 82, 83, 84, 85, 86, 71, 74, 75, 1127, 78, 79, 80, 72, 76, 77, 1143, 1144, 5, 1011, 1150, 1149, 1145, 1113, 1111, 1112, 91, 1147, 1100031] g39) [68, 69, 70, 81, 82, 83, 84, 85, 86, 71, 74, 75, 1127, 78, 79, 80, 72, 76, 77, 1143, 1144, 5, 1011, 1150, 1149, 1145, 1113, 1111, 1112, 91, 1147, 1100031] g46) [68, 69, 70, 81, 82, 83, 84, 85, 86, 71, 74, 75, 1127, 78, 79, 80, 72, 76, 77, 1143, 1144, 5, 1011, 1150, 1149, 1145, 1113, 1111, 1112, 91, 1147, 1100031] g57) := sv_mod.sts md53 (by decide)
                      have h := h g57 hpo60
                      refine sv_iinc (d := (1 : Int)) hM dX12_callWays_292 rfl (by decide) rfl rfl ?_
                      show sv_T sm_XS sm_cs sm_L sm_sh ((10 + (if p1 = -1 then 0 else if p2 = -1 then 1 else p4 + 2))).toNat (q_callWays p1 p2 p3 p4 p5 S) 281 295 [(0, .ref 0), (1, sv_I p1), (2, sv_I p2), (3, sv_I p3), (4, sv_I p4), (5, sv_I p5), (6, sv_I r16), (7, sv_L (g5 69 r16)), (9, sv_L (g5 70 r16)), (11, sv_I l11_22), (12, sv_I l12_23), (13, sv_I (l13_47 + (1 : Int)))] [] (sv_sts (sv_sts (sv_sts (sv_sts (sv_sts (sv_sts S [68, 69, 70, 81, 82, 83, 84, 85, 86, 74, 78, 79, 80, 76, 77, 1100031] g5) [68, 69, 70, 81, 82, 83, 84, 85, 86, 71, 74, 75, 1127, 78, 79, 80, 72, 76, 77, 1143, 1144, 5, 1011, 1150, 1149, 1145, 1113, 1111, 1112, 91, 1147, 1100031] g29) [68, 69, 70, 81, 82, 83, 84, 85, 86, 71, 74, 75, 1127, 78, 79, 80, 72, 76, 77, 1143, 1144, 5, 1011, 1150, 1149, 1145, 1113, 1111, 1112, 91, 1147, 1100031] g34) [68, 69, 70, 81, 82, 83, 84, 85, 86, 71, 74, 75, 1127, 78, 79, 80, 72, 76, 77, 1143, 1144, 5, 1011, 1150, 1149, 1145, 1113, 1111, 1112, 91, 1147, 1100031] g39) [68, 69, 70, 81, 82, 83, 84, 85, 86, 71, 74, 75, 1127, 78, 79, 80, 72, 76, 77, 1143, 1144, 5, 1011, 1150, 1149, 1145, 1113, 1111, 1112, 91, 1147, 1100031] g46) [68, 69, 70, 81, 82, 83, 84, 85, 86, 71, 74, 75, 1127, 78, 79, 80, 72, 76, 77, 1143, 1144, 5, 1011, 1150, 1149, 1145, 1113, 1111, 1112, 91, 1147, 1100031] g57)
                      refine sv_goto hM dX12_callWays_295 (pc' := 266) rfl ?_
                      obtain ⟨o64, h⟩ := h
                      have eS := sv_mod.eq md63
                      have hb := ih48 ((l13_47 + (1 : Int)), (sv_sts (sv_sts (sv_sts (sv_sts (sv_sts (sv_sts S [68, 69, 70, 81, 82, 83, 84, 85, 86, 74, 78, 79, 80, 76, 77, 1100031] g5) [68, 69, 70, 81, 82, 83, 84, 85, 86, 71, 74, 75, 1127, 78, 79, 80, 72, 76, 77, 1143, 1144, 5, 1011, 1150, 1149, 1145, 1113, 1111, 1112, 91, 1147, 1100031] g29) [68, 69, 70, 81, 82, 83, 84, 85, 86, 71, 74, 75, 1127, 78, 79, 80, 72, 76, 77, 1143, 1144, 5, 1011, 1150, 1149, 1145, 1113, 1111, 1112, 91, 1147, 1100031] g34) [68, 69, 70, 81, 82, 83, 84, 85, 86, 71, 74, 75, 1127, 78, 79, 80, 72, 76, 77, 1143, 1144, 5, 1011, 1150, 1149, 1145, 1113, 1111, 1112, 91, 1147, 1100031] g39) [68, 69, 70, 81, 82, 83, 84, 85, 86, 71, 74, 75, 1127, 78, 79, 80, 72, 76, 77, 1143, 1144, 5, 1011, 1150, 1149, 1145, 1113, 1111, 1112, 91, 1147, 1100031] g46) [68, 69, 70, 81, 82, 83, 84, 85, 86, 71, 74, 75, 1127, 78, 79, 80, 72, 76, 77, 1143, 1144, 5, 1011, 1150, 1149, 1145, 1113, 1111, 1112, 91, 1147, 1100031] g57)) ⟨o64, (by rw [← eS]; exact ok58), h.1⟩ h.2
                      have hb : sv_T sm_XS sm_cs sm_L sm_sh ((10 + (if p1 = -1 then 0 else if p2 = -1 then 1 else p4 + 2))).toNat (q_callWays p1 p2 p3 p4 p5 S) 281 266 [(0, .ref 0), (1, sv_I p1), (2, sv_I p2), (3, sv_I p3), (4, sv_I p4), (5, sv_I p5), (6, sv_I r16), (7, sv_L (g5 69 r16)), (9, sv_L (g5 70 r16)), (11, sv_I l11_22), (12, sv_I l12_23), (13, sv_I (l13_47 + (1 : Int)))] [] (sv_sts (sv_sts (sv_sts (sv_sts (sv_sts (sv_sts S [68, 69, 70, 81, 82, 83, 84, 85, 86, 74, 78, 79, 80, 76, 77, 1100031] g5) [68, 69, 70, 81, 82, 83, 84, 85, 86, 71, 74, 75, 1127, 78, 79, 80, 72, 76, 77, 1143, 1144, 5, 1011, 1150, 1149, 1145, 1113, 1111, 1112, 91, 1147, 1100031] g29) [68, 69, 70, 81, 82, 83, 84, 85, 86, 71, 74, 75, 1127, 78, 79, 80, 72, 76, 77, 1143, 1144, 5, 1011, 1150, 1149, 1145, 1113, 1111, 1112, 91, 1147, 1100031] g34) [68, 69, 70, 81, 82, 83, 84, 85, 86, 71, 74, 75, 1127, 78, 79, 80, 72, 76, 77, 1143, 1144, 5, 1011, 1150, 1149, 1145, 1113, 1111, 1112, 91, 1147, 1100031] g39) [68, 69, 70, 81, 82, 83, 84, 85, 86, 71, 74, 75, 1127, 78, 79, 80, 72, 76, 77, 1143, 1144, 5, 1011, 1150, 1149, 1145, 1113, 1111, 1112, 91, 1147, 1100031] g46) [68, 69, 70, 81, 82, 83, 84, 85, 86, 71, 74, 75, 1127, 78, 79, 80, 72, 76, 77, 1143, 1144, 5, 1011, 1150, 1149, 1145, 1113, 1111, 1112, 91, 1147, 1100031] g57) := Eq.mpr (congrArg (fun Z => sv_T sm_XS sm_cs sm_L sm_sh ((10 + (if p1 = -1 then 0 else if p2 = -1 then 1 else p4 + 2))).toNat (q_callWays p1 p2 p3 p4 p5 S) 281 266 [(0, .ref 0), (1, sv_I p1), (2, sv_I p2), (3, sv_I p3), (4, sv_I p4), (5, sv_I p5), (6, sv_I r16), (7, sv_L (g5 69 r16)), (9, sv_L (g5 70 r16)), (11, sv_I l11_22), (12, sv_I l12_23), (13, sv_I (l13_47 + (1 : Int)))] [] Z) eS) hb
                      exact sv_less (lv := [(0, .ref 0), (1, sv_I p1), (2, sv_I p2), (3, sv_I p3), (4, sv_I p4), (5, sv_I p5), (6, sv_I r16), (7, sv_L (g5 69 r16)), (9, sv_L (g5 70 r16)), (11, sv_I l11_22), (12, sv_I l12_23), (13, sv_I (l13_47 + (1 : Int)))]) (sv_Sub_cons rfl (sv_Sub_cons rfl (sv_Sub_cons rfl (sv_Sub_cons rfl (sv_Sub_cons rfl (sv_Sub_cons rfl (sv_Sub_cons rfl (sv_Sub_cons rfl (sv_Sub_cons rfl (sv_Sub_cons rfl (sv_Sub_cons rfl (sv_Sub_cons rfl sv_Sub_nil)))))))))))) hb
                  have eS := sv_mod.eq (sv_mod.rf (l := [68, 69, 70, 81, 82, 83, 84, 85, 86, 71, 74, 75, 1127, 78, 79, 80, 72, 76, 77, 1143, 1144, 5, 1011, 1150, 1149, 1145, 1113, 1111, 1112, 91, 1147, 1100031]) (S := (sv_sts (sv_sts (sv_sts (sv_sts S [68, 69, 70, 81, 82, 83, 84, 85, 86, 74, 78, 79, 80, 76, 77, 1100031] g5) [68, 69, 70, 81, 82, 83, 84, 85, 86, 71, 74, 75, 1127, 78, 79, 80, 72, 76, 77, 1143, 1144, 5, 1011, 1150, 1149, 1145, 1113, 1111, 1112, 91, 1147, 1100031] g29) [68, 69, 70, 81, 82, 83, 84, 85, 86, 71, 74, 75, 1127, 78, 79, 80, 72, 76, 77, 1143, 1144, 5, 1011, 1150, 1149, 1145, 1113, 1111, 1112, 91, 1147, 1100031] g34) [68, 69, 70, 81, 82, 83, 84, 85, 86, 71, 74, 75, 1127, 78, 79, 80, 72, 76, 77, 1143, 1144, 5, 1011, 1150, 1149, 1145, 1113, 1111, 1112, 91, 1147, 1100031] g39)))
                  have hb := hJ ((1 : Int), (sv_sts (sv_sts (sv_sts (sv_sts S [68, 69, 70, 81, 82, 83, 84, 85, 86, 74, 78, 79, 80, 76, 77, 1100031] g5) [68, 69, 70, 81, 82, 83, 84, 85, 86, 71, 74, 75, 1127, 78, 79, 80, 72, 76, 77, 1143, 1144, 5, 1011, 1150, 1149, 1145, 1113, 1111, 1112, 91, 1147, 1100031] g29) [68, 69, 70, 81, 82, 83, 84, 85, 86, 71, 74, 75, 1127, 78, 79, 80, 72, 76, 77, 1143, 1144, 5, 1011, 1150, 1149, 1145, 1113, 1111, 1112, 91, 1147, 1100031] g34) [68, 69, 70, 81, 82, 83, 84, 85, 86, 71, 74, 75, 1127, 78, 79, 80, 72, 76, 77, 1143, 1144, 5, 1011, 1150, 1149, 1145, 1113, 1111, 1112, 91, 1147, 1100031] g39)) ⟨(⟨by decide, by decide⟩ : sv_R (1 : Int)), (by rw [← eS]; exact ok43), hin49⟩
                  have hb : sv_T sm_XS sm_cs sm_L sm_sh ((10 + (if p1 = -1 then 0 else if p2 = -1 then 1 else p4 + 2))).toNat (q_callWays p1 p2 p3 p4 p5 S) 281 266 [(0, .ref 0), (1, sv_I p1), (2, sv_I p2), (3, sv_I p3), (4, sv_I p4), (5, sv_I p5), (6, sv_I r16), (7, sv_L (g5 69 r16)), (9, sv_L (g5 70 r16)), (11, sv_I l11_22), (12, sv_I l12_23), (13, sv_I (1 : Int))] [] (sv_sts (sv_sts (sv_sts (sv_sts S [68, 69, 70, 81, 82, 83, 84, 85, 86, 74, 78, 79, 80, 76, 77, 1100031] g5) [68, 69, 70, 81, 82, 83, 84, 85, 86, 71, 74, 75, 1127, 78, 79, 80, 72, 76, 77, 1143, 1144, 5, 1011, 1150, 1149, 1145, 1113, 1111, 1112, 91, 1147, 1100031] g29) [68, 69, 70, 81, 82, 83, 84, 85, 86, 71, 74, 75, 1127, 78, 79, 80, 72, 76, 77, 1143, 1144, 5, 1011, 1150, 1149, 1145, 1113, 1111, 1112, 91, 1147, 1100031] g34) [68, 69, 70, 81, 82, 83, 84, 85, 86, 71, 74, 75, 1127, 78, 79, 80, 72, 76, 77, 1143, 1144, 5, 1011, 1150, 1149, 1145, 1113, 1111, 1112, 91, 1147, 1100031] g39) := Eq.mpr (congrArg (fun Z => sv_T sm_XS sm_cs sm_L sm_sh ((10 + (if p1 = -1 then 0 else if p2 = -1 then 1 else p4 + 2))).toNat (q_callWays p1 p2 p3 p4 p5 S) 281 266 [(0, .ref 0), (1, sv_I p1), (2, sv_I p2), (3, sv_I p3), (4, sv_I p4), (5, sv_I p5), (6, sv_I r16), (7, sv_L (g5 69 r16)), (9, sv_L (g5 70 r16)), (11, sv_I l11_22), (12, sv_I l12_23), (13, sv_I (1 : Int))] [] Z) eS) hb
                  exact hb
                · have h := h.2 (hc)
                  refine sv_lload hM dX12_callWays_187 rfl rfl ?_
                  refine sv_lload hM dX12_callWays_189 rfl rfl ?_
                  refine sv_iload hM dX12_callWays_191 rfl rfl ?_
                  obtain ⟨o65, h⟩ := h
                  refine sv_callS hM dX12_callWays_193 sm_iv_1125 (Nat.le_of_ble_eq_true rfl) rfl rfl (Nat.le_of_ble_eq_true rfl) sm_h217 (Nat.le_of_ble_eq_true rfl) (Nat.le_of_ble_eq_true rfl) (F' := 0) (sv_Fn (n := 0) o11) rfl (t_isIn (g5 69 r16) (g5 70 r16) l13_40 (sv_sts (sv_sts (sv_sts (sv_sts S [68, 69, 70, 81, 82, 83, 84, 85, 86, 74, 78, 79, 80, 76, 77, 1100031] g5) [68, 69, 70, 81, 82, 83, 84, 85, 86, 71, 74, 75, 1127, 78, 79, 80, 72, 76, 77, 1143, 1144, 5, 1011, 1150, 1149, 1145, 1113, 1111, 1112, 91, 1147, 1100031] g29) [68, 69, 70, 81, 82, 83, 84, 85, 86, 71, 74, 75, 1127, 78, 79, 80, 72, 76, 77, 1143, 1144, 5, 1011, 1150, 1149, 1145, 1113, 1111, 1112, 91, 1147, 1100031] g34) [68, 69, 70, 81, 82, 83, 84, 85, 86, 71, 74, 75, 1127, 78, 79, 80, 72, 76, 77, 1143, 1144, 5, 1011, 1150, 1149, 1145, 1113, 1111, 1112, 91, 1147, 1100031] g39) ok43 k18 k19 hl13_40 o65) (fun v S1 hq => ?_)
                  obtain ⟨r70, rfl, hr70, ok67, md68, hpo69⟩ := hq
                  obtain rfl : (sv_sts (sv_sts (sv_sts (sv_sts S [68, 69, 70, 81, 82, 83, 84, 85, 86, 74, 78, 79, 80, 76, 77, 1100031] g5) [68, 69, 70, 81, 82, 83, 84, 85, 86, 71, 74, 75, 1127, 78, 79, 80, 72, 76, 77, 1143, 1144, 5, 1011, 1150, 1149, 1145, 1113, 1111, 1112, 91, 1147, 1100031] g29) [68, 69, 70, 81, 82, 83, 84, 85, 86, 71, 74, 75, 1127, 78, 79, 80, 72, 76, 77, 1143, 1144, 5, 1011, 1150, 1149, 1145, 1113, 1111, 1112, 91, 1147, 1100031] g34) [68, 69, 70, 81, 82, 83, 84, 85, 86, 71, 74, 75, 1127, 78, 79, 80, 72, 76, 77, 1143, 1144, 5, 1011, 1150, 1149, 1145, 1113, 1111, 1112, 91, 1147, 1100031] g39) = S1 := (funext fun j => md68 j (by intro q; cases q)).symm
                  show sv_T sm_XS sm_cs sm_L sm_sh ((10 + (if p1 = -1 then 0 else if p2 = -1 then 1 else p4 + 2))).toNat (q_callWays p1 p2 p3 p4 p5 S) 281 196 [(0, .ref 0), (1, sv_I p1), (2, sv_I p2), (3, sv_I p3), (4, sv_I p4), (5, sv_I p5), (6, sv_I r16), (7, sv_L (g5 69 r16)), (9, sv_L (g5 70 r16)), (11, sv_I l11_22), (12, sv_I l12_23), (13, sv_I l13_40)] [sv_I r70] (sv_sts (sv_sts (sv_sts (sv_sts S [68, 69, 70, 81, 82, 83, 84, 85, 86, 74, 78, 79, 80, 76, 77, 1100031] g5) [68, 69, 70, 81, 82, 83, 84, 85, 86, 71, 74, 75, 1127, 78, 79, 80, 72, 76, 77, 1143, 1144, 5, 1011, 1150, 1149, 1145, 1113, 1111, 1112, 91, 1147, 1100031] g29) [68, 69, 70, 81, 82, 83, 84, 85, 86, 71, 74, 75, 1127, 78, 79, 80, 72, 76, 77, 1143, 1144, 5, 1011, 1150, 1149, 1145, 1113, 1111, 1112, 91, 1147, 1100031] g34) [68, 69, 70, 81, 82, 83, 84, 85, 86, 71, 74, 75, 1127, 78, 79, 80, 72, 76, 77, 1143, 1144, 5, 1011, 1150, 1149, 1145, 1113, 1111, 1112, 91, 1147, 1100031] g39)
                  have h := h r70 hr70 hpo69
                  refine sv_cond_ne hM dX12_callWays_196 hr70 (t := 202) rfl rfl (fun hc => ?_) (fun hc => ?_)
                  · have h := h.1 (hc)
                    refine sv_iload hM dX12_callWays_202 rfl rfl ?_
                    refine sv_bipush (d := (20 : Int)) hM dX12_callWays_204 rfl rfl ?_
                    refine sv_icmp_ne hM dX12_callWays_206 hl13_40 (⟨by decide, by decide⟩ : sv_R (20 : Int)) (t := 245) rfl rfl (fun hc => ?_) (fun hc => ?_)
                    · have h := h.1 (hc)
                      refine sv_aload_n hM dX12_callWays_245 rfl rfl ?_
                      refine sv_iload hM dX12_callWays_246 rfl rfl ?_
                      refine sv_iload_n hM dX12_callWays_248 rfl rfl ?_
                      refine sv_iload_n hM dX12_callWays_249 rfl rfl ?_
                      refine sv_iload hM dX12_callWays_250 rfl rfl ?_
                      refine sv_iload hM dX12_callWays_252 rfl rfl ?_
                      obtain ⟨o71, h⟩ := h
                      obtain ⟨o72, h⟩ := h
                      refine sv_callV hM dX12_callWays_254 sm_iv_1329 (by decide) (sm_a0 _) rfl rfl (Nat.le_of_ble_eq_true rfl) sm_h287 (Nat.le_of_ble_eq_true rfl) (Nat.le_of_ble_eq_true rfl) (F' := 9) (sv_Fn (n := 9) o72) rfl (t_nativeWays l13_40 p2 p3 p4 p5 (sv_sts (sv_sts (sv_sts (sv_sts S [68, 69, 70, 81, 82, 83, 84, 85, 86, 74, 78, 79, 80, 76, 77, 1100031] g5) [68, 69, 70, 81, 82, 83, 84, 85, 86, 71, 74, 75, 1127, 78, 79, 80, 72, 76, 77, 1143, 1144, 5, 1011, 1150, 1149, 1145, 1113, 1111, 1112, 91, 1147, 1100031] g29) [68, 69, 70, 81, 82, 83, 84, 85, 86, 71, 74, 75, 1127, 78, 79, 80, 72, 76, 77, 1143, 1144, 5, 1011, 1150, 1149, 1145, 1113, 1111, 1112, 91, 1147, 1100031] g34) [68, 69, 70, 81, 82, 83, 84, 85, 86, 71, 74, 75, 1127, 78, 79, 80, 72, 76, 77, 1143, 1144, 5, 1011, 1150, 1149, 1145, 1113, 1111, 1112, 91, 1147, 1100031] g39) ok67 hl13_40 hp2 hp3 hp4 hp5 o71) (fun v S1 hq => ?_)
                      obtain ⟨rfl, ok74, md75, hpo76⟩ := hq
                      obtain ⟨g73, rfl⟩ : ∃ g, S1 = sv_sts (sv_sts (sv_sts (sv_sts (sv_sts S [68, 69, 70, 81, 82, 83, 84, 85, 86, 74, 78, 79, 80, 76, 77, 1100031] g5) [68, 69, 70, 81, 82, 83, 84, 85, 86, 71, 74, 75, 1127, 78, 79, 80, 72, 76, 77, 1143, 1144, 5, 1011, 1150, 1149, 1145, 1113, 1111, 1112, 91, 1147, 1100031] g29) [68, 69, 70, 81, 82, 83, 84, 85, 86, 71, 74, 75, 1127, 78, 79, 80, 72, 76, 77, 1143, 1144, 5, 1011, 1150, 1149, 1145, 1113, 1111, 1112, 91, 1147, 1100031] g34) [68, 69, 70, 81, 82, 83, 84, 85, 86, 71, 74, 75, 1127, 78, 79, 80, 72, 76, 77, 1143, 1144, 5, 1011, 1150, 1149, 1145, 1113, 1111, 1112, 91, 1147, 1100031] g39) [68, 69, 70, 81, 82, 83, 84, 85, 86, 71, 74, 75, 1127, 78, 79, 80, 72, 76, 77, 1143, 1144, 5, 1011, 1150, 1149, 1145, 1113, 1111, 1112, 1100031] g := ⟨_, md75.eq⟩
                      show sv_T sm_XS sm_cs sm_L sm_sh ((10 + (if p1 = -1 then 0 else if p2 = -1 then 1 else p4 + 2))).toNat (q_callWays p1 p2 p3 p4 p5 S) 281 257 [(0, .ref 0), (1, sv_I p1), (2, sv_I p2), (3, sv_I p3), (4, sv_I p4), (5, sv_I p5), (6, sv_I r16), (7, sv_L (g5 69 r16)), (9, sv_L (g5 70 r16)), (11, sv_I l11_22), (12, sv_I l12_23), (13, sv_I l13_40)] [] (sv_sts (sv_sts (sv_sts (sv_sts (sv_sts S [68, 69, 70, 81, 82, 83, 84, 85, 86, 74, 78, 79, 80, 76, 77, 1100031] g5) [68, 69, 70, 81, 82, 83, 84, 85, 86, 71, 74, 75, 1127, 78, 79, 80, 72, 76, 77, 1143, 1144, 5, 1011, 1150, 1149, 1145, 1113, 1111, 1112, 91, 1147, 1100031] g29) [68, 69, 70, 81, 82, 83, 84, 85, 86, 71, 74, 75, 1127, 78, 79, 80, 72, 76, 77, 1143, 1144, 5, 1011, 1150, 1149, 1145, 1113, 1111, 1112, 91, 1147, 1100031] g34) [68, 69, 70, 81, 82, 83, 84, 85, 86, 71, 74, 75, 1127, 78, 79, 80, 72, 76, 77, 1143, 1144, 5, 1011, 1150, 1149, 1145, 1113, 1111, 1112, 91, 1147, 1100031] g39) [68, 69, 70, 81, 82, 83, 84, 85, 86, 71, 74, 75, 1127, 78, 79, 80, 72, 76, 77, 1143, 1144, 5, 1011, 1150, 1149, 1145, 1113, 1111, 1112, 1100031] g73)
                      have md77 : sv_mod [68, 69, 70, 81, 82, 83, 84, 85, 86, 71, 74, 75, 1127, 78, 79, 80, 72, 76, 77, 1143, 1144, 5, 1011, 1150, 1149, 1145, 1113, 1111, 1112, 91, 1147, 1100031] S (sv_sts (sv_sts (sv_sts (sv_sts (sv_sts S [68, 69, 70, 81, 82, 83, 84, 85, 86, 74, 78, 79, 80, 76, 77, 1100031] g5) [68, 69, 70, 81, 82, 83, 84, 85, 86, 71, 74, 75, 1127, 78, 79, 80, 72, 76, 77, 1143, 1144, 5, 1011, 1150, 1149, 1145, 1113, 1111, 1112, 91, 1147, 1100031] g29) [68, 69, 70, 81, 82, 83, 84, 85, 86, 71, 74, 75, 1127, 78, 79, 80, 72, 76, 77, 1143, 1144, 5, 1011, 1150, 1149, 1145, 1113, 1111, 1112, 91, 1147, 1100031] g34) [68, 69, 70, 81, 82, 83, 84, 85, 86, 71, 74, 75, 1127, 78, 79, 80, 72, 76, 77, 1143, 1144, 5, 1011, 1150, 1149, 1145, 1113, 1111, 1112, 91, 1147, 1100031] g39) [68, 69, 70, 81, 82, 83, 84, 85, 86, 71, 74, 75, 1127, 78, 79, 80, 72, 76, 77, 1143, 1144, 5, 1011, 1150, 1149, 1145, 1113, 1111, 1112, 1100031] g73) := sv_mod.sts md44 (by decide)
                      have md78 : sv_mod [68, 69, 70, 81, 82, 83, 84, 85, 86, 71, 74, 75, 1127, 78, 79, 80, 72, 76, 77, 1143, 1144, 5, 1011, 1150, 1149, 1145, 1113, 1111, 1112, 91, 1147, 1100031] (sv_sts (sv_sts (sv_sts S [68, 69, 70, 81, 82, 83, 84, 85, 86, 74, 78, 79, 80, 76, 77, 1100031] g5) [68, 69, 70, 81, 82, 83, 84, 85, 86, 71, 74, 75, 1127, 78, 79, 80, 72, 76, 77, 1143, 1144, 5, 1011, 1150, 1149, 1145, 1113, 1111, 1112, 91, 1147, 1100031] g29) [68, 69, 70, 81, 82, 83, 84, 85, 86, 71, 74, 75, 1127, 78, 79, 80, 72, 76, 77, 1143, 1144, 5, 1011, 1150, 1149, 1145, 1113, 1111, 1112, 91, 1147, 1100031] g34) (sv_sts (sv_sts (sv_sts (sv_sts (sv_sts S [68, 69, 70, 81, 82, 83, 84, 85, 86, 74, 78, 79, 80, 76, 77, 1100031] g5) [68, 69, 70, 81, 82, 83, 84, 85, 86, 71, 74, 75, 1127, 78, 79, 80, 72, 76, 77, 1143, 1144, 5, 1011, 1150, 1149, 1145, 1113, 1111, 1112, 91, 1147, 1100031] g29) [68, 69, 70, 81, 82, 83, 84, 85, 86, 71, 74, 75, 1127, 78, 79, 80, 72, 76, 77, 1143, 1144, 5, 1011, 1150, 1149, 1145, 1113, 1111, 1112, 91, 1147, 1100031] g34) [68, 69, 70, 81, 82, 83, 84, 85, 86, 71, 74, 75, 1127, 78, 79, 80, 72, 76, 77, 1143, 1144, 5, 1011, 1150, 1149, 1145, 1113, 1111, 1112, 91, 1147, 1100031] g39) [68, 69, 70, 81, 82, 83, 84, 85, 86, 71, 74, 75, 1127, 78, 79, 80, 72, 76, 77, 1143, 1144, 5, 1011, 1150, 1149, 1145, 1113, 1111, 1112, 1100031] g73) := sv_mod.sts md45 (by decide)
                      have h := h g73 hpo76
                      refine sv_iinc (d := (1 : Int)) hM dX12_callWays_257 rfl (by decide) rfl rfl ?_
                      show sv_T sm_XS sm_cs sm_L sm_sh ((10 + (if p1 = -1 then 0 else if p2 = -1 then 1 else p4 + 2))).toNat (q_callWays p1 p2 p3 p4 p5 S) 281 260 [(0, .ref 0), (1, sv_I p1), (2, sv_I p2), (3, sv_I p3), (4, sv_I p4), (5, sv_I p5), (6, sv_I r16), (7, sv_L (g5 69 r16)), (9, sv_L (g5 70 r16)), (11, sv_I l11_22), (12, sv_I l12_23), (13, sv_I (l13_40 + (1 : Int)))] [] (sv_sts (sv_sts (sv_sts (sv_sts (sv_sts S [68, 69, 70, 81, 82, 83, 84, 85, 86, 74, 78, 79, 80, 76, 77, 1100031] g5) [68, 69, 70, 81, 82, 83, 84, 85, 86, 71, 74, 75, 1127, 78, 79, 80, 72, 76, 77, 1143, 1144, 5, 1011, 1150, 1149, 1145, 1113, 1111, 1112, 91, 1147, 1100031] g29) [68, 69, 70, 81, 82, 83, 84, 85, 86, 71, 74, 75, 1127, 78, 79, 80, 72, 76, 77, 1143, 1144, 5, 1011, 1150, 1149, 1145, 1113, 1111, 1112, 91, 1147, 1100031] g34) [68, 69, 70, 81, 82, 83, 84, 85, 86, 71, 74, 75, 1127, 78, 79, 80, 72, 76, 77, 1143, 1144, 5, 1011, 1150, 1149, 1145, 1113, 1111, 1112, 91, 1147, 1100031] g39) [68, 69, 70, 81, 82, 83, 84, 85, 86, 71, 74, 75, 1127, 78, 79, 80, 72, 76, 77, 1143, 1144, 5, 1011, 1150, 1149, 1145, 1113, 1111, 1112, 1100031] g73)
                      refine sv_goto hM dX12_callWays_260 (pc' := 180) rfl ?_
                      obtain ⟨o79, h⟩ := h
                      have eS := sv_mod.eq md78
                      have hb := ih41 ((l13_40 + (1 : Int)), (sv_sts (sv_sts (sv_sts (sv_sts (sv_sts S [68, 69, 70, 81, 82, 83, 84, 85, 86, 74, 78, 79, 80, 76, 77, 1100031] g5) [68, 69, 70, 81, 82, 83, 84, 85, 86, 71, 74, 75, 1127, 78, 79, 80, 72, 76, 77, 1143, 1144, 5, 1011, 1150, 1149, 1145, 1113, 1111, 1112, 91, 1147, 1100031] g29) [68, 69, 70, 81, 82, 83, 84, 85, 86, 71, 74, 75, 1127, 78, 79, 80, 72, 76, 77, 1143, 1144, 5, 1011, 1150, 1149, 1145, 1113, 1111, 1112, 91, 1147, 1100031] g34) [68, 69, 70, 81, 82, 83, 84, 85, 86, 71, 74, 75, 1127, 78, 79, 80, 72, 76, 77, 1143, 1144, 5, 1011, 1150, 1149, 1145, 1113, 1111, 1112, 91, 1147, 1100031] g39) [68, 69, 70, 81, 82, 83, 84, 85, 86, 71, 74, 75, 1127, 78, 79, 80, 72, 76, 77, 1143, 1144, 5, 1011, 1150, 1149, 1145, 1113, 1111, 1112, 1100031] g73)) ⟨o79, (by rw [← eS]; exact ok74), h.1⟩ h.2
                      have hb : sv_T sm_XS sm_cs sm_L sm_sh ((10 + (if p1 = -1 then 0 else if p2 = -1 then 1 else p4 + 2))).toNat (q_callWays p1 p2 p3 p4 p5 S) 281 180 [(0, .ref 0), (1, sv_I p1), (2, sv_I p2), (3, sv_I p3), (4, sv_I p4), (5, sv_I p5), (6, sv_I r16), (7, sv_L (g5 69 r16)), (9, sv_L (g5 70 r16)), (11, sv_I l11_22), (12, sv_I l12_23), (13, sv_I (l13_40 + (1 : Int)))] [] (sv_sts (sv_sts (sv_sts (sv_sts (sv_sts S [68, 69, 70, 81, 82, 83, 84, 85, 86, 74, 78, 79, 80, 76, 77, 1100031] g5) [68, 69, 70, 81, 82, 83, 84, 85, 86, 71, 74, 75, 1127, 78, 79, 80, 72, 76, 77, 1143, 1144, 5, 1011, 1150, 1149, 1145, 1113, 1111, 1112, 91, 1147, 1100031] g29) [68, 69, 70, 81, 82, 83, 84, 85, 86, 71, 74, 75, 1127, 78, 79, 80, 72, 76, 77, 1143, 1144, 5, 1011, 1150, 1149, 1145, 1113, 1111, 1112, 91, 1147, 1100031] g34) [68, 69, 70, 81, 82, 83, 84, 85, 86, 71, 74, 75, 1127, 78, 79, 80, 72, 76, 77, 1143, 1144, 5, 1011, 1150, 1149, 1145, 1113, 1111, 1112, 91, 1147, 1100031] g39) [68, 69, 70, 81, 82, 83, 84, 85, 86, 71, 74, 75, 1127, 78, 79, 80, 72, 76, 77, 1143, 1144, 5, 1011, 1150, 1149, 1145, 1113, 1111, 1112, 1100031] g73) := Eq.mpr (congrArg (fun Z => sv_T sm_XS sm_cs sm_L sm_sh ((10 + (if p1 = -1 then 0 else if p2 = -1 then 1 else p4 + 2))).toNat (q_callWays p1 p2 p3 p4 p5 S) 281 180 [(0, .ref 0), (1, sv_I p1), (2, sv_I p2), (3, sv_I p3), (4, sv_I p4), (5, sv_I p5), (6, sv_I r16), (7, sv_L (g5 69 r16)), (9, sv_L (g5 70 r16)), (11, sv_I l11_22), (12, sv_I l12_23), (13, sv_I (l13_40 + (1 : Int)))] [] Z) eS) hb
                      exact sv_less (lv := [(0, .ref 0), (1, sv_I p1), (2, sv_I p2), (3, sv_I p3), (4, sv_I p4), (5, sv_I p5), (6, sv_I r16), (7, sv_L (g5 69 r16)), (9, sv_L (g5 70 r16)), (11, sv_I l11_22), (12, sv_I l12_23), (13, sv_I (l13_40 + (1 : Int)))]) (sv_Sub_cons rfl (sv_Sub_cons rfl (sv_Sub_cons rfl (sv_Sub_cons rfl (sv_Sub_cons rfl (sv_Sub_cons rfl (sv_Sub_cons rfl (sv_Sub_cons rfl (sv_Sub_cons rfl (sv_Sub_cons rfl (sv_Sub_cons rfl (sv_Sub_cons rfl sv_Sub_nil)))))))))))) hb
                    · have h := h.2 (hc)
                      refine sv_aload_n hM dX12_callWays_209 rfl rfl ?_
                      refine sv_iload_n hM dX12_callWays_210 rfl rfl ?_
                      refine sv_iload hM dX12_callWays_211 rfl rfl ?_
                      refine sv_cond_le hM dX12_callWays_213 hp4 (t := 220) rfl rfl (fun hc => ?_) (fun hc => ?_)
                      · have h := h.1 (hc)
                        refine sv_iconst (d := (-1 : Int)) hM dX12_callWays_220 rfl rfl ?_
                        refine sv_iload_n hM dX12_callWays_221 rfl rfl ?_
                        refine sv_iconst (d := (1 : Int)) hM dX12_callWays_222 rfl rfl ?_
                        refine sv_iadd hM dX12_callWays_223 rfl ?_
                        refine sv_iload hM dX12_callWays_224 rfl rfl ?_
                        refine sv_cond_le hM dX12_callWays_226 hp4 (t := 236) rfl rfl (fun hc => ?_) (fun hc => ?_)
                        · have h := h.1 (hc)
                          refine sv_iconst (d := (0 : Int)) hM dX12_callWays_236 rfl rfl ?_
                          refine sv_iload hM dX12_callWays_237 rfl rfl ?_
                          obtain ⟨o80, h⟩ := h
                          obtain ⟨o81, h⟩ := h
                          obtain ⟨o82, h⟩ := h
                          obtain ⟨o83, h⟩ := h
                          refine sv_callV hM dX12_callWays_239 sm_iv_1320 (by decide) (sm_a0 _) rfl rfl (Nat.le_of_ble_eq_true rfl) sm_h281 (Nat.le_of_ble_eq_true rfl) (Nat.le_of_ble_eq_true rfl) (F' := (((10 + (if p2 = -1 then 0 else if (-1 : Int) = -1 then 1 else (0 : Int) + 2)))).toNat) (sv_Fe o83) rfl ((IH ((if p2 = -1 then 0 else if (-1 : Int) = -1 then 1 else (0 : Int) + 2)) o82.1 o82.2) p2 (-1 : Int) (p3 + (1 : Int)) (0 : Int) p5 (sv_sts (sv_sts (sv_sts (sv_sts S [68, 69, 70, 81, 82, 83, 84, 85, 86, 74, 78, 79, 80, 76, 77, 1100031] g5) [68, 69, 70, 81, 82, 83, 84, 85, 86, 71, 74, 75, 1127, 78, 79, 80, 72, 76, 77, 1143, 1144, 5, 1011, 1150, 1149, 1145, 1113, 1111, 1112, 91, 1147, 1100031] g29) [68, 69, 70, 81, 82, 83, 84, 85, 86, 71, 74, 75, 1127, 78, 79, 80, 72, 76, 77, 1143, 1144, 5, 1011, 1150, 1149, 1145, 1113, 1111, 1112, 91, 1147, 1100031] g34) [68, 69, 70, 81, 82, 83, 84, 85, 86, 71, 74, 75, 1127, 78, 79, 80, 72, 76, 77, 1143, 1144, 5, 1011, 1150, 1149, 1145, 1113, 1111, 1112, 91, 1147, 1100031] g39) ok67 hp2 (⟨by decide, by decide⟩ : sv_R (-1 : Int)) o80 (⟨by decide, by decide⟩ : sv_R (0 : Int)) hp5 o81 rfl) (fun v S1 hq => ?_)
                          obtain ⟨rfl, ok85, md86, hpo87⟩ := hq
                          obtain ⟨g84, rfl⟩ : ∃ g, S1 = sv_sts (sv_sts (sv_sts (sv_sts (sv_sts S [68, 69, 70, 81, 82, 83, 84, 85, 86, 74, 78, 79, 80, 76, 77, 1100031] g5) [68, 69, 70, 81, 82, 83, 84, 85, 86, 71, 74, 75, 1127, 78, 79, 80, 72, 76, 77, 1143, 1144, 5, 1011, 1150, 1149, 1145, 1113, 1111, 1112, 91, 1147, 1100031] g29) [68, 69, 70, 81, 82, 83, 84, 85, 86, 71, 74, 75, 1127, 78, 79, 80, 72, 76, 77, 1143, 1144, 5, 1011, 1150, 1149, 1145, 1113, 1111, 1112, 91, 1147, 1100031] g34) [68, 69, 70, 81, 82, 83, 84, 85, 86, 71, 74, 75, 1127, 78, 79, 80, 72, 76, 77, 1143, 1144, 5, 1011, 1150, 1149, 1145, 1113, 1111, 1112, 91, 1147, 1100031] g39) [68, 69, 70, 81, 82, 83, 84, 85, 86, 71, 74, 75, 1127, 78, 79, 80, 72, 76, 77, 1143, 1144, 5, 1011, 1150, 1149, 1145, 1113, 1111, 1112, 91, 1147, 1100031] g := ⟨_, md86.eq⟩
                          show sv_T sm_XS sm_cs sm_L sm_sh ((10 + (if p1 = -1 then 0 else if p2 = -1 then 1 else p4 + 2))).toNat (q_callWays p1 p2 p3 p4 p5 S) 281 242 [(0, .ref 0), (1, sv_I p1), (2, sv_I p2), (3, sv_I p3), (4, sv_I p4), (5, sv_I p5), (6, sv_I r16), (7, sv_L (g5 69 r16)), (9, sv_L (g5 70 r16)), (11, sv_I l11_22), (12, sv_I l12_23), (13, sv_I l13_40)] [] (sv_sts (sv_sts (sv_sts (sv_sts (sv_sts S [68, 69, 70, 81, 82, 83, 84, 85, 86, 74, 78, 79, 80, 76, 77, 1100031] g5) [68, 69, 70, 81, 82, 83, 84, 85, 86, 71, 74, 75, 1127, 78, 79, 80, 72, 76, 77, 1143, 1144, 5, 1011, 1150, 1149, 1145, 1113, 1111, 1112, 91, 1147, 1100031] g29) [68, 69, 70, 81, 82, 83, 84, 85, 86, 71, 74, 75, 1127, 78, 79, 80, 72, 76, 77, 1143, 1144, 5, 1011, 1150, 1149, 1145, 1113, 1111, 1112, 91, 1147, 1100031] g34) [68, 69, 70, 81, 82, 83, 84, 85, 86, 71, 74, 75, 1127, 78, 79, 80, 72, 76, 77, 1143, 1144, 5, 1011, 1150, 1149, 1145, 1113, 1111, 1112, 91, 1147, 1100031] g39) [68, 69, 70, 81, 82, 83, 84, 85, 86, 71, 74, 75, 1127, 78, 79, 80, 72, 76, 77, 1143, 1144, 5, 1011, 1150, 1149, 1145, 1113, 1111, 1112, 91, 1147, 1100031] g84)
                          have md88 : sv_mod [68, 69, 70, 81, 82, 83, 84, 85, 86, 71, 74, 75, 1127, 78, 79, 80, 72, 76, 77, 1143, 1144, 5, 1011, 1150, 1149, 1145, 1113, 1111, 1112, 91, 1147, 1100031] S (sv_sts (sv_sts (sv_sts (sv_sts (sv_sts S [68, 69, 70, 81, 82, 83, 84, 85, 86, 74, 78, 79, 80, 76, 77, 1100031] g5) [68, 69, 70, 81, 82, 83, 84, 85, 86, 71, 74, 75, 1127, 78, 79, 80, 72, 76, 77, 1143, 1144, 5, 1011, 1150, 1149, 1145, 1113, 1111, 1112, 91, 1147, 1100031] g29) [68, 69, 70, 81, 82, 83, 84, 85, 86, 71, 74, 75, 1127, 78, 79, 80, 72, 76, 77, 1143, 1144, 5, 1011, 1150, 1149, 1145, 1113, 1111, 1112, 91, 1147, 1100031] g34) [68, 69, 70, 81, 82, 83, 84, 85, 86, 71, 74, 75, 1127, 78, 79, 80, 72, 76, 77, 1143, 1144, 5, 1011, 1150, 1149, 1145, 1113, 1111, 1112, 91, 1147, 1100031] g39) [68, 69, 70, 81, 82, 83, 84, 85, 86, 71, 74, 75, 1127, 78, 79, 80, 72, 76, 77, 1143, 1144, 5, 1011, 1150, 1149, 1145, 1113, 1111, 1112, 91, 1147, 1100031] g84) := sv_mod.sts md44 (by decide)
                          have md89 : sv_mod [68, 69, 70, 81, 82, 83, 84, 85, 86, 71, 74, 75, 1127, 78, 79, 80, 72, 76, 77, 1143, 1144, 5, 1011, 1150, 1149, 1145, 1113, 1111, 1112, 91, 1147, 1100031] (sv_sts (sv_sts (sv_sts S [68, 69, 70, 81, 82, 83, 84, 85, 86, 74, 78, 79, 80, 76, 77, 1100031] g5) [68, 69, 70, 81, 82, 83, 84, 85, 86, 71, 74, 75, 1127, 78, 79, 80, 72, 76, 77, 1143, 1144, 5, 1011, 1150, 1149, 1145, 1113, 1111, 1112, 91, 1147, 1100031] g29) [68, 69, 70, 81, 82, 83, 84, 85, 86, 71, 74, 75, 1127, 78, 79, 80, 72, 76, 77, 1143, 1144, 5, 1011, 1150, 1149, 1145, 1113, 1111, 1112, 91, 1147, 1100031] g34) (sv_sts (sv_sts (sv_sts (sv_sts (sv_sts S [68, 69, 70, 81, 82, 83, 84, 85, 86, 74, 78, 79, 80, 76, 77, 1100031] g5) [68, 69, 70, 81, 82, 83, 84, 85, 86, 71, 74, 75, 1127, 78, 79, 80, 72, 76, 77, 1143, 1144, 5, 1011, 1150, 1149, 1145, 1113, 1111, 1112, 91, 1147, 1100031] g29) [68, 69, 70, 81, 82, 83, 84, 85, 86, 71, 74, 75, 1127, 78, 79, 80, 72, 76, 77, 1143, 1144, 5, 1011, 1150, 1149, 1145, 1113, 1111, 1112, 91, 1147, 1100031] g34) [68, 69, 70, 81, 82, 83, 84, 85, 86, 71, 74, 75, 1127, 78, 79, 80, 72, 76, 77, 1143, 1144, 5, 1011, 1150, 1149, 1145, 1113, 1111, 1112, 91, 1147, 1100031] g39) [68, 69, 70, 81, 82, 83, 84, 85, 86, 71, 74, 75, 1127, 78, 79, 80, 72, 76, 77, 1143, 1144, 5, 1011, 1150, 1149, 1145, 1113, 1111, 1112, 91, 1147, 1100031] g84) := sv_mod.sts md45 (by decide)
                          have h := h g84 hpo87
                          refine sv_goto hM dX12_callWays_242 (pc' := 257) rfl ?_
                          refine sv_iinc (d := (1 : Int)) hM dX12_callWays_257 rfl (by decide) rfl rfl ?_
                          show sv_T sm_XS sm_cs sm_L sm_sh ((10 + (if p1 = -1 then 0 else if p2 = -1 then 1 else p4 + 2))).toNat (q_callWays p1 p2 p3 p4 p5 S) 281 260 [(0, .ref 0), (1, sv_I p1), (2, sv_I p2), (3, sv_I p3), (4, sv_I p4), (5, sv_I p5), (6, sv_I r16), (7, sv_L (g5 69 r16)), (9, sv_L (g5 70 r16)), (11, sv_I l11_22), (12, sv_I l12_23), (13, sv_I (l13_40 + (1 : Int)))] [] (sv_sts (sv_sts (sv_sts (sv_sts (sv_sts S [68, 69, 70, 81, 82, 83, 84, 85, 86, 74, 78, 79, 80, 76, 77, 1100031] g5) [68, 69, 70, 81, 82, 83, 84, 85, 86, 71, 74, 75, 1127, 78, 79, 80, 72, 76, 77, 1143, 1144, 5, 1011, 1150, 1149, 1145, 1113, 1111, 1112, 91, 1147, 1100031] g29) [68, 69, 70, 81, 82, 83, 84, 85, 86, 71, 74, 75, 1127, 78, 79, 80, 72, 76, 77, 1143, 1144, 5, 1011, 1150, 1149, 1145, 1113, 1111, 1112, 91, 1147, 1100031] g34) [68, 69, 70, 81, 82, 83, 84, 85, 86, 71, 74, 75, 1127, 78, 79, 80, 72, 76, 77, 1143, 1144, 5, 1011, 1150, 1149, 1145, 1113, 1111, 1112, 91, 1147, 1100031] g39) [68, 69, 70, 81, 82, 83, 84, 85, 86, 71, 74, 75, 1127, 78, 79, 80, 72, 76, 77, 1143, 1144, 5, 1011, 1150, 1149, 1145, 1113, 1111, 1112, 91, 1147, 1100031] g84)
                          refine sv_goto hM dX12_callWays_260 (pc' := 180) rfl ?_
                          obtain ⟨o90, h⟩ := h
                          have eS := sv_mod.eq md89
                          have hb := ih41 ((l13_40 + (1 : Int)), (sv_sts (sv_sts (sv_sts (sv_sts (sv_sts S [68, 69, 70, 81, 82, 83, 84, 85, 86, 74, 78, 79, 80, 76, 77, 1100031] g5) [68, 69, 70, 81, 82, 83, 84, 85, 86, 71, 74, 75, 1127, 78, 79, 80, 72, 76, 77, 1143, 1144, 5, 1011, 1150, 1149, 1145, 1113, 1111, 1112, 91, 1147, 1100031] g29) [68, 69, 70, 81, 82, 83, 84, 85, 86, 71, 74, 75, 1127, 78, 79, 80, 72, 76, 77, 1143, 1144, 5, 1011, 1150, 1149, 1145, 1113, 1111, 1112, 91, 1147, 1100031] g34) [68, 69, 70, 81, 82, 83, 84, 85, 86, 71, 74, 75, 1127, 78, 79, 80, 72, 76, 77, 1143, 1144, 5, 1011, 1150, 1149, 1145, 1113, 1111, 1112, 91, 1147, 1100031] g39) [68, 69, 70, 81, 82, 83, 84, 85, 86, 71, 74, 75, 1127, 78, 79, 80, 72, 76, 77, 1143, 1144, 5, 1011, 1150, 1149, 1145, 1113, 1111, 1112, 91, 1147, 1100031] g84)) ⟨o90, (by rw [← eS]; exact ok85), h.1⟩ h.2
                          have hb : sv_T sm_XS sm_cs sm_L sm_sh ((10 + (if p1 = -1 then 0 else if p2 = -1 then 1 else p4 + 2))).toNat (q_callWays p1 p2 p3 p4 p5 S) 281 180 [(0, .ref 0), (1, sv_I p1), (2, sv_I p2), (3, sv_I p3), (4, sv_I p4), (5, sv_I p5), (6, sv_I r16), (7, sv_L (g5 69 r16)), (9, sv_L (g5 70 r16)), (11, sv_I l11_22), (12, sv_I l12_23), (13, sv_I (l13_40 + (1 : Int)))] [] (sv_sts (sv_sts (sv_sts (sv_sts (sv_sts S [68, 69, 70, 81, 82, 83, 84, 85, 86, 74, 78, 79, 80, 76, 77, 1100031] g5) [68, 69, 70, 81, 82, 83, 84, 85, 86, 71, 74, 75, 1127, 78, 79, 80, 72, 76, 77, 1143, 1144, 5, 1011, 1150, 1149, 1145, 1113, 1111, 1112, 91, 1147, 1100031] g29) [68, 69, 70, 81, 82, 83, 84, 85, 86, 71, 74, 75, 1127, 78, 79, 80, 72, 76, 77, 1143, 1144, 5, 1011, 1150, 1149, 1145, 1113, 1111, 1112, 91, 1147, 1100031] g34) [68, 69, 70, 81, 82, 83, 84, 85, 86, 71, 74, 75, 1127, 78, 79, 80, 72, 76, 77, 1143, 1144, 5, 1011, 1150, 1149, 1145, 1113, 1111, 1112, 91, 1147, 1100031] g39) [68, 69, 70, 81, 82, 83, 84, 85, 86, 71, 74, 75, 1127, 78, 79, 80, 72, 76, 77, 1143, 1144, 5, 1011, 1150, 1149, 1145, 1113, 1111, 1112, 91, 1147, 1100031] g84) := Eq.mpr (congrArg (fun Z => sv_T sm_XS sm_cs sm_L sm_sh ((10 + (if p1 = -1 then 0 else if p2 = -1 then 1 else p4 + 2))).toNat (q_callWays p1 p2 p3 p4 p5 S) 281 180 [(0, .ref 0), (1, sv_I p1), (2, sv_I p2), (3, sv_I p3), (4, sv_I p4), (5, sv_I p5), (6, sv_I r16), (7, sv_L (g5 69 r16)), (9, sv_L (g5 70 r16)), (11, sv_I l11_22), (12, sv_I l12_23), (13, sv_I (l13_40 + (1 : Int)))] [] Z) eS) hb
                          exact sv_less (lv := [(0, .ref 0), (1, sv_I p1), (2, sv_I p2), (3, sv_I p3), (4, sv_I p4), (5, sv_I p5), (6, sv_I r16), (7, sv_L (g5 69 r16)), (9, sv_L (g5 70 r16)), (11, sv_I l11_22), (12, sv_I l12_23), (13, sv_I (l13_40 + (1 : Int)))]) (sv_Sub_cons rfl (sv_Sub_cons rfl (sv_Sub_cons rfl (sv_Sub_cons rfl (sv_Sub_cons rfl (sv_Sub_cons rfl (sv_Sub_cons rfl (sv_Sub_cons rfl (sv_Sub_cons rfl (sv_Sub_cons rfl (sv_Sub_cons rfl (sv_Sub_cons rfl sv_Sub_nil)))))))))))) hb
                        · have h := h.2 (hc)
                          refine sv_iload hM dX12_callWays_229 rfl rfl ?_
                          refine sv_iconst (d := (1 : Int)) hM dX12_callWays_231 rfl rfl ?_
                          refine sv_isub hM dX12_callWays_232 rfl ?_
                          refine sv_goto hM dX12_callWays_233 (pc' := 237) rfl ?_
                          refine sv_iload hM dX12_callWays_237 rfl rfl ?_
                          obtain ⟨o91, h⟩ := h
                          obtain ⟨o92, h⟩ := h
                          obtain ⟨o93, h⟩ := h
                          obtain ⟨o94, h⟩ := h
                          obtain ⟨o95, h⟩ := h
                          refine sv_callV hM dX12_callWays_239 sm_iv_1320 (by decide) (sm_a0 _) rfl rfl (Nat.le_of_ble_eq_true rfl) sm_h281 (Nat.le_of_ble_eq_true rfl) (Nat.le_of_ble_eq_true rfl) (F' := (((10 + (if p2 = -1 then 0 else if (-1 : Int) = -1 then 1 else (p4 - (1 : Int)) + 2)))).toNat) (sv_Fe o95) rfl ((IH ((if p2 = -1 then 0 else if (-1 : Int) = -1 then 1 else (p4 - (1 : Int)) + 2)) o94.1 o94.2) p2 (-1 : Int) (p3 + (1 : Int)) (p4 - (1 : Int)) p5 (sv_sts (sv_sts (sv_sts (sv_sts S [68, 69, 70, 81, 82, 83, 84, 85, 86, 74, 78, 79, 80, 76, 77, 1100031] g5) [68, 69, 70, 81, 82, 83, 84, 85, 86, 71, 74, 75, 1127, 78, 79, 80, 72, 76, 77, 1143, 1144, 5, 1011, 1150, 1149, 1145, 1113, 1111, 1112, 91, 1147, 1100031] g29) [68, 69, 70, 81, 82, 83, 84, 85, 86, 71, 74, 75, 1127, 78, 79, 80, 72, 76, 77, 1143, 1144, 5, 1011, 1150, 1149, 1145, 1113, 1111, 1112, 91, 1147, 1100031] g34) [68, 69, 70, 81, 82, 83, 84, 85, 86, 71, 74, 75, 1127, 78, 79, 80, 72, 76, 77, 1143, 1144, 5, 1011, 1150, 1149, 1145, 1113, 1111, 1112, 91, 1147, 1100031] g39) ok67 hp2 (⟨by decide, by decide⟩ : sv_R (-1 : Int)) o91 o92 hp5 o93 rfl) (fun v S1 hq => ?_)
                          obtain ⟨rfl, ok97, md98, hpo99⟩ := hq
                          obtain ⟨g96, rfl⟩ : ∃ g, S1 = sv_sts (sv_sts (sv_sts (sv_sts (sv_sts S [68, 69, 70, 81, 82, 83, 84, 85, 86, 74, 78, 79, 80, 76, 77, 1100031] g5) [68, 69, 70, 81, 82, 83, 84, 85, 86, 71, 74, 75, 1127, 78, 79, 80, 72, 76, 77, 1143, 1144, 5, 1011, 1150, 1149, 1145, 1113, 1111, 1112, 91, 1147, 1100031] g29) [68, 69, 70, 81, 82, 83, 84, 85, 86, 71, 74, 75, 1127, 78, 79, 80, 72, 76, 77, 1143, 1144, 5, 1011, 1150, 1149, 1145, 1113, 1111, 1112, 91, 1147, 1100031] g34) [68, 69, 70, 81, 82, 83, 84, 85, 86, 71, 74, 75, 1127, 78, 79, 80, 72, 76, 77, 1143, 1144, 5, 1011, 1150, 1149, 1145, 1113, 1111, 1112, 91, 1147, 1100031] g39) [68, 69, 70, 81, 82, 83, 84, 85, 86, 71, 74, 75, 1127, 78, 79, 80, 72, 76, 77, 1143, 1144, 5, 1011, 1150, 1149, 1145, 1113, 1111, 1112, 91, 1147, 1100031] g := ⟨_, md98.eq⟩
                          show sv_T sm_XS sm_cs sm_L sm_sh ((10 + (if p1 = -1 then 0 else if p2 = -1 then 1 else p4 + 2))).toNat (q_callWays p1 p2 p3 p4 p5 S) 281 242 [(0, .ref 0), (1, sv_I p1), (2, sv_I p2), (3, sv_I p3), (4, sv_I p4), (5, sv_I p5), (6, sv_I r16), (7, sv_L (g5 69 r16)), (9, sv_L (g5 70 r16)), (11, sv_I l11_22), (12, sv_I l12_23), (13, sv_I l13_40)] [] (sv_sts (sv_sts (sv_sts (sv_sts (sv_sts S [68, 69, 70, 81, 82, 83, 84, 85, 86, 74, 78, 79, 80, 76, 77, 1100031] g5) [68, 69, 70, 81, 82, 83, 84, 85, 86, 71, 74, 75, 1127, 78, 79, 80, 72, 76, 77, 1143, 1144, 5, 1011, 1150, 1149, 1145, 1113, 1111, 1112, 91, 1147, 1100031] g29) [68, 69, 70, 81, 82, 83, 84, 85, 86, 71, 74, 75, 1127, 78, 79, 80, 72, 76, 77, 1143, 1144, 5, 1011, 1150, 1149, 1145, 1113, 1111, 1112, 91, 1147, 1100031] g34) [68, 69, 70, 81, 82, 83, 84, 85, 86, 71, 74, 75, 1127, 78, 79, 80, 72, 76, 77, 1143, 1144, 5, 1011, 1150, 1149, 1145, 1113, 1111, 1112, 91, 1147, 1100031] g39) [68, 69, 70, 81, 82, 83, 84, 85, 86, 71, 74, 75, 1127, 78, 79, 80, 72, 76, 77, 1143, 1144, 5, 1011, 1150, 1149, 1145, 1113, 1111, 1112, 91, 1147, 1100031] g96)
                          have md100 : sv_mod [68, 69, 70, 81, 82, 83, 84, 85, 86, 71, 74, 75, 1127, 78, 79, 80, 72, 76, 77, 1143, 1144, 5, 1011, 1150, 1149, 1145, 1113, 1111, 1112, 91, 1147, 1100031] S (sv_sts (sv_sts (sv_sts (sv_sts (sv_sts S [68, 69, 70, 81, 82, 83, 84, 85, 86, 74, 78, 79, 80, 76, 77, 1100031] g5) [68, 69, 70, 81, 82, 83, 84, 85, 86, 71, 74, 75, 1127, 78, 79, 80, 72, 76, 77, 1143, 1144, 5, 1011, 1150, 1149, 1145, 1113, 1111, 1112, 91, 1147, 1100031] g29) [68, 69, 70, 81, 82, 83, 84, 85, 86, 71, 74, 75, 1127, 78, 79, 80, 72, 76, 77, 1143, 1144, 5, 1011, 1150, 1149, 1145, 1113, 1111, 1112, 91, 1147, 1100031] g34) [68, 69, 70, 81, 82, 83, 84, 85, 86, 71, 74, 75, 1127, 78, 79, 80, 72, 76, 77, 1143, 1144, 5, 1011, 1150, 1149, 1145, 1113, 1111, 1112, 91, 1147, 1100031] g39) [68, 69, 70, 81, 82, 83, 84, 85, 86, 71, 74, 75, 1127, 78, 79, 80, 72, 76, 77, 1143, 1144, 5, 1011, 1150, 1149, 1145, 1113, 1111, 1112, 91, 1147, 1100031] g96) := sv_mod.sts md44 (by decide)
                          have md101 : sv_mod [68, 69, 70, 81, 82, 83, 84, 85, 86, 71, 74, 75, 1127, 78, 79, 80, 72, 76, 77, 1143, 1144, 5, 1011, 1150, 1149, 1145, 1113, 1111, 1112, 91, 1147, 1100031] (sv_sts (sv_sts (sv_sts S [68, 69, 70, 81, 82, 83, 84, 85, 86, 74, 78, 79, 80, 76, 77, 1100031] g5) [68, 69, 70, 81, 82, 83, 84, 85, 86, 71, 74, 75, 1127, 78, 79, 80, 72, 76, 77, 1143, 1144, 5, 1011, 1150, 1149, 1145, 1113, 1111, 1112, 91, 1147, 1100031] g29) [68, 69, 70, 81, 82, 83, 84, 85, 86, 71, 74, 75, 1127, 78, 79, 80, 72, 76, 77, 1143, 1144, 5, 1011, 1150, 1149, 1145, 1113, 1111, 1112, 91, 1147, 1100031] g34) (sv_sts (sv_sts (sv_sts (sv_sts (sv_sts S [68, 69, 70, 81, 82, 83, 84, 85, 86, 74, 78, 79, 80, 76, 77, 1100031] g5) [68, 69, 70, 81, 82, 83, 84, 85, 86, 71, 74, 75, 1127, 78, 79, 80, 72, 76, 77, 1143, 1144, 5, 1011, 1150, 1149, 1145, 1113, 1111, 1112, 91, 1147, 1100031] g29) [68, 69, 70, 81, 82, 83, 84, 85, 86, 71, 74, 75, 1127, 78, 79, 80, 72, 76, 77, 1143, 1144, 5, 1011, 1150, 1149, 1145, 1113, 1111, 1112, 91, 1147, 1100031] g34) [68, 69, 70, 81, 82, 83, 84, 85, 86, 71, 74, 75, 1127, 78, 79, 80, 72, 76, 77, 1143, 1144, 5, 1011, 1150, 1149, 1145, 1113, 1111, 1112, 91, 1147, 1100031] g39) [68, 69, 70, 81, 82, 83, 84, 85, 86, 71, 74, 75, 1127, 78, 79, 80, 72, 76, 77, 1143, 1144, 5, 1011, 1150, 1149, 1145, 1113, 1111, 1112, 91, 1147, 1100031] g96) := sv_mod.sts md45 (by decide)
                          have h := h g96 hpo99
                          refine sv_goto hM dX12_callWays_242 (pc' := 257) rfl ?_
                          refine sv_iinc (d := (1 : Int)) hM dX12_callWays_257 rfl (by decide) rfl rfl ?_
                          show sv_T sm_XS sm_cs sm_L sm_sh ((10 + (if p1 = -1 then 0 else if p2 = -1 then 1 else p4 + 2))).toNat (q_callWays p1 p2 p3 p4 p5 S) 281 260 [(0, .ref 0), (1, sv_I p1), (2, sv_I p2), (3, sv_I p3), (4, sv_I p4), (5, sv_I p5), (6, sv_I r16), (7, sv_L (g5 69 r16)), (9, sv_L (g5 70 r16)), (11, sv_I l11_22), (12, sv_I l12_23), (13, sv_I (l13_40 + (1 : Int)))] [] (sv_sts (sv_sts (sv_sts (sv_sts (sv_sts S [68, 69, 70, 81, 82, 83, 84, 85, 86, 74, 78, 79, 80, 76, 77, 1100031] g5) [68, 69, 70, 81, 82, 83, 84, 85, 86, 71, 74, 75, 1127, 78, 79, 80, 72, 76, 77, 1143, 1144, 5, 1011, 1150, 1149, 1145, 1113, 1111, 1112, 91, 1147, 1100031] g29) [68, 69, 70, 81, 82, 83, 84, 85, 86, 71, 74, 75, 1127, 78, 79, 80, 72, 76, 77, 1143, 1144, 5, 1011, 1150, 1149, 1145, 1113, 1111, 1112, 91, 1147, 1100031] g34) [68, 69, 70, 81, 82, 83, 84, 85, 86, 71, 74, 75, 1127, 78, 79, 80, 72, 76, 77, 1143, 1144, 5, 1011, 1150, 1149, 1145, 1113, 1111, 1112, 91, 1147, 1100031] g39) [68, 69, 70, 81, 82, 83, 84, 85, 86, 71, 74, 75, 1127, 78, 79, 80, 72, 76, 77, 1143, 1144, 5, 1011, 1150, 1149, 1145, 1113, 1111, 1112, 91, 1147, 1100031] g96)
                          refine sv_goto hM dX12_callWays_260 (pc' := 180) rfl ?_
                          obtain ⟨o102, h⟩ := h
                          have eS := sv_mod.eq md101
                          have hb := ih41 ((l13_40 + (1 : Int)), (sv_sts (sv_sts (sv_sts (sv_sts (sv_sts S [68, 69, 70, 81, 82, 83, 84, 85, 86, 74, 78, 79, 80, 76, 77, 1100031] g5) [68, 69, 70, 81, 82, 83, 84, 85, 86, 71, 74, 75, 1127, 78, 79, 80, 72, 76, 77, 1143, 1144, 5, 1011, 1150, 1149, 1145, 1113, 1111, 1112, 91, 1147, 1100031] g29) [68, 69, 70, 81, 82, 83, 84, 85, 86, 71, 74, 75, 1127, 78, 79, 80, 72, 76, 77, 1143, 1144, 5, 1011, 1150, 1149, 1145, 1113, 1111, 1112, 91, 1147, 1100031] g34) [68, 69, 70, 81, 82, 83, 84, 85, 86, 71, 74, 75, 1127, 78, 79, 80, 72, 76, 77, 1143, 1144, 5, 1011, 1150, 1149, 1145, 1113, 1111, 1112, 91, 1147, 1100031] g39) [68, 69, 70, 81, 82, 83, 84, 85, 86, 71, 74, 75, 1127, 78, 79, 80, 72, 76, 77, 1143, 1144, 5, 1011, 1150, 1149, 1145, 1113, 1111, 1112, 91, 1147, 1100031] g96)) ⟨o102, (by rw [← eS]; exact ok97), h.1⟩ h.2
                          have hb : sv_T sm_XS sm_cs sm_L sm_sh ((10 + (if p1 = -1 then 0 else if p2 = -1 then 1 else p4 + 2))).toNat (q_callWays p1 p2 p3 p4 p5 S) 281 180 [(0, .ref 0), (1, sv_I p1), (2, sv_I p2), (3, sv_I p3), (4, sv_I p4), (5, sv_I p5), (6, sv_I r16), (7, sv_L (g5 69 r16)), (9, sv_L (g5 70 r16)), (11, sv_I l11_22), (12, sv_I l12_23), (13, sv_I (l13_40 + (1 : Int)))] [] (sv_sts (sv_sts (sv_sts (sv_sts (sv_sts S [68, 69, 70, 81, 82, 83, 84, 85, 86, 74, 78, 79, 80, 76, 77, 1100031] g5) [68, 69, 70, 81, 82, 83, 84, 85, 86, 71, 74, 75, 1127, 78, 79, 80, 72, 76, 77, 1143, 1144, 5, 1011, 1150, 1149, 1145, 1113, 1111, 1112, 91, 1147, 1100031] g29) [68, 69, 70, 81, 82, 83, 84, 85, 86, 71, 74, 75, 1127, 78, 79, 80, 72, 76, 77, 1143, 1144, 5, 1011, 1150, 1149, 1145, 1113, 1111, 1112, 91, 1147, 1100031] g34) [68, 69, 70, 81, 82, 83, 84, 85, 86, 71, 74, 75, 1127, 78, 79, 80, 72, 76, 77, 1143, 1144, 5, 1011, 1150, 1149, 1145, 1113, 1111, 1112, 91, 1147, 1100031] g39) [68, 69, 70, 81, 82, 83, 84, 85, 86, 71, 74, 75, 1127, 78, 79, 80, 72, 76, 77, 1143, 1144, 5, 1011, 1150, 1149, 1145, 1113, 1111, 1112, 91, 1147, 1100031] g96) := Eq.mpr (congrArg (fun Z => sv_T sm_XS sm_cs sm_L sm_sh ((10 + (if p1 = -1 then 0 else if p2 = -1 then 1 else p4 + 2))).toNat (q_callWays p1 p2 p3 p4 p5 S) 281 180 [(0, .ref 0), (1, sv_I p1), (2, sv_I p2), (3, sv_I p3), (4, sv_I p4), (5, sv_I p5), (6, sv_I r16), (7, sv_L (g5 69 r16)), (9, sv_L (g5 70 r16)), (11, sv_I l11_22), (12, sv_I l12_23), (13, sv_I (l13_40 + (1 : Int)))] [] Z) eS) hb
                          exact sv_less (lv := [(0, .ref 0), (1, sv_I p1), (2, sv_I p2), (3, sv_I p3), (4, sv_I p4), (5, sv_I p5), (6, sv_I r16), (7, sv_L (g5 69 r16)), (9, sv_L (g5 70 r16)), (11, sv_I l11_22), (12, sv_I l12_23), (13, sv_I (l13_40 + (1 : Int)))]) (sv_Sub_cons rfl (sv_Sub_cons rfl (sv_Sub_cons rfl (sv_Sub_cons rfl (sv_Sub_cons rfl (sv_Sub_cons rfl (sv_Sub_cons rfl (sv_Sub_cons rfl (sv_Sub_cons rfl (sv_Sub_cons rfl (sv_Sub_cons rfl (sv_Sub_cons rfl sv_Sub_nil)))))))))))) hb
                      · have h := h.2 (hc)
                        refine sv_iload_n hM dX12_callWays_216 rfl rfl ?_
                        refine sv_goto hM dX12_callWays_217 (pc' := 221) rfl ?_
                        refine sv_iload_n hM dX12_callWays_221 rfl rfl ?_
                        refine sv_iconst (d := (1 : Int)) hM dX12_callWays_222 rfl rfl ?_
                        refine sv_iadd hM dX12_callWays_223 rfl ?_
                        refine sv_iload hM dX12_callWays_224 rfl rfl ?_
                        refine sv_cond_le hM dX12_callWays_226 hp4 (t := 236) rfl rfl (fun hc => ?_) (fun hc => ?_)
                        · have h := h.1 (hc)
                          refine sv_iconst (d := (0 : Int)) hM dX12_callWays_236 rfl rfl ?_
                          refine sv_iload hM dX12_callWays_237 rfl rfl ?_
                          obtain ⟨o103, h⟩ := h
                          obtain ⟨o104, h⟩ := h
                          obtain ⟨o105, h⟩ := h
                          obtain ⟨o106, h⟩ := h
                          refine sv_callV hM dX12_callWays_239 sm_iv_1320 (by decide) (sm_a0 _) rfl rfl (Nat.le_of_ble_eq_true rfl) sm_h281 (Nat.le_of_ble_eq_true rfl) (Nat.le_of_ble_eq_true rfl) (F' := (((10 + (if p2 = -1 then 0 else if p3 = -1 then 1 else (0 : Int) + 2)))).toNat) (sv_Fe o106) rfl ((IH ((if p2 = -1 then 0 else if p3 = -1 then 1 else (0 : Int) + 2)) o105.1 o105.2) p2 p3 (p3 + (1 : Int)) (0 : Int) p5 (sv_sts (sv_sts (sv_sts (sv_sts S [68, 69, 70, 81, 82, 83, 84, 85, 86, 74, 78, 79, 80, 76, 77, 1100031] g5) [68, 69, 70, 81, 82, 83, 84, 85, 86, 71, 74, 75, 1127, 78, 79, 80, 72, 76, 77, 1143, 1144, 5, 1011, 1150, 1149, 1145, 1113, 1111, 1112, 91, 1147, 1100031] g29) [68, 69, 70, 81, 82, 83, 84, 85, 86, 71, 74, 75, 1127, 78, 79, 80, 72, 76, 77, 1143, 1144, 5, 1011, 1150, 1149, 1145, 1113, 1111, 1112, 91, 1147, 1100031] g34) [68, 69, 70, 81, 82, 83, 84, 85, 86, 71, 74, 75, 1127, 78, 79, 80, 72, 76, 77, 1143, 1144, 5, 1011, 1150, 1149, 1145, 1113, 1111, 1112, 91, 1147, 1100031] g39) ok67 hp2 hp3 o103 (⟨by decide, by decide⟩ : sv_R (0 : Int)) hp5 o104 rfl) (fun v S1 hq => ?_)
                          obtain ⟨rfl, ok108, md109, hpo110⟩ := hq
                          obtain ⟨g107, rfl⟩ : ∃ g, S1 = sv_sts (sv_sts (sv_sts (sv_sts (sv_sts S [68, 69, 70, 81, 82, 83, 84, 85, 86, 74, 78, 79, 80, 76, 77, 1100031] g5) [68, 69, 70, 81, 82, 83, 84, 85, 86, 71, 74, 75, 1127, 78, 79, 80, 72, 76, 77, 1143, 1144, 5, 1011, 1150, 1149, 1145, 1113, 1111, 1112, 91, 1147, 1100031] g29) [68, 69, 70, 81, 82, 83, 84, 85, 86, 71, 74, 75, 1127, 78, 79, 80, 72, 76, 77, 1143, 1144, 5, 1011, 1150, 1149, 1145, 1113, 1111, 1112, 91, 1147, 1100031] g34) [68, 69, 70, 81, 82, 83, 84, 85, 86, 71, 74, 75, 1127, 78, 79, 80, 72, 76, 77, 1143, 1144, 5, 1011, 1150, 1149, 1145, 1113, 1111, 1112, 91, 1147, 1100031] g39) [68, 69, 70, 81, 82, 83, 84, 85, 86, 71, 74, 75, 1127, 78, 79, 80, 72, 76, 77, 1143, 1144, 5, 1011, 1150, 1149, 1145, 1113, 1111, 1112, 91, 1147, 1100031] g := ⟨_, md109.eq⟩
                          show sv_T sm_XS sm_cs sm_L sm_sh ((10 + (if p1 = -1 then 0 else if p2 = -1 then 1 else p4 + 2))).toNat (q_callWays p1 p2 p3 p4 p5 S) 281 242 [(0, .ref 0), (1, sv_I p1), (2, sv_I p2), (3, sv_I p3), (4, sv_I p4), (5, sv_I p5), (6, sv_I r16), (7, sv_L (g5 69 r16)), (9, sv_L (g5 70 r16)), (11, sv_I l11_22), (12, sv_I l12_23), (13, sv_I l13_40)] [] (sv_sts (sv_sts (sv_sts (sv_sts (sv_sts S [68, 69, 70, 81, 82, 83, 84, 85, 86, 74, 78, 79, 80, 76, 77, 1100031] g5) [68, 69, 70, 81, 82, 83, 84, 85, 86, 71, 74, 75, 1127, 78, 79, 80, 72, 76, 77, 1143, 1144, 5, 1011, 1150, 1149, 1145, 1113, 1111, 1112, 91, 1147, 1100031] g29) [68, 69, 70, 81, 82, 83, 84, 85, 86, 71, 74, 75, 1127, 78, 79, 80, 72, 76, 77, 1143, 1144, 5, 1011, 1150, 1149, 1145, 1113, 1111, 1112, 91, 1147, 1100031] g34) [68, 69, 70, 81, 82, 83, 84, 85, 86, 71, 74, 75, 1127, 78, 79, 80, 72, 76, 77, 1143, 1144, 5, 1011, 1150, 1149, 1145, 1113, 1111, 1112, 91, 1147, 1100031] g39) [68, 69, 70, 81, 82, 83, 84, 85, 86, 71, 74, 75, 1127, 78, 79, 80, 72, 76, 77, 1143, 1144, 5, 1011, 1150, 1149, 1145, 1113, 1111, 1112, 91, 1147, 1100031] g107)
                          have md111 : sv_mod [68, 69, 70, 81, 82, 83, 84, 85, 86, 71, 74, 75, 1127, 78, 79, 80, 72, 76, 77, 1143, 1144, 5, 1011, 1150, 1149, 1145, 1113, 1111, 1112, 91, 1147, 1100031] S (sv_sts (sv_sts (sv_sts (sv_sts (sv_sts S [68, 69, 70, 81, 82, 83, 84, 85, 86, 74, 78, 79, 80, 76, 77, 1100031] g5) [68, 69, 70, 81, 82, 83, 84, 85, 86, 71, 74, 75, 1127, 78, 79, 80, 72, 76, 77, 1143, 1144, 5, 1011, 1150, 1149, 1145, 1113, 1111, 1112, 91, 1147, 1100031] g29) [68, 69, 70, 81, 82, 83, 84, 85, 86, 71, 74, 75, 1127, 78, 79, 80, 72, 76, 77, 1143, 1144, 5, 1011, 1150, 1149, 1145, 1113, 1111, 1112, 91, 1147, 1100031] g34) [68, 69, 70, 81, 82, 83, 84, 85, 86, 71, 74, 75, 1127, 78, 79, 80, 72, 76, 77, 1143, 1144, 5, 1011, 1150, 1149, 1145, 1113, 1111, 1112, 91, 1147, 1100031] g39) [68, 69, 70, 81, 82, 83, 84, 85, 86, 71, 74, 75, 1127, 78, 79, 80, 72, 76, 77, 1143, 1144, 5, 1011, 1150, 1149, 1145, 1113, 1111, 1112, 91, 1147, 1100031] g107) := sv_mod.sts md44 (by decide)
                          have md112 : sv_mod [68, 69, 70, 81, 82, 83, 84, 85, 86, 71, 74, 75, 1127, 78, 79, 80, 72, 76, 77, 1143, 1144, 5, 1011, 1150, 1149, 1145, 1113, 1111, 1112, 91, 1147, 1100031] (sv_sts (sv_sts (sv_sts S [68, 69, 70, 81, 82, 83, 84, 85, 86, 74, 78, 79, 80, 76, 77, 1100031] g5) [68, 69, 70, 81, 82, 83, 84, 85, 86, 71, 74, 75, 1127, 78, 79, 80, 72, 76, 77, 1143, 1144, 5, 1011, 1150, 1149, 1145, 1113, 1111, 1112, 91, 1147, 1100031] g29) [68, 69, 70, 81, 82, 83, 84, 85, 86, 71, 74, 75, 1127, 78, 79, 80, 72, 76, 77, 1143, 1144, 5, 1011, 1150, 1149, 1145, 1113, 1111, 1112, 91, 1147, 1100031] g34) (sv_sts (sv_sts (sv_sts (sv_sts (sv_sts S [68, 69, 70, 81, 82, 83, 84, 85, 86, 74, 78, 79, 80, 76, 77, 1100031] g5) [68, 69, 70, 81, 82, 83, 84, 85, 86, 71, 74, 75, 1127, 78, 79, 80, 72, 76, 77, 1143, 1144, 5, 1011, 1150, 1149, 1145, 1113, 1111, 1112, 91, 1147, 1100031] g29) [68, 69, 70, 81, 82, 83, 84, 85, 86, 71, 74, 75, 1127, 78, 79, 80, 72, 76, 77, 1143, 1144, 5, 1011, 1150, 1149, 1145, 1113, 1111, 1112, 91, 1147, 1100031] g34) [68, 69, 70, 81, 82, 83, 84, 85, 86, 71, 74, 75, 1127, 78, 79, 80, 72, 76, 77, 1143, 1144, 5, 1011, 1150, 1149, 1145, 1113, 1111, 1112, 91, 1147, 1100031] g39) [68, 69, 70, 81, 82, 83, 84, 85, 86, 71, 74, 75, 1127, 78, 79, 80, 72, 76, 77, 1143, 1144, 5, 1011, 1150, 1149, 1145, 1113, 1111, 1112, 91, 1147, 1100031] g107) := sv_mod.sts md45 (by decide)
                          have h := h g107 hpo110
                          refine sv_goto hM dX12_callWays_242 (pc' := 257) rfl ?_
                          refine sv_iinc (d := (1 : Int)) hM dX12_callWays_257 rfl (by decide) rfl rfl ?_
                          show sv_T sm_XS sm_cs sm_L sm_sh ((10 + (if p1 = -1 then 0 else if p2 = -1 then 1 else p4 + 2))).toNat (q_callWays p1 p2 p3 p4 p5 S) 281 260 [(0, .ref 0), (1, sv_I p1), (2, sv_I p2), (3, sv_I p3), (4, sv_I p4), (5, sv_I p5), (6, sv_I r16), (7, sv_L (g5 69 r16)), (9, sv_L (g5 70 r16)), (11, sv_I l11_22), (12, sv_I l12_23), (13, sv_I (l13_40 + (1 : Int)))] [] (sv_sts (sv_sts (sv_sts (sv_sts (sv_sts S [68, 69, 70, 81, 82, 83, 84, 85, 86, 74, 78, 79, 80, 76, 77, 1100031] g5) [68, 69, 70, 81, 82, 83, 84, 85, 86, 71, 74, 75, 1127, 78, 79, 80, 72, 76, 77, 1143, 1144, 5, 1011, 1150, 1149, 1145, 1113, 1111, 1112, 91, 1147, 1100031] g29) [68, 69, 70, 81, 82, 83, 84, 85, 86, 71, 74, 75, 1127, 78, 79, 80, 72, 76, 77, 1143, 1144, 5, 1011, 1150, 1149, 1145, 1113, 1111, 1112, 91, 1147, 1100031] g34) [68, 69, 70, 81, 82, 83, 84, 85, 86, 71, 74, 75, 1127, 78, 79, 80, 72, 76, 77, 1143, 1144, 5, 1011, 1150, 1149, 1145, 1113, 1111, 1112, 91, 1147, 1100031] g39) [68, 69, 70, 81, 82, 83, 84, 85, 86, 71, 74, 75, 1127, 78, 79, 80, 72, 76, 77, 1143, 1144, 5, 1011, 1150, 1149, 1145, 1113, 1111, 1112, 91, 1147, 1100031] g107)
                          refine sv_goto hM dX12_callWays_260 (pc' := 180) rfl ?_
                          obtain ⟨o113, h⟩ := h
                          have eS := sv_mod.eq md112
                          have hb := ih41 ((l13_40 + (1 : Int)), (sv_sts (sv_sts (sv_sts (sv_sts (sv_sts S [68, 69, 70, 81, 82, 83, 84, 85, 86, 74, 78, 79, 80, 76, 77, 1100031] g5) [68, 69, 70, 81, 82, 83, 84, 85, 86, 71, 74, 75, 1127, 78, 79, 80, 72, 76, 77, 1143, 1144, 5, 1011, 1150, 1149, 1145, 1113, 1111, 1112, 91, 1147, 1100031] g29) [68, 69, 70, 81, 82, 83, 84, 85, 86, 71, 74, 75, 1127, 78, 79, 80, 72, 76, 77, 1143, 1144, 5, 1011, 1150, 1149, 1145, 1113, 1111, 1112, 91, 1147, 1100031] g34) [68, 69, 70, 81, 82, 83, 84, 85, 86, 71, 74, 75, 1127, 78, 79, 80, 72, 76, 77, 1143, 1144, 5, 1011, 1150, 1149, 1145, 1113, 1111, 1112, 91, 1147, 1100031] g39) [68, 69, 70, 81, 82, 83, 84, 85, 86, 71, 74, 75, 1127, 78, 79, 80, 72, 76, 77, 1143, 1144, 5, 1011, 1150, 1149, 1145, 1113, 1111, 1112, 91, 1147, 1100031] g107)) ⟨o113, (by rw [← eS]; exact ok108), h.1⟩ h.2
                          have hb : sv_T sm_XS sm_cs sm_L sm_sh ((10 + (if p1 = -1 then 0 else if p2 = -1 then 1 else p4 + 2))).toNat (q_callWays p1 p2 p3 p4 p5 S) 281 180 [(0, .ref 0), (1, sv_I p1), (2, sv_I p2), (3, sv_I p3), (4, sv_I p4), (5, sv_I p5), (6, sv_I r16), (7, sv_L (g5 69 r16)), (9, sv_L (g5 70 r16)), (11, sv_I l11_22), (12, sv_I l12_23), (13, sv_I (l13_40 + (1 : Int)))] [] (sv_sts (sv_sts (sv_sts (sv_sts (sv_sts S [68, 69, 70, 81, 82, 83, 84, 85, 86, 74, 78, 79, 80, 76, 77, 1100031] g5) [68, 69, 70, 81, 82, 83, 84, 85, 86, 71, 74, 75, 1127, 78, 79, 80, 72, 76, 77, 1143, 1144, 5, 1011, 1150, 1149, 1145, 1113, 1111, 1112, 91, 1147, 1100031] g29) [68, 69, 70, 81, 82, 83, 84, 85, 86, 71, 74, 75, 1127, 78, 79, 80, 72, 76, 77, 1143, 1144, 5, 1011, 1150, 1149, 1145, 1113, 1111, 1112, 91, 1147, 1100031] g34) [68, 69, 70, 81, 82, 83, 84, 85, 86, 71, 74, 75, 1127, 78, 79, 80, 72, 76, 77, 1143, 1144, 5, 1011, 1150, 1149, 1145, 1113, 1111, 1112, 91, 1147, 1100031] g39) [68, 69, 70, 81, 82, 83, 84, 85, 86, 71, 74, 75, 1127, 78, 79, 80, 72, 76, 77, 1143, 1144, 5, 1011, 1150, 1149, 1145, 1113, 1111, 1112, 91, 1147, 1100031] g107) := Eq.mpr (congrArg (fun Z => sv_T sm_XS sm_cs sm_L sm_sh ((10 + (if p1 = -1 then 0 else if p2 = -1 then 1 else p4 + 2))).toNat (q_callWays p1 p2 p3 p4 p5 S) 281 180 [(0, .ref 0), (1, sv_I p1), (2, sv_I p2), (3, sv_I p3), (4, sv_I p4), (5, sv_I p5), (6, sv_I r16), (7, sv_L (g5 69 r16)), (9, sv_L (g5 70 r16)), (11, sv_I l11_22), (12, sv_I l12_23), (13, sv_I (l13_40 + (1 : Int)))] [] Z) eS) hb
                          exact sv_less (lv := [(0, .ref 0), (1, sv_I p1), (2, sv_I p2), (3, sv_I p3), (4, sv_I p4), (5, sv_I p5), (6, sv_I r16), (7, sv_L (g5 69 r16)), (9, sv_L (g5 70 r16)), (11, sv_I l11_22), (12, sv_I l12_23), (13, sv_I (l13_40 + (1 : Int)))]) (sv_Sub_cons rfl (sv_Sub_cons rfl (sv_Sub_cons rfl (sv_Sub_cons rfl (sv_Sub_cons rfl (sv_Sub_cons rfl (sv_Sub_cons rfl (sv_Sub_cons rfl (sv_Sub_cons rfl (sv_Sub_cons rfl (sv_Sub_cons rfl (sv_Sub_cons rfl sv_Sub_nil)))))))))))) hb
                        · have h := h.2 (hc)
                          refine sv_iload hM dX12_callWays_229 rfl rfl ?_
                          refine sv_iconst (d := (1 : Int)) hM dX12_callWays_231 rfl rfl ?_
                          refine sv_isub hM dX12_callWays_232 rfl ?_
                          refine sv_goto hM dX12_callWays_233 (pc' := 237) rfl ?_
                          refine sv_iload hM dX12_callWays_237 rfl rfl ?_
                          obtain ⟨o114, h⟩ := h
                          obtain ⟨o115, h⟩ := h
                          obtain ⟨o116, h⟩ := h
                          obtain ⟨o117, h⟩ := h
                          obtain ⟨o118, h⟩ := h
                          refine sv_callV hM dX12_callWays_239 sm_iv_1320 (by decide) (sm_a0 _) rfl rfl (Nat.le_of_ble_eq_true rfl) sm_h281 (Nat.le_of_ble_eq_true rfl) (Nat.le_of_ble_eq_true rfl) (F' := (((10 + (if p2 = -1 then 0 else if p3 = -1 then 1 else (p4 - (1 : Int)) + 2)))).toNat) (sv_Fe o118) rfl ((IH ((if p2 = -1 then 0 else if p3 = -1 then 1 else (p4 - (1 : Int)) + 2)) o117.1 o117.2) p2 p3 (p3 + (1 : Int)) (p4 - (1 : Int)) p5 (sv_sts (sv_sts (sv_sts (sv_sts S [68, 69, 70, 81, 82, 83, 84, 85, 86, 74, 78, 79, 80, 76, 77, 1100031] g5) [68, 69, 70, 81, 82, 83, 84, 85, 86, 71, 74, 75, 1127, 78, 79, 80, 72, 76, 77, 1143, 1144, 5, 1011, 1150, 1149, 1145, 1113, 1111, 1112, 91, 1147, 1100031] g29) [68, 69, 70, 81, 82, 83, 84, 85, 86, 71, 74, 75, 1127, 78, 79, 80, 72, 76, 77, 1143, 1144, 5, 1011, 1150, 1149, 1145, 1113, 1111, 1112, 91, 1147, 1100031] g34) [68, 69, 70, 81, 82, 83, 84, 85, 86, 71, 74, 75, 1127, 78, 79, 80, 72, 76, 77, 1143, 1144, 5, 1011, 1150, 1149, 1145, 1113, 1111, 1112, 91, 1147, 1100031] g39) ok67 hp2 hp3 o114 o115 hp5 o116 rfl) (fun v S1 hq => ?_)
                          obtain ⟨rfl, ok120, md121, hpo122⟩ := hq
                          obtain ⟨g119, rfl⟩ : ∃ g, S1 = sv_sts (sv_sts (sv_sts (sv_sts (sv_sts S [68, 69, 70, 81, 82, 83, 84, 85, 86, 74, 78, 79, 80, 76, 77, 1100031] g5) [68, 69, 70, 81, 82, 83, 84, 85, 86, 71, 74, 75, 1127, 78, 79, 80, 72, 76, 77, 1143, 1144, 5, 1011, 1150, 1149, 1145, 1113, 1111, 1112, 91, 1147, 1100031] g29) [68, 69, 70, 81, 82, 83, 84, 85, 86, 71, 74, 75, 1127, 78, 79, 80, 72, 76, 77, 1143, 1144, 5, 1011, 1150, 1149, 1145, 1113, 1111, 1112, 91, 1147, 1100031] g34) [68, 69, 70, 81, 82, 83, 84, 85, 86, 71, 74, 75, 1127, 78, 79, 80, 72, 76, 77, 1143, 1144, 5, 1011, 1150, 1149, 1145, 1113, 1111, 1112, 91, 1147, 1100031] g39) [68, 69, 70, 81, 82, 83, 84, 85, 86, 71, 74, 75, 1127, 78, 79, 80, 72, 76, 77, 1143, 1144, 5, 1011, 1150, 1149, 1145, 1113, 1111, 1112, 91, 1147, 1100031] g := ⟨_, md121.eq⟩
                          show sv_T sm_XS sm_cs sm_L sm_sh ((10 + (if p1 = -1 then 0 else if p2 = -1 then 1 else p4 + 2))).toNat (q_callWays p1 p2 p3 p4 p5 S) 281 242 [(0, .ref 0), (1, sv_I p1), (2, sv_I p2), (3, sv_I p3), (4, sv_I p4), (5, sv_I p5), (6, sv_I r16), (7, sv_L (g5 69 r16)), (9, sv_L (g5 70 r16)), (11, sv_I l11_22), (12, sv_I l12_23), (13, sv_I l13_40)] [] (sv_sts (sv_sts (sv_sts (sv_sts (sv_sts S [68, 69, 70, 81, 82, 83, 84, 85, 86, 74, 78, 79, 80, 76, 77, 1100031] g5) [68, 69, 70, 81, 82, 83, 84, 85, 86, 71, 74, 75, 1127, 78, 79, 80, 72, 76, 77, 1143, 1144, 5, 1011, 1150, 1149, 1145, 1113, 1111, 1112, 91, 1147, 1100031] g29) [68, 69, 70, 81, 82, 83, 84, 85, 86, 71, 74, 75, 1127, 78, 79, 80, 72, 76, 77, 1143, 1144, 5, 1011, 1150, 1149, 1145, 1113, 1111, 1112, 91, 1147, 1100031] g34) [68, 69, 70, 81, 82, 83, 84, 85, 86, 71, 74, 75, 1127, 78, 79, 80, 72, 76, 77, 1143, 1144, 5, 1011, 1150, 1149, 1145, 1113, 1111, 1112, 91, 1147, 1100031] g39) [68, 69, 70, 81, 82, 83, 84, 85, 86, 71, 74, 75, 1127, 78, 79, 80, 72, 76, 77, 1143, 1144, 5, 1011, 1150, 1149, 1145, 1113, 1111, 1112, 91, 1147, 1100031] g119)
                          have md123 : sv_mod [68, 69, 70, 81, 82, 83, 84, 85, 86, 71, 74, 75, 1127, 78, 79, 80, 72, 76, 77, 1143, 1144, 5, 1011, 1150, 1149, 1145, 1113, 1111, 1112, 91, 1147, 1100031] S (sv_sts (sv_sts (sv_sts (sv_sts (sv_sts S [68, 69, 70, 81, 82, 83, 84, 85, 86, 74, 78, 79, 80, 76, 77, 1100031] g5) [68, 69, 70, 81, 82, 83, 84, 85, 86, 71, 74, 75, 1127, 78, 79, 80, 72, 76, 77, 1143, 1144, 5, 1011, 1150, 1149, 1145, 1113, 1111, 1112, 91, 1147, 1100031] g29) [68, 69, 70, 81, 82, 83, 84, 85, 86, 71, 74, 75, 1127, 78, 79, 80, 72, 76, 77, 1143, 1144, 5, 1011, 1150, 1149, 1145, 1113, 1111, 1112, 91, 1147, 1100031] g34) [68, 69, 70, 81, 82, 83, 84, 85, 86, 71, 74, 75, 1127, 78, 79, 80, 72, 76, 77, 1143, 1144, 5, 1011, 1150, 1149, 1145, 1113, 1111, 1112, 91, 1147, 1100031] g39) [68, 69, 70, 81, 82, 83, 84, 85, 86, 71, 74, 75, 1127, 78, 79, 80, 72, 76, 77, 1143, 1144, 5, 1011, 1150, 1149, 1145, 1113, 1111, 1112, 91, 1147, 1100031] g119) := sv_mod.sts md44 (by decide)
                          have md124 : sv_mod [68, 69, 70, 81, 82, 83, 84, 85, 86, 71, 74, 75, 1127, 78, 79, 80, 72, 76, 77, 1143, 1144, 5, 1011, 1150, 1149, 1145, 1113, 1111, 1112, 91, 1147, 1100031] (sv_sts (sv_sts (sv_sts S [68, 69, 70, 81, 82, 83, 84, 85, 86, 74, 78, 79, 80, 76, 77, 1100031] g5) [68, 69, 70, 81, 82, 83, 84, 85, 86, 71, 74, 75, 1127, 78, 79, 80, 72, 76, 77, 1143, 1144, 5, 1011, 1150, 1149, 1145, 1113, 1111, 1112, 91, 1147, 1100031] g29) [68, 69, 70, 81, 82, 83, 84, 85, 86, 71, 74, 75, 1127, 78, 79, 80, 72, 76, 77, 1143, 1144, 5, 1011, 1150, 1149, 1145, 1113, 1111, 1112, 91, 1147, 1100031] g34) (sv_sts (sv_sts (sv_sts (sv_sts (sv_sts S [68, 69, 70, 81, 82, 83, 84, 85, 86, 74, 78, 79, 80, 76, 77, 1100031] g5) [68, 69, 70, 81, 82, 83, 84, 85, 86, 71, 74, 75, 1127, 78, 79, 80, 72, 76, 77, 1143, 1144, 5, 1011, 1150, 1149, 1145, 1113, 1111, 1112, 91, 1147, 1100031] g29) [68, 69, 70, 81, 82, 83, 84, 85, 86, 71, 74, 75, 1127, 78, 79, 80, 72, 76, 77, 1143, 1144, 5, 1011, 1150, 1149, 1145, 1113, 1111, 1112, 91, 1147, 1100031] g34) [68, 69, 70, 81, 82, 83, 84, 85, 86, 71, 74, 75, 1127, 78, 79, 80, 72, 76, 77, 1143, 1144, 5, 1011, 1150, 1149, 1145, 1113, 1111, 1112, 91, 1147, 1100031] g39) [68, 69, 70, 81, 82, 83, 84, 85, 86, 71, 74, 75, 1127, 78, 79, 80, 72, 76, 77, 1143, 1144, 5, 1011, 1150, 1149, 1145, 1113, 1111, 1112, 91, 1147, 1100031] g119) := sv_mod.sts md45 (by decide)
                          have h := h g119 hpo122
                          refine sv_goto hM dX12_callWays_242 (pc' := 257) rfl ?_
                          refine sv_iinc (d := (1 : Int)) hM dX12_callWays_257 rfl (by decide) rfl rfl ?_
                          show sv_T sm_XS sm_cs sm_L sm_sh ((10 + (if p1 = -1 then 0 else if p2 = -1 then 1 else p4 + 2))).toNat (q_callWays p1 p2 p3 p4 p5 S) 281 260 [(0, .ref 0), (1, sv_I p1), (2, sv_I p2), (3, sv_I p3), (4, sv_I p4), (5, sv_I p5), (6, sv_I r16), (7, sv_L (g5 69 r16)), (9, sv_L (g5 70 r16)), (11, sv_I l11_22), (12, sv_I l12_23), (13, sv_I (l13_40 + (1 : Int)))] [] (sv_sts (sv_sts (sv_sts (sv_sts (sv_sts S [68, 69, 70, 81, 82, 83, 84, 85, 86, 74, 78, 79, 80, 76, 77, 1100031] g5) [68, 69, 70, 81, 82, 83, 84, 85, 86, 71, 74, 75, 1127, 78, 79, 80, 72, 76, 77, 1143, 1144, 5, 1011, 1150, 1149, 1145, 1113, 1111, 1112, 91, 1147, 1100031] g29) [68, 69, 70, 81, 82, 83, 84, 85, 86, 71, 74, 75, 1127, 78, 79, 80, 72, 76, 77, 1143, 1144, 5, 1011, 1150, 1149, 1145, 1113, 1111, 1112, 91, 1147, 1100031] g34) [68, 69, 70, 81, 82, 83, 84, 85, 86, 71, 74, 75, 1127, 78, 79, 80, 72, 76, 77, 1143, 1144, 5, 1011, 1150, 1149, 1145, 1113, 1111, 1112, 91, 1147, 1100031] g39) [68, 69, 70, 81, 82, 83, 84, 85, 86, 71, 74, 75, 1127, 78, 79, 80, 72, 76, 77, 1143, 1144, 5, 1011, 1150, 1149, 1145, 1113, 1111, 1112, 91, 1147, 1100031] g119)
                          refine sv_goto hM dX12_callWays_260 (pc' := 180) rfl ?_
                          obtain ⟨o125, h⟩ := h
                          have eS := sv_mod.eq md124
                          have hb := ih41 ((l13_40 + (1 : Int)), (sv_sts (sv_sts (sv_sts (sv_sts (sv_sts S [68, 69, 70, 81, 82, 83, 84, 85, 86, 74, 78, 79, 80, 76, 77, 1100031] g5) [68, 69, 70, 81, 82, 83, 84, 85, 86, 71, 74, 75, 1127, 78, 79, 80, 72, 76, 77, 1143, 1144, 5, 1011, 1150, 1149, 1145, 1113, 1111, 1112, 91, 1147, 1100031] g29) [68, 69, 70, 81, 82, 83, 84, 85, 86, 71, 74, 75, 1127, 78, 79, 80, 72, 76, 77, 1143, 1144, 5, 1011, 1150, 1149, 1145, 1113, 1111, 1112, 91, 1147, 1100031] g34) [68, 69, 70, 81, 82, 83, 84, 85, 86, 71, 74, 75, 1127, 78, 79, 80, 72, 76, 77, 1143, 1144, 5, 1011, 1150, 1149, 1145, 1113, 1111, 1112, 91, 1147, 1100031] g39) [68, 69, 70, 81, 82, 83, 84, 85, 86, 71, 74, 75, 1127, 78, 79, 80, 72, 76, 77, 1143, 1144, 5, 1011, 1150, 1149, 1145, 1113, 1111, 1112, 91, 1147, 1100031] g119)) ⟨o125, (by rw [← eS]; exact ok120), h.1⟩ h.2
                          have hb : sv_T sm_XS sm_cs sm_L sm_sh ((10 + (if p1 = -1 then 0 else if p2 = -1 then 1 else p4 + 2))).toNat (q_callWays p1 p2 p3 p4 p5 S) 281 180 [(0, .ref 0), (1, sv_I p1), (2, sv_I p2), (3, sv_I p3), (4, sv_I p4), (5, sv_I p5), (6, sv_I r16), (7, sv_L (g5 69 r16)), (9, sv_L (g5 70 r16)), (11, sv_I l11_22), (12, sv_I l12_23), (13, sv_I (l13_40 + (1 : Int)))] [] (sv_sts (sv_sts (sv_sts (sv_sts (sv_sts S [68, 69, 70, 81, 82, 83, 84, 85, 86, 74, 78, 79, 80, 76, 77, 1100031] g5) [68, 69, 70, 81, 82, 83, 84, 85, 86, 71, 74, 75, 1127, 78, 79, 80, 72, 76, 77, 1143, 1144, 5, 1011, 1150, 1149, 1145, 1113, 1111, 1112, 91, 1147, 1100031] g29) [68, 69, 70, 81, 82, 83, 84, 85, 86, 71, 74, 75, 1127, 78, 79, 80, 72, 76, 77, 1143, 1144, 5, 1011, 1150, 1149, 1145, 1113, 1111, 1112, 91, 1147, 1100031] g34) [68, 69, 70, 81, 82, 83, 84, 85, 86, 71, 74, 75, 1127, 78, 79, 80, 72, 76, 77, 1143, 1144, 5, 1011, 1150, 1149, 1145, 1113, 1111, 1112, 91, 1147, 1100031] g39) [68, 69, 70, 81, 82, 83, 84, 85, 86, 71, 74, 75, 1127, 78, 79, 80, 72, 76, 77, 1143, 1144, 5, 1011, 1150, 1149, 1145, 1113, 1111, 1112, 91, 1147, 1100031] g119) := Eq.mpr (congrArg (fun Z => sv_T sm_XS sm_cs sm_L sm_sh ((10 + (if p1 = -1 then 0 else if p2 = -1 then 1 else p4 + 2))).toNat (q_callWays p1 p2 p3 p4 p5 S) 281 180 [(0, .ref 0), (1, sv_I p1), (2, sv_I p2), (3, sv_I p3), (4, sv_I p4), (5, sv_I p5), (6, sv_I r16), (7, sv_L (g5 69 r16)), (9, sv_L (g5 70 r16)), (11, sv_I l11_22), (12, sv_I l12_23), (13, sv_I (l13_40 + (1 : Int)))] [] Z) eS) hb
                          exact sv_less (lv := [(0, .ref 0), (1, sv_I p1), (2, sv_I p2), (3, sv_I p3), (4, sv_I p4), (5, sv_I p5), (6, sv_I r16), (7, sv_L (g5 69 r16)), (9, sv_L (g5 70 r16)), (11, sv_I l11_22), (12, sv_I l12_23), (13, sv_I (l13_40 + (1 : Int)))]) (sv_Sub_cons rfl (sv_Sub_cons rfl (sv_Sub_cons rfl (sv_Sub_cons rfl (sv_Sub_cons rfl (sv_Sub_cons rfl (sv_Sub_cons rfl (sv_Sub_cons rfl (sv_Sub_cons rfl (sv_Sub_cons rfl (sv_Sub_cons rfl (sv_Sub_cons rfl sv_Sub_nil)))))))))))) hb
                  · have h := h.2 (hc)
                    refine sv_goto hM dX12_callWays_199 (pc' := 257) rfl ?_
                    refine sv_iinc (d := (1 : Int)) hM dX12_callWays_257 rfl (by decide) rfl rfl ?_
                    show sv_T sm_XS sm_cs sm_L sm_sh ((10 + (if p1 = -1 then 0 else if p2 = -1 then 1 else p4 + 2))).toNat (q_callWays p1 p2 p3 p4 p5 S) 281 260 [(0, .ref 0), (1, sv_I p1), (2, sv_I p2), (3, sv_I p3), (4, sv_I p4), (5, sv_I p5), (6, sv_I r16), (7, sv_L (g5 69 r16)), (9, sv_L (g5 70 r16)), (11, sv_I l11_22), (12, sv_I l12_23), (13, sv_I (l13_40 + (1 : Int)))] [] (sv_sts (sv_sts (sv_sts (sv_sts S [68, 69, 70, 81, 82, 83, 84, 85, 86, 74, 78, 79, 80, 76, 77, 1100031] g5) [68, 69, 70, 81, 82, 83, 84, 85, 86, 71, 74, 75, 1127, 78, 79, 80, 72, 76, 77, 1143, 1144, 5, 1011, 1150, 1149, 1145, 1113, 1111, 1112, 91, 1147, 1100031] g29) [68, 69, 70, 81, 82, 83, 84, 85, 86, 71, 74, 75, 1127, 78, 79, 80, 72, 76, 77, 1143, 1144, 5, 1011, 1150, 1149, 1145, 1113, 1111, 1112, 91, 1147, 1100031] g34) [68, 69, 70, 81, 82, 83, 84, 85, 86, 71, 74, 75, 1127, 78, 79, 80, 72, 76, 77, 1143, 1144, 5, 1011, 1150, 1149, 1145, 1113, 1111, 1112, 91, 1147, 1100031] g39)
                    refine sv_goto hM dX12_callWays_260 (pc' := 180) rfl ?_
                    obtain ⟨o126, h⟩ := h
                    have eS := sv_mod.eq md45
                    have hb := ih41 ((l13_40 + (1 : Int)), (sv_sts (sv_sts (sv_sts (sv_sts S [68, 69, 70, 81, 82, 83, 84, 85, 86, 74, 78, 79, 80, 76, 77, 1100031] g5) [68, 69, 70, 81, 82, 83, 84, 85, 86, 71, 74, 75, 1127, 78, 79, 80, 72, 76, 77, 1143, 1144, 5, 1011, 1150, 1149, 1145, 1113, 1111, 1112, 91, 1147, 1100031] g29) [68, 69, 70, 81, 82, 83, 84, 85, 86, 71, 74, 75, 1127, 78, 79, 80, 72, 76, 77, 1143, 1144, 5, 1011, 1150, 1149, 1145, 1113, 1111, 1112, 91, 1147, 1100031] g34) [68, 69, 70, 81, 82, 83, 84, 85, 86, 71, 74, 75, 1127, 78, 79, 80, 72, 76, 77, 1143, 1144, 5, 1011, 1150, 1149, 1145, 1113, 1111, 1112, 91, 1147, 1100031] g39)) ⟨o126, (by rw [← eS]; exact ok67), h.1⟩ h.2
                    have hb : sv_T sm_XS sm_cs sm_L sm_sh ((10 + (if p1 = -1 then 0 else if p2 = -1 then 1 else p4 + 2))).toNat (q_callWays p1 p2 p3 p4 p5 S) 281 180 [(0, .ref 0), (1, sv_I p1), (2, sv_I p2), (3, sv_I p3), (4, sv_I p4), (5, sv_I p5), (6, sv_I r16), (7, sv_L (g5 69 r16)), (9, sv_L (g5 70 r16)), (11, sv_I l11_22), (12, sv_I l12_23), (13, sv_I (l13_40 + (1 : Int)))] [] (sv_sts (sv_sts (sv_sts (sv_sts S [68, 69, 70, 81, 82, 83, 84, 85, 86, 74, 78, 79, 80, 76, 77, 1100031] g5) [68, 69, 70, 81, 82, 83, 84, 85, 86, 71, 74, 75, 1127, 78, 79, 80, 72, 76, 77, 1143, 1144, 5, 1011, 1150, 1149, 1145, 1113, 1111, 1112, 91, 1147, 1100031] g29) [68, 69, 70, 81, 82, 83, 84, 85, 86, 71, 74, 75, 1127, 78, 79, 80, 72, 76, 77, 1143, 1144, 5, 1011, 1150, 1149, 1145, 1113, 1111, 1112, 91, 1147, 1100031] g34) [68, 69, 70, 81, 82, 83, 84, 85, 86, 71, 74, 75, 1127, 78, 79, 80, 72, 76, 77, 1143, 1144, 5, 1011, 1150, 1149, 1145, 1113, 1111, 1112, 91, 1147, 1100031] g39) := Eq.mpr (congrArg (fun Z => sv_T sm_XS sm_cs sm_L sm_sh ((10 + (if p1 = -1 then 0 else if p2 = -1 then 1 else p4 + 2))).toNat (q_callWays p1 p2 p3 p4 p5 S) 281 180 [(0, .ref 0), (1, sv_I p1), (2, sv_I p2), (3, sv_I p3), (4, sv_I p4), (5, sv_I p5), (6, sv_I r16), (7, sv_L (g5 69 r16)), (9, sv_L (g5 70 r16)), (11, sv_I l11_22), (12, sv_I l12_23), (13, sv_I (l13_40 + (1 : Int)))] [] Z) eS) hb
                    exact sv_less (lv := [(0, .ref 0), (1, sv_I p1), (2, sv_I p2), (3, sv_I p3), (4, sv_I p4), (5, sv_I p5), (6, sv_I r16), (7, sv_L (g5 69 r16)), (9, sv_L (g5 70 r16)), (11, sv_I l11_22), (12, sv_I l12_23), (13, sv_I (l13_40 + (1 : Int)))]) (sv_Sub_cons rfl (sv_Sub_cons rfl (sv_Sub_cons rfl (sv_Sub_cons rfl (sv_Sub_cons rfl (sv_Sub_cons rfl (sv_Sub_cons rfl (sv_Sub_cons rfl (sv_Sub_cons rfl (sv_Sub_cons rfl (sv_Sub_cons rfl (sv_Sub_cons rfl sv_Sub_nil)))))))))))) hb
              have eS := sv_mod.eq (sv_mod.rf (l := [68, 69, 70, 81, 82, 83, 84, 85, 86, 71, 74, 75, 1127, 78, 79, 80, 72, 76, 77, 1143, 1144, 5, 1011, 1150, 1149, 1145, 1113, 1111, 1112, 91, 1147, 1100031]) (S := (sv_sts (sv_sts (sv_sts S [68, 69, 70, 81, 82, 83, 84, 85, 86, 74, 78, 79, 80, 76, 77, 1100031] g5) [68, 69, 70, 81, 82, 83, 84, 85, 86, 71, 74, 75, 1127, 78, 79, 80, 72, 76, 77, 1143, 1144, 5, 1011, 1150, 1149, 1145, 1113, 1111, 1112, 91, 1147, 1100031] g29) [68, 69, 70, 81, 82, 83, 84, 85, 86, 71, 74, 75, 1127, 78, 79, 80, 72, 76, 77, 1143, 1144, 5, 1011, 1150, 1149, 1145, 1113, 1111, 1112, 91, 1147, 1100031] g34)))
              have hb := hJ ((9 : Int), (sv_sts (sv_sts (sv_sts S [68, 69, 70, 81, 82, 83, 84, 85, 86, 74, 78, 79, 80, 76, 77, 1100031] g5) [68, 69, 70, 81, 82, 83, 84, 85, 86, 71, 74, 75, 1127, 78, 79, 80, 72, 76, 77, 1143, 1144, 5, 1011, 1150, 1149, 1145, 1113, 1111, 1112, 91, 1147, 1100031] g29) [68, 69, 70, 81, 82, 83, 84, 85, 86, 71, 74, 75, 1127, 78, 79, 80, 72, 76, 77, 1143, 1144, 5, 1011, 1150, 1149, 1145, 1113, 1111, 1112, 91, 1147, 1100031] g34)) ⟨(⟨by decide, by decide⟩ : sv_R (9 : Int)), (by rw [← eS]; exact ok35), hin42⟩
              have hb : sv_T sm_XS sm_cs sm_L sm_sh ((10 + (if p1 = -1 then 0 else if p2 = -1 then 1 else p4 + 2))).toNat (q_callWays p1 p2 p3 p4 p5 S) 281 180 [(0, .ref 0), (1, sv_I p1), (2, sv_I p2), (3, sv_I p3), (4, sv_I p4), (5, sv_I p5), (6, sv_I r16), (7, sv_L (g5 69 r16)), (9, sv_L (g5 70 r16)), (11, sv_I l11_22), (12, sv_I l12_23), (13, sv_I (9 : Int))] [] (sv_sts (sv_sts (sv_sts S [68, 69, 70, 81, 82, 83, 84, 85, 86, 74, 78, 79, 80, 76, 77, 1100031] g5) [68, 69, 70, 81, 82, 83, 84, 85, 86, 71, 74, 75, 1127, 78, 79, 80, 72, 76, 77, 1143, 1144, 5, 1011, 1150, 1149, 1145, 1113, 1111, 1112, 91, 1147, 1100031] g29) [68, 69, 70, 81, 82, 83, 84, 85, 86, 71, 74, 75, 1127, 78, 79, 80, 72, 76, 77, 1143, 1144, 5, 1011, 1150, 1149, 1145, 1113, 1111, 1112, 91, 1147, 1100031] g34) := Eq.mpr (congrArg (fun Z => sv_T sm_XS sm_cs sm_L sm_sh ((10 + (if p1 = -1 then 0 else if p2 = -1 then 1 else p4 + 2))).toNat (q_callWays p1 p2 p3 p4 p5 S) 281 180 [(0, .ref 0), (1, sv_I p1), (2, sv_I p2), (3, sv_I p3), (4, sv_I p4), (5, sv_I p5), (6, sv_I r16), (7, sv_L (g5 69 r16)), (9, sv_L (g5 70 r16)), (11, sv_I l11_22), (12, sv_I l12_23), (13, sv_I (9 : Int))] [] Z) eS) hb
              exact hb
            have h := h.2
            refine sv_iload hM dX12_callWays_161 rfl rfl ?_
            refine sv_cond_eq hM dX12_callWays_163 hl12_23 (t := 176) rfl rfl (fun hc => ?_) (fun hc => ?_)
            · have h := h.1 (hc)
              have eS := sv_mod.eq (sv_mod.rf (l := [68, 69, 70, 81, 82, 83, 84, 85, 86, 71, 74, 75, 1127, 78, 79, 80, 72, 76, 77, 1143, 1144, 5, 1011, 1150, 1149, 1145, 1113, 1111, 1112, 91, 1147, 1100031]) (S := (sv_sts (sv_sts S [68, 69, 70, 81, 82, 83, 84, 85, 86, 74, 78, 79, 80, 76, 77, 1100031] g5) [68, 69, 70, 81, 82, 83, 84, 85, 86, 71, 74, 75, 1127, 78, 79, 80, 72, 76, 77, 1143, 1144, 5, 1011, 1150, 1149, 1145, 1113, 1111, 1112, 91, 1147, 1100031] g29)))
              have hb := J127 (sv_sts (sv_sts S [68, 69, 70, 81, 82, 83, 84, 85, 86, 74, 78, 79, 80, 76, 77, 1100031] g5) [68, 69, 70, 81, 82, 83, 84, 85, 86, 71, 74, 75, 1127, 78, 79, 80, 72, 76, 77, 1143, 1144, 5, 1011, 1150, 1149, 1145, 1113, 1111, 1112, 91, 1147, 1100031] g29) (by rw [← eS]; exact ok30) h
              have hb : sv_T sm_XS sm_cs sm_L sm_sh ((10 + (if p1 = -1 then 0 else if p2 = -1 then 1 else p4 + 2))).toNat (q_callWays p1 p2 p3 p4 p5 S) 281 176 [(0, .ref 0), (1, sv_I p1), (2, sv_I p2), (3, sv_I p3), (4, sv_I p4), (5, sv_I p5), (6, sv_I r16), (7, sv_L (g5 69 r16)), (9, sv_L (g5 70 r16)), (11, sv_I l11_22), (12, sv_I l12_23), (13, sv_I l13_24)] [] (sv_sts (sv_sts S [68, 69, 70, 81, 82, 83, 84, 85, 86, 74, 78, 79, 80, 76, 77, 1100031] g5) [68, 69, 70, 81, 82, 83, 84, 85, 86, 71, 74, 75, 1127, 78, 79, 80, 72, 76, 77, 1143, 1144, 5, 1011, 1150, 1149, 1145, 1113, 1111, 1112, 91, 1147, 1100031] g29) := Eq.mpr (congrArg (fun Z => sv_T sm_XS sm_cs sm_L sm_sh ((10 + (if p1 = -1 then 0 else if p2 = -1 then 1 else p4 + 2))).toNat (q_callWays p1 p2 p3 p4 p5 S) 281 176 [(0, .ref 0), (1, sv_I p1), (2, sv_I p2), (3, sv_I p3), (4, sv_I p4), (5, sv_I p5), (6, sv_I r16), (7, sv_L (g5 69 r16)), (9, sv_L (g5 70 r16)), (11, sv_I l11_22), (12, sv_I l12_23), (13, sv_I l13_24)] [] Z) eS) hb
              exact sv_less (lv := [(0, .ref 0), (1, sv_I p1), (2, sv_I p2), (3, sv_I p3), (4, sv_I p4), (5, sv_I p5), (6, sv_I r16), (7, sv_L (g5 69 r16)), (9, sv_L (g5 70 r16)), (11, sv_I l11_22), (12, sv_I l12_23), (13, sv_I l13_24)]) (sv_Sub_cons rfl (sv_Sub_cons rfl (sv_Sub_cons rfl (sv_Sub_cons rfl (sv_Sub_cons rfl (sv_Sub_cons rfl (sv_Sub_cons rfl (sv_Sub_cons rfl (sv_Sub_cons rfl (sv_Sub_cons rfl (sv_Sub_cons rfl (sv_Sub_cons rfl sv_Sub_nil)))))))))))) hb
            · have h := h.2 (hc)
              refine sv_aload_n hM dX12_callWays_166 rfl rfl ?_
              refine sv_aload_n hM dX12_callWays_167 rfl rfl ?_
              refine sv_getI hM dX12_callWays_168 sm_fl_1188 (sm_a0 _) sm_k148 rfl (x := (S 1148 0)) rfl ?_
              refine sv_bipush (d := (8 : Int)) hM dX12_callWays_171 rfl rfl ?_
              obtain ⟨o128, h⟩ := h
              obtain ⟨o129, h⟩ := h
              refine sv_callV hM dX12_callWays_173 sm_iv_1292 (by decide) (sm_a0 _) rfl rfl (Nat.le_of_ble_eq_true rfl) sm_h263 (Nat.le_of_ble_eq_true rfl) (Nat.le_of_ble_eq_true rfl) (F' := 8) (sv_Fn (n := 8) o129) rfl (t_error_ (S 1148 0) (8 : Int) (sv_sts (sv_sts S [68, 69, 70, 81, 82, 83, 84, 85, 86, 74, 78, 79, 80, 76, 77, 1100031] g5) [68, 69, 70, 81, 82, 83, 84, 85, 86, 71, 74, 75, 1127, 78, 79, 80, 72, 76, 77, 1143, 1144, 5, 1011, 1150, 1149, 1145, 1113, 1111, 1112, 91, 1147, 1100031] g29) ok30 k2 (⟨by decide, by decide⟩ : sv_R (8 : Int)) o128) (fun v S1 hq => ?_)
              obtain ⟨rfl, ok131, md132, hpo133⟩ := hq
              obtain ⟨g130, rfl⟩ : ∃ g, S1 = sv_sts (sv_sts (sv_sts S [68, 69, 70, 81, 82, 83, 84, 85, 86, 74, 78, 79, 80, 76, 77, 1100031] g5) [68, 69, 70, 81, 82, 83, 84, 85, 86, 71, 74, 75, 1127, 78, 79, 80, 72, 76, 77, 1143, 1144, 5, 1011, 1150, 1149, 1145, 1113, 1111, 1112, 91, 1147, 1100031] g29) [68, 69, 70, 81, 82, 83, 84, 85, 86, 71, 74, 75, 1127, 78, 79, 80, 72, 76, 77, 1143, 1144, 5, 1011, 1150, 1149, 1145, 1113, 1111, 1112, 1100031] g := ⟨_, md132.eq⟩
              show sv_T sm_XS sm_cs sm_L sm_sh ((10 + (if p1 = -1 then 0 else if p2 = -1 then 1 else p4 + 2))).toNat (q_callWays p1 p2 p3 p4 p5 S) 281 176 [(0, .ref 0), (1, sv_I p1), (2, sv_I p2), (3, sv_I p3), (4, sv_I p4), (5, sv_I p5), (6, sv_I r16), (7, sv_L (g5 69 r16)), (9, sv_L (g5 70 r16)), (11, sv_I l11_22), (12, sv_I l12_23), (13, sv_I l13_24)] [] (sv_sts (sv_sts (sv_sts S [68, 69, 70, 81, 82, 83, 84, 85, 86, 74, 78, 79, 80, 76, 77, 1100031] g5) [68, 69, 70, 81, 82, 83, 84, 85, 86, 71, 74, 75, 1127, 78, 79, 80, 72, 76, 77, 1143, 1144, 5, 1011, 1150, 1149, 1145, 1113, 1111, 1112, 91, 1147, 1100031] g29) [68, 69, 70, 81, 82, 83, 84, 85, 86, 71, 74, 75, 1127, 78, 79, 80, 72, 76, 77, 1143, 1144, 5, 1011, 1150, 1149, 1145, 1113, 1111, 1112, 1100031] g130)
              have md134 : sv_mod [68, 69, 70, 81, 82, 83, 84, 85, 86, 71, 74, 75, 1127, 78, 79, 80, 72, 76, 77, 1143, 1144, 5, 1011, 1150, 1149, 1145, 1113, 1111, 1112, 91, 1147, 1100031] S (sv_sts (sv_sts (sv_sts S [68, 69, 70, 81, 82, 83, 84, 85, 86, 74, 78, 79, 80, 76, 77, 1100031] g5) [68, 69, 70, 81, 82, 83, 84, 85, 86, 71, 74, 75, 1127, 78, 79, 80, 72, 76, 77, 1143, 1144, 5, 1011, 1150, 1149, 1145, 1113, 1111, 1112, 91, 1147, 1100031] g29) [68, 69, 70, 81, 82, 83, 84, 85, 86, 71, 74, 75, 1127, 78, 79, 80, 72, 76, 77, 1143, 1144, 5, 1011, 1150, 1149, 1145, 1113, 1111, 1112, 1100031] g130) := sv_mod.sts md32 (by decide)
              have md135 : sv_mod [68, 69, 70, 81, 82, 83, 84, 85, 86, 71, 74, 75, 1127, 78, 79, 80, 72, 76, 77, 1143, 1144, 5, 1011, 1150, 1149, 1145, 1113, 1111, 1112, 91, 1147, 1100031] (sv_sts (sv_sts S [68, 69, 70, 81, 82, 83, 84, 85, 86, 74, 78, 79, 80, 76, 77, 1100031] g5) [68, 69, 70, 81, 82, 83, 84, 85, 86, 71, 74, 75, 1127, 78, 79, 80, 72, 76, 77, 1143, 1144, 5, 1011, 1150, 1149, 1145, 1113, 1111, 1112, 91, 1147, 1100031] g29) (sv_sts (sv_sts (sv_sts S [68, 69, 70, 81, 82, 83, 84, 85, 86, 74, 78, 79, 80, 76, 77, 1100031] g5) [68, 69, 70, 81, 82, 83, 84, 85, 86, 71, 74, 75, 1127, 78, 79, 80, 72, 76, 77, 1143, 1144, 5, 1011, 1150, 1149, 1145, 1113, 1111, 1112, 91, 1147, 1100031] g29) [68, 69, 70, 81, 82, 83, 84, 85, 86, 71, 74, 75, 1127, 78, 79, 80, 72, 76, 77, 1143, 1144, 5, 1011, 1150, 1149, 1145, 1113, 1111, 1112, 1100031] g130) := sv_mod.sts (sv_mod.rf (l := [68, 69, 70, 81, 82, 83, 84, 85, 86, 71, 74, 75, 1127, 78, 79, 80, 72, 76, 77, 1143, 1144, 5, 1011, 1150, 1149, 1145, 1113, 1111, 1112, 91, 1147, 1100031]) (S := (sv_sts (sv_sts S [68, 69, 70, 81, 82, 83, 84, 85, 86, 74, 78, 79, 80, 76, 77, 1100031] g5) [68, 69, 70, 81, 82, 83, 84, 85, 86, 71, 74, 75, 1127, 78, 79, 80, 72, 76, 77, 1143, 1144, 5, 1011, 1150, 1149, 1145, 1113, 1111, 1112, 91, 1147, 1100031] g29))) (by decide)
              have h := h g130 hpo133
              have eS := sv_mod.eq md135
              have hb := J127 (sv_sts (sv_sts (sv_sts S [68, 69, 70, 81, 82, 83, 84, 85, 86, 74, 78, 79, 80, 76, 77, 1100031] g5) [68, 69, 70, 81, 82, 83, 84, 85, 86, 71, 74, 75, 1127, 78, 79, 80, 72, 76, 77, 1143, 1144, 5, 1011, 1150, 1149, 1145, 1113, 1111, 1112, 91, 1147, 1100031] g29) [68, 69, 70, 81, 82, 83, 84, 85, 86, 71, 74, 75, 1127, 78, 79, 80, 72, 76, 77, 1143, 1144, 5, 1011, 1150, 1149, 1145, 1113, 1111, 1112, 1100031] g130) (by rw [← eS]; exact ok131) h
              have hb : sv_T sm_XS sm_cs sm_L sm_sh ((10 + (if p1 = -1 then 0 else if p2 = -1 then 1 else p4 + 2))).toNat (q_callWays p1 p2 p3 p4 p5 S) 281 176 [(0, .ref 0), (1, sv_I p1), (2, sv_I p2), (3, sv_I p3), (4, sv_I p4), (5, sv_I p5), (6, sv_I r16), (7, sv_L (g5 69 r16)), (9, sv_L (g5 70 r16)), (11, sv_I l11_22), (12, sv_I l12_23), (13, sv_I l13_24)] [] (sv_sts (sv_sts (sv_sts S [68, 69, 70, 81, 82, 83, 84, 85, 86, 74, 78, 79, 80, 76, 77, 1100031] g5) [68, 69, 70, 81, 82, 83, 84, 85, 86, 71, 74, 75, 1127, 78, 79, 80, 72, 76, 77, 1143, 1144, 5, 1011, 1150, 1149, 1145, 1113, 1111, 1112, 91, 1147, 1100031] g29) [68, 69, 70, 81, 82, 83, 84, 85, 86, 71, 74, 75, 1127, 78, 79, 80, 72, 76, 77, 1143, 1144, 5, 1011, 1150, 1149, 1145, 1113, 1111, 1112, 1100031] g130) := Eq.mpr (congrArg (fun Z => sv_T sm_XS sm_cs sm_L sm_sh ((10 + (if p1 = -1 then 0 else if p2 = -1 then 1 else p4 + 2))).toNat (q_callWays p1 p2 p3 p4 p5 S) 281 176 [(0, .ref 0), (1, sv_I p1), (2, sv_I p2), (3, sv_I p3), (4, sv_I p4), (5, sv_I p5), (6, sv_I r16), (7, sv_L (g5 69 r16)), (9, sv_L (g5 70 r16)), (11, sv_I l11_22), (12, sv_I l12_23), (13, sv_I l13_24)] [] Z) eS) hb
              exact sv_less (lv := [(0, .ref 0), (1, sv_I p1), (2, sv_I p2), (3, sv_I p3), (4, sv_I p4), (5, sv_I p5), (6, sv_I r16), (7, sv_L (g5 69 r16)), (9, sv_L (g5 70 r16)), (11, sv_I l11_22), (12, sv_I l12_23), (13, sv_I l13_24)]) (sv_Sub_cons rfl (sv_Sub_cons rfl (sv_Sub_cons rfl (sv_Sub_cons rfl (sv_Sub_cons rfl (sv_Sub_cons rfl (sv_Sub_cons rfl (sv_Sub_cons rfl (sv_Sub_cons rfl (sv_Sub_cons rfl (sv_Sub_cons rfl (sv_Sub_cons rfl sv_Sub_nil)))))))))))) hb
          have h := h.2
          refine sv_iload hM dX12_callWays_146 rfl rfl ?_
          refine sv_cond_eq hM dX12_callWays_148 hl11_22 (t := 161) rfl rfl (fun hc => ?_) (fun hc => ?_)
          · have h := h.1 (hc)
            have eS := sv_mod.eq (sv_mod.rf (l := [68, 69, 70, 81, 82, 83, 84, 85, 86, 71, 74, 75, 1127, 78, 79, 80, 72, 76, 77, 1143, 1144, 5, 1011, 1150, 1149, 1145, 1113, 1111, 1112, 91, 1147, 1100031]) (S := (sv_sts S [68, 69, 70, 81, 82, 83, 84, 85, 86, 74, 78, 79, 80, 76, 77, 1100031] g5)))
            have hb := J136 (sv_sts S [68, 69, 70, 81, 82, 83, 84, 85, 86, 74, 78, 79, 80, 76, 77, 1100031] g5) (by rw [← eS]; exact ok27) h
            have hb : sv_T sm_XS sm_cs sm_L sm_sh ((10 + (if p1 = -1 then 0 else if p2 = -1 then 1 else p4 + 2))).toNat (q_callWays p1 p2 p3 p4 p5 S) 281 161 [(0, .ref 0), (1, sv_I p1), (2, sv_I p2), (3, sv_I p3), (4, sv_I p4), (5, sv_I p5), (6, sv_I r16), (7, sv_L (g5 69 r16)), (9, sv_L (g5 70 r16)), (11, sv_I l11_22), (12, sv_I l12_23), (13, sv_I l13_24)] [] (sv_sts S [68, 69, 70, 81, 82, 83, 84, 85, 86, 74, 78, 79, 80, 76, 77, 1100031] g5) := Eq.mpr (congrArg (fun Z => sv_T sm_XS sm_cs sm_L sm_sh ((10 + (if p1 = -1 then 0 else if p2 = -1 then 1 else p4 + 2))).toNat (q_callWays p1 p2 p3 p4 p5 S) 281 161 [(0, .ref 0), (1, sv_I p1), (2, sv_I p2), (3, sv_I p3), (4, sv_I p4), (5, sv_I p5), (6, sv_I r16), (7, sv_L (g5 69 r16)), (9, sv_L (g5 70 r16)), (11, sv_I l11_22), (12, sv_I l12_23), (13, sv_I l13_24)] [] Z) eS) hb
            exact sv_less (lv := [(0, .ref 0), (1, sv_I p1), (2, sv_I p2), (3, sv_I p3), (4, sv_I p4), (5, sv_I p5), (6, sv_I r16), (7, sv_L (g5 69 r16)), (9, sv_L (g5 70 r16)), (11, sv_I l11_22), (12, sv_I l12_23), (13, sv_I l13_24)]) (sv_Sub_cons rfl (sv_Sub_cons rfl (sv_Sub_cons rfl (sv_Sub_cons rfl (sv_Sub_cons rfl (sv_Sub_cons rfl (sv_Sub_cons rfl (sv_Sub_cons rfl (sv_Sub_cons rfl (sv_Sub_cons rfl (sv_Sub_cons rfl (sv_Sub_cons rfl sv_Sub_nil)))))))))))) hb
          · have h := h.2 (hc)
            refine sv_aload_n hM dX12_callWays_151 rfl rfl ?_
            refine sv_aload_n hM dX12_callWays_152 rfl rfl ?_
            refine sv_getI hM dX12_callWays_153 sm_fl_1188 (sm_a0 _) sm_k148 rfl (x := (S 1148 0)) rfl ?_
            refine sv_bipush (d := (6 : Int)) hM dX12_callWays_156 rfl rfl ?_
            obtain ⟨o137, h⟩ := h
            obtain ⟨o138, h⟩ := h
            refine sv_callV hM dX12_callWays_158 sm_iv_1292 (by decide) (sm_a0 _) rfl rfl (Nat.le_of_ble_eq_true rfl) sm_h263 (Nat.le_of_ble_eq_true rfl) (Nat.le_of_ble_eq_true rfl) (F' := 8) (sv_Fn (n := 8) o138) rfl (t_error_ (S 1148 0) (6 : Int) (sv_sts S [68, 69, 70, 81, 82, 83, 84, 85, 86, 74, 78, 79, 80, 76, 77, 1100031] g5) ok27 k2 (⟨by decide, by decide⟩ : sv_R (6 : Int)) o137) (fun v S1 hq => ?_)
            obtain ⟨rfl, ok140, md141, hpo142⟩ := hq
            obtain ⟨g139, rfl⟩ : ∃ g, S1 = sv_sts (sv_sts S [68, 69, 70, 81, 82, 83, 84, 85, 86, 74, 78, 79, 80, 76, 77, 1100031] g5) [68, 69, 70, 81, 82, 83, 84, 85, 86, 71, 74, 75, 1127, 78, 79, 80, 72, 76, 77, 1143, 1144, 5, 1011, 1150, 1149, 1145, 1113, 1111, 1112, 1100031] g := ⟨_, md141.eq⟩
            show sv_T sm_XS sm_cs sm_L sm_sh ((10 + (if p1 = -1 then 0 else if p2 = -1 then 1 else p4 + 2))).toNat (q_callWays p1 p2 p3 p4 p5 S) 281 161 [(0, .ref 0), (1, sv_I p1), (2, sv_I p2), (3, sv_I p3), (4, sv_I p4), (5, sv_I p5), (6, sv_I r16), (7, sv_L (g5 69 r16)), (9, sv_L (g5 70 r16)), (11, sv_I l11_22), (12, sv_I l12_23), (13, sv_I l13_24)] [] (sv_sts (sv_sts S [68, 69, 70, 81, 82, 83, 84, 85, 86, 74, 78, 79, 80, 76, 77, 1100031] g5) [68, 69, 70, 81, 82, 83, 84, 85, 86, 71, 74, 75, 1127, 78, 79, 80, 72, 76, 77, 1143, 1144, 5, 1011, 1150, 1149, 1145, 1113, 1111, 1112, 1100031] g139)
            have md143 : sv_mod [68, 69, 70, 81, 82, 83, 84, 85, 86, 71, 74, 75, 1127, 78, 79, 80, 72, 76, 77, 1143, 1144, 5, 1011, 1150, 1149, 1145, 1113, 1111, 1112, 91, 1147, 1100031] S (sv_sts (sv_sts S [68, 69, 70, 81, 82, 83, 84, 85, 86, 74, 78, 79, 80, 76, 77, 1100031] g5) [68, 69, 70, 81, 82, 83, 84, 85, 86, 71, 74, 75, 1127, 78, 79, 80, 72, 76, 77, 1143, 1144, 5, 1011, 1150, 1149, 1145, 1113, 1111, 1112, 1100031] g139) := sv_mod.sts md9 (by decide)
            have md144 : sv_mod [68, 69, 70, 81, 82, 83, 84, 85, 86, 71, 74, 75, 1127, 78, 79, 80, 72, 76, 77, 1143, 1144, 5, 1011, 1150, 1149, 1145, 1113, 1111, 1112, 91, 1147, 1100031] (sv_sts S [68, 69, 70, 81, 82, 83, 84, 85, 86, 74, 78, 79, 80, 76, 77, 1100031] g5) (sv_sts (sv_sts S [68, 69, 70, 81, 82, 83, 84, 85, 86, 74, 78, 79, 80, 76, 77, 1100031] g5) [68, 69, 70, 81, 82, 83, 84, 85, 86, 71, 74, 75, 1127, 78, 79, 80, 72, 76, 77, 1143, 1144, 5, 1011, 1150, 1149, 1145, 1113, 1111, 1112, 1100031] g139) := sv_mod.sts (sv_mod.rf (l := [68, 69, 70, 81, 82, 83, 84, 85, 86, 71, 74, 75, 1127, 78, 79, 80, 72, 76, 77, 1143, 1144, 5, 1011, 1150, 1149, 1145, 1113, 1111, 1112, 91, 1147, 1100031]) (S := (sv_sts S [68, 69, 70, 81, 82, 83, 84, 85, 86, 74, 78, 79, 80, 76, 77, 1100031] g5))) (by decide)
            have h := h g139 hpo142
            have eS := sv_mod.eq md144
            have hb := J136 (sv_sts (sv_sts S [68, 69, 70, 81, 82, 83, 84, 85, 86, 74, 78, 79, 80, 76, 77, 1100031] g5) [68, 69, 70, 81, 82, 83, 84, 85, 86, 71, 74, 75, 1127, 78, 79, 80, 72, 76, 77, 1143, 1144, 5, 1011, 1150, 1149, 1145, 1113, 1111, 1112, 1100031] g139) (by rw [← eS]; exact ok140) h
            have hb : sv_T sm_XS sm_cs sm_L sm_sh ((10 + (if p1 = -1 then 0 else if p2 = -1 then 1 else p4 + 2))).toNat (q_callWays p1 p2 p3 p4 p5 S) 281 161 [(0, .ref 0), (1, sv_I p1), (2, sv_I p2), (3, sv_I p3), (4, sv_I p4), (5, sv_I p5), (6, sv_I r16), (7, sv_L (g5 69 r16)), (9, sv_L (g5 70 r16)), (11, sv_I l11_22), (12, sv_I l12_23), (13, sv_I l13_24)] [] (sv_sts (sv_sts S [68, 69, 70, 81, 82, 83, 84, 85, 86, 74, 78, 79, 80, 76, 77, 1100031] g5) [68, 69, 70, 81, 82, 83, 84, 85, 86, 71, 74, 75, 1127, 78, 79, 80, 72, 76, 77, 1143, 1144, 5, 1011, 1150, 1149, 1145, 1113, 1111, 1112, 1100031] g139) := Eq.mpr (congrArg (fun Z => sv_T sm_XS sm_cs sm_L sm_sh ((10 + (if p1 = -1 then 0 else if p2 = -1 then 1 else p4 + 2))).toNat (q_callWays p1 p2 p3 p4 p5 S) 281 161 [(0, .ref 0), (1, sv_I p1), (2, sv_I p2), (3, sv_I p3), (4, sv_I p4), (5, sv_I p5), (6, sv_I r16), (7, sv_L (g5 69 r16)), (9, sv_L (g5 70 r16)), (11, sv_I l11_22), (12, sv_I l12_23), (13, sv_I l13_24)] [] Z) eS) hb
            exact sv_less (lv := [(0, .ref 0), (1, sv_I p1), (2, sv_I p2), (3, sv_I p3), (4, sv_I p4), (5, sv_I p5), (6, sv_I r16), (7, sv_L (g5 69 r16)), (9, sv_L (g5 70 r16)), (11, sv_I l11_22), (12, sv_I l12_23), (13, sv_I l13_24)]) (sv_Sub_cons rfl (sv_Sub_cons rfl (sv_Sub_cons rfl (sv_Sub_cons rfl (sv_Sub_cons rfl (sv_Sub_cons rfl (sv_Sub_cons rfl (sv_Sub_cons rfl (sv_Sub_cons rfl (sv_Sub_cons rfl (sv_Sub_cons rfl (sv_Sub_cons rfl sv_Sub_nil)))))))))))) hb
        · have h := h.2 (hc)
          refine sv_lload hM dX12_callWays_83 rfl rfl ?_
          refine sv_lload hM dX12_callWays_85 rfl rfl ?_
          refine sv_iload hM dX12_callWays_87 rfl rfl ?_
          obtain ⟨o145, h⟩ := h
          refine sv_callS hM dX12_callWays_89 sm_iv_1125 (Nat.le_of_ble_eq_true rfl) rfl rfl (Nat.le_of_ble_eq_true rfl) sm_h217 (Nat.le_of_ble_eq_true rfl) (Nat.le_of_ble_eq_true rfl) (F' := 0) (sv_Fn (n := 0) o11) rfl (t_isIn (g5 69 r16) (g5 70 r16) l13_24 (sv_sts S [68, 69, 70, 81, 82, 83, 84, 85, 86, 74, 78, 79, 80, 76, 77, 1100031] g5) ok27 k18 k19 hl13_24 o145) (fun v S1 hq => ?_)
          obtain ⟨r150, rfl, hr150, ok147, md148, hpo149⟩ := hq
          obtain rfl : (sv_sts S [68, 69, 70, 81, 82, 83, 84, 85, 86, 74, 78, 79, 80, 76, 77, 1100031] g5) = S1 := (funext fun j => md148 j (by intro q; cases q)).symm
          show sv_T sm_XS sm_cs sm_L sm_sh ((10 + (if p1 = -1 then 0 else if p2 = -1 then 1 else p4 + 2))).toNat (q_callWays p1 p2 p3 p4 p5 S) 281 92 [(0, .ref 0), (1, sv_I p1), (2, sv_I p2), (3, sv_I p3), (4, sv_I p4), (5, sv_I p5), (6, sv_I r16), (7, sv_L (g5 69 r16)), (9, sv_L (g5 70 r16)), (11, sv_I l11_22), (12, sv_I l12_23), (13, sv_I l13_24)] [sv_I r150] (sv_sts S [68, 69, 70, 81, 82, 83, 84, 85, 86, 74, 78, 79, 80, 76, 77, 1100031] g5)
          have h := h r150 hr150 hpo149
          refine sv_cond_ne hM dX12_callWays_92 hr150 (t := 98) rfl rfl (fun hc => ?_) (fun hc => ?_)
          · have h := h.1 (hc)
            have J164 : ∀ s151 : Int, sv_R s151 → (s151 = 0 ∨ s151 = 1) → sv_T sm_XS sm_cs sm_L sm_sh ((10 + (if p1 = -1 then 0 else if p2 = -1 then 1 else p4 + 2))).toNat (q_callWays p1 p2 p3 p4 p5 S) 281 117 [(0, .ref 0), (1, sv_I p1), (2, sv_I p2), (3, sv_I p3), (4, sv_I p4), (5, sv_I p5), (6, sv_I r16), (7, sv_L (g5 69 r16)), (9, sv_L (g5 70 r16)), (11, sv_I l11_22), (12, sv_I l12_23), (13, sv_I l13_24)] [sv_I s151] (sv_sts S [68, 69, 70, 81, 82, 83, 84, 85, 86, 74, 78, 79, 80, 76, 77, 1100031] g5) := by
              intro s151 hs151 hin152
              have h := h.1 s151 hs151 hin152
              refine sv_istore hM dX12_callWays_117 (by decide) rfl ?_
              show sv_T sm_XS sm_cs sm_L sm_sh ((10 + (if p1 = -1 then 0 else if p2 = -1 then 1 else p4 + 2))).toNat (q_callWays p1 p2 p3 p4 p5 S) 281 119 [(0, .ref 0), (1, sv_I p1), (2, sv_I p2), (3, sv_I p3), (4, sv_I p4), (5, sv_I p5), (6, sv_I r16), (7, sv_L (g5 69 r16)), (9, sv_L (g5 70 r16)), (11, sv_I s151), (12, sv_I l12_23), (13, sv_I l13_24)] [] (sv_sts S [68, 69, 70, 81, 82, 83, 84, 85, 86, 74, 78, 79, 80, 76, 77, 1100031] g5)
              have J156 : ∀ s153 : Int, sv_R s153 → (s153 = 0 ∨ s153 = 1) → sv_T sm_XS sm_cs sm_L sm_sh ((10 + (if p1 = -1 then 0 else if p2 = -1 then 1 else p4 + 2))).toNat (q_callWays p1 p2 p3 p4 p5 S) 281 138 [(0, .ref 0), (1, sv_I p1), (2, sv_I p2), (3, sv_I p3), (4, sv_I p4), (5, sv_I p5), (6, sv_I r16), (7, sv_L (g5 69 r16)), (9, sv_L (g5 70 r16)), (11, sv_I s151), (12, sv_I l12_23), (13, sv_I l13_24)] [sv_I s153] (sv_sts S [68, 69, 70, 81, 82, 83, 84, 85, 86, 74, 78, 79, 80, 76, 77, 1100031] g5) := by
                intro s153 hs153 hin154
                have h := h.1 s153 hs153 hin154
                refine sv_istore hM dX12_callWays_138 (by decide) rfl ?_
                show sv_T sm_XS sm_cs sm_L sm_sh ((10 + (if p1 = -1 then 0 else if p2 = -1 then 1 else p4 + 2))).toNat (q_callWays p1 p2 p3 p4 p5 S) 281 140 [(0, .ref 0), (1, sv_I p1), (2, sv_I p2), (3, sv_I p3), (4, sv_I p4), (5, sv_I p5), (6, sv_I r16), (7, sv_L (g5 69 r16)), (9, sv_L (g5 70 r16)), (11, sv_I s151), (12, sv_I s153), (13, sv_I l13_24)] [] (sv_sts S [68, 69, 70, 81, 82, 83, 84, 85, 86, 74, 78, 79, 80, 76, 77, 1100031] g5)
                refine sv_iinc (d := (1 : Int)) hM dX12_callWays_140 rfl (by decide) rfl rfl ?_
                show sv_T sm_XS sm_cs sm_L sm_sh ((10 + (if p1 = -1 then 0 else if p2 = -1 then 1 else p4 + 2))).toNat (q_callWays p1 p2 p3 p4 p5 S) 281 143 [(0, .ref 0), (1, sv_I p1), (2, sv_I p2), (3, sv_I p3), (4, sv_I p4), (5, sv_I p5), (6, sv_I r16), (7, sv_L (g5 69 r16)), (9, sv_L (g5 70 r16)), (11, sv_I s151), (12, sv_I s153), (13, sv_I (l13_24 + (1 : Int)))] [] (sv_sts S [68, 69, 70, 81, 82, 83, 84, 85, 86, 74, 78, 79, 80, 76, 77, 1100031] g5)
                refine sv_goto hM dX12_callWays_143 (pc' := 74) rfl ?_
                obtain ⟨o155, h⟩ := h
                have hb := ih25 (s151, s153, (l13_24 + (1 : Int)), ()) ⟨hs151, hs153, o155, ok147, h.1⟩ h.2
                exact sv_less (lv := [(0, .ref 0), (1, sv_I p1), (2, sv_I p2), (3, sv_I p3), (4, sv_I p4), (5, sv_I p5), (6, sv_I r16), (7, sv_L (g5 69 r16)), (9, sv_L (g5 70 r16)), (11, sv_I s151), (12, sv_I s153), (13, sv_I (l13_24 + (1 : Int)))]) (sv_Sub_cons rfl (sv_Sub_cons rfl (sv_Sub_cons rfl (sv_Sub_cons rfl (sv_Sub_cons rfl (sv_Sub_cons rfl (sv_Sub_cons rfl (sv_Sub_cons rfl (sv_Sub_cons rfl (sv_Sub_cons rfl (sv_Sub_cons rfl (sv_Sub_cons rfl sv_Sub_nil)))))))))))) hb
              have h := h.2
              refine sv_iload hM dX12_callWays_119 rfl rfl ?_
              refine sv_cond_ne hM dX12_callWays_121 hl12_23 (t := 133) rfl rfl (fun hc => ?_) (fun hc => ?_)
              · have h := h.1 (hc)
                refine sv_iconst (d := (1 : Int)) hM dX12_callWays_133 rfl rfl ?_
                refine sv_goto hM dX12_callWays_134 (pc' := 138) rfl ?_
                have hb := J156 (1 : Int) (⟨by decide, by decide⟩ : sv_R (1 : Int)) h
                exact sv_less (lv := [(0, .ref 0), (1, sv_I p1), (2, sv_I p2), (3, sv_I p3), (4, sv_I p4), (5, sv_I p5), (6, sv_I r16), (7, sv_L (g5 69 r16)), (9, sv_L (g5 70 r16)), (11, sv_I s151), (12, sv_I l12_23), (13, sv_I l13_24)]) (sv_Sub_cons rfl (sv_Sub_cons rfl (sv_Sub_cons rfl (sv_Sub_cons rfl (sv_Sub_cons rfl (sv_Sub_cons rfl (sv_Sub_cons rfl (sv_Sub_cons rfl (sv_Sub_cons rfl (sv_Sub_cons rfl (sv_Sub_cons rfl (sv_Sub_cons rfl sv_Sub_nil)))))))))))) hb
              · have h := h.2 (hc)
                refine sv_aload_n hM dX12_callWays_124 rfl rfl ?_
                refine sv_iload hM dX12_callWays_125 rfl rfl ?_
                obtain ⟨o157, h⟩ := h
                obtain ⟨o158, h⟩ := h
                refine sv_callV hM dX12_callWays_127 sm_iv_1326 (by decide) (sm_a0 _) rfl rfl (Nat.le_of_ble_eq_true rfl) sm_h238 (Nat.le_of_ble_eq_true rfl) (Nat.le_of_ble_eq_true rfl) (F' := 1) (sv_Fn (n := 1) o158) rfl (t_codeOfLabel l13_24 (sv_sts S [68, 69, 70, 81, 82, 83, 84, 85, 86, 74, 78, 79, 80, 76, 77, 1100031] g5) ok147 hl13_24 o157) (fun v S1 hq => ?_)
                obtain ⟨r163, rfl, hr163, ok160, md161, hpo162⟩ := hq
                obtain rfl : (sv_sts S [68, 69, 70, 81, 82, 83, 84, 85, 86, 74, 78, 79, 80, 76, 77, 1100031] g5) = S1 := (funext fun j => md161 j (by intro q; cases q)).symm
                show sv_T sm_XS sm_cs sm_L sm_sh ((10 + (if p1 = -1 then 0 else if p2 = -1 then 1 else p4 + 2))).toNat (q_callWays p1 p2 p3 p4 p5 S) 281 130 [(0, .ref 0), (1, sv_I p1), (2, sv_I p2), (3, sv_I p3), (4, sv_I p4), (5, sv_I p5), (6, sv_I r16), (7, sv_L (g5 69 r16)), (9, sv_L (g5 70 r16)), (11, sv_I s151), (12, sv_I l12_23), (13, sv_I l13_24)] [sv_I r163] (sv_sts S [68, 69, 70, 81, 82, 83, 84, 85, 86, 74, 78, 79, 80, 76, 77, 1100031] g5)
                have h := h r163 hr163 hpo162
                refine sv_cond_le hM dX12_callWays_130 hr163 (t := 137) rfl rfl (fun hc => ?_) (fun hc => ?_)
                · have h := h.1 (hc)
                  refine sv_iconst (d := (0 : Int)) hM dX12_callWays_137 rfl rfl ?_
                  have hb := J156 (0 : Int) (⟨by decide, by decide⟩ : sv_R (0 : Int)) h
                  exact sv_less (lv := [(0, .ref 0), (1, sv_I p1), (2, sv_I p2), (3, sv_I p3), (4, sv_I p4), (5, sv_I p5), (6, sv_I r16), (7, sv_L (g5 69 r16)), (9, sv_L (g5 70 r16)), (11, sv_I s151), (12, sv_I l12_23), (13, sv_I l13_24)]) (sv_Sub_cons rfl (sv_Sub_cons rfl (sv_Sub_cons rfl (sv_Sub_cons rfl (sv_Sub_cons rfl (sv_Sub_cons rfl (sv_Sub_cons rfl (sv_Sub_cons rfl (sv_Sub_cons rfl (sv_Sub_cons rfl (sv_Sub_cons rfl (sv_Sub_cons rfl sv_Sub_nil)))))))))))) hb
                · have h := h.2 (hc)
                  refine sv_iconst (d := (1 : Int)) hM dX12_callWays_133 rfl rfl ?_
                  refine sv_goto hM dX12_callWays_134 (pc' := 138) rfl ?_
                  have hb := J156 (1 : Int) (⟨by decide, by decide⟩ : sv_R (1 : Int)) h
                  exact sv_less (lv := [(0, .ref 0), (1, sv_I p1), (2, sv_I p2), (3, sv_I p3), (4, sv_I p4), (5, sv_I p5), (6, sv_I r16), (7, sv_L (g5 69 r16)), (9, sv_L (g5 70 r16)), (11, sv_I s151), (12, sv_I l12_23), (13, sv_I l13_24)]) (sv_Sub_cons rfl (sv_Sub_cons rfl (sv_Sub_cons rfl (sv_Sub_cons rfl (sv_Sub_cons rfl (sv_Sub_cons rfl (sv_Sub_cons rfl (sv_Sub_cons rfl (sv_Sub_cons rfl (sv_Sub_cons rfl (sv_Sub_cons rfl (sv_Sub_cons rfl sv_Sub_nil)))))))))))) hb
            have h := h.2
            refine sv_iload hM dX12_callWays_98 rfl rfl ?_
            refine sv_cond_ne hM dX12_callWays_100 hl11_22 (t := 112) rfl rfl (fun hc => ?_) (fun hc => ?_)
            · have h := h.1 (hc)
              refine sv_iconst (d := (1 : Int)) hM dX12_callWays_112 rfl rfl ?_
              refine sv_goto hM dX12_callWays_113 (pc' := 117) rfl ?_
              have hb := J164 (1 : Int) (⟨by decide, by decide⟩ : sv_R (1 : Int)) h
              exact sv_less (lv := [(0, .ref 0), (1, sv_I p1), (2, sv_I p2), (3, sv_I p3), (4, sv_I p4), (5, sv_I p5), (6, sv_I r16), (7, sv_L (g5 69 r16)), (9, sv_L (g5 70 r16)), (11, sv_I l11_22), (12, sv_I l12_23), (13, sv_I l13_24)]) (sv_Sub_cons rfl (sv_Sub_cons rfl (sv_Sub_cons rfl (sv_Sub_cons rfl (sv_Sub_cons rfl (sv_Sub_cons rfl (sv_Sub_cons rfl (sv_Sub_cons rfl (sv_Sub_cons rfl (sv_Sub_cons rfl (sv_Sub_cons rfl (sv_Sub_cons rfl sv_Sub_nil)))))))))))) hb
            · have h := h.2 (hc)
              refine sv_aload_n hM dX12_callWays_103 rfl rfl ?_
              refine sv_iload hM dX12_callWays_104 rfl rfl ?_
              obtain ⟨o165, h⟩ := h
              refine sv_callV hM dX12_callWays_106 sm_iv_1115 (by decide) (sm_a0 _) rfl rfl (Nat.le_of_ble_eq_true rfl) sm_h237 (Nat.le_of_ble_eq_true rfl) (Nat.le_of_ble_eq_true rfl) (F' := 0) (sv_Fn (n := 0) o11) rfl (t_isFunctionLabel l13_24 (sv_sts S [68, 69, 70, 81, 82, 83, 84, 85, 86, 74, 78, 79, 80, 76, 77, 1100031] g5) ok147 hl13_24 o165) (fun v S1 hq => ?_)
              obtain ⟨r170, rfl, hr170, ok167, md168, hpo169⟩ := hq
              obtain rfl : (sv_sts S [68, 69, 70, 81, 82, 83, 84, 85, 86, 74, 78, 79, 80, 76, 77, 1100031] g5) = S1 := (funext fun j => md168 j (by intro q; cases q)).symm
              show sv_T sm_XS sm_cs sm_L sm_sh ((10 + (if p1 = -1 then 0 else if p2 = -1 then 1 else p4 + 2))).toNat (q_callWays p1 p2 p3 p4 p5 S) 281 109 [(0, .ref 0), (1, sv_I p1), (2, sv_I p2), (3, sv_I p3), (4, sv_I p4), (5, sv_I p5), (6, sv_I r16), (7, sv_L (g5 69 r16)), (9, sv_L (g5 70 r16)), (11, sv_I l11_22), (12, sv_I l12_23), (13, sv_I l13_24)] [sv_I r170] (sv_sts S [68, 69, 70, 81, 82, 83, 84, 85, 86, 74, 78, 79, 80, 76, 77, 1100031] g5)
              have h := h r170 hr170 hpo169
              refine sv_cond_ne hM dX12_callWays_109 hr170 (t := 116) rfl rfl (fun hc => ?_) (fun hc => ?_)
              · have h := h.1 (hc)
                refine sv_iconst (d := (0 : Int)) hM dX12_callWays_116 rfl rfl ?_
                have hb := J164 (0 : Int) (⟨by decide, by decide⟩ : sv_R (0 : Int)) h
                exact sv_less (lv := [(0, .ref 0), (1, sv_I p1), (2, sv_I p2), (3, sv_I p3), (4, sv_I p4), (5, sv_I p5), (6, sv_I r16), (7, sv_L (g5 69 r16)), (9, sv_L (g5 70 r16)), (11, sv_I l11_22), (12, sv_I l12_23), (13, sv_I l13_24)]) (sv_Sub_cons rfl (sv_Sub_cons rfl (sv_Sub_cons rfl (sv_Sub_cons rfl (sv_Sub_cons rfl (sv_Sub_cons rfl (sv_Sub_cons rfl (sv_Sub_cons rfl (sv_Sub_cons rfl (sv_Sub_cons rfl (sv_Sub_cons rfl (sv_Sub_cons rfl sv_Sub_nil)))))))))))) hb
              · have h := h.2 (hc)
                refine sv_iconst (d := (1 : Int)) hM dX12_callWays_112 rfl rfl ?_
                refine sv_goto hM dX12_callWays_113 (pc' := 117) rfl ?_
                have hb := J164 (1 : Int) (⟨by decide, by decide⟩ : sv_R (1 : Int)) h
                exact sv_less (lv := [(0, .ref 0), (1, sv_I p1), (2, sv_I p2), (3, sv_I p3), (4, sv_I p4), (5, sv_I p5), (6, sv_I r16), (7, sv_L (g5 69 r16)), (9, sv_L (g5 70 r16)), (11, sv_I l11_22), (12, sv_I l12_23), (13, sv_I l13_24)]) (sv_Sub_cons rfl (sv_Sub_cons rfl (sv_Sub_cons rfl (sv_Sub_cons rfl (sv_Sub_cons rfl (sv_Sub_cons rfl (sv_Sub_cons rfl (sv_Sub_cons rfl (sv_Sub_cons rfl (sv_Sub_cons rfl (sv_Sub_cons rfl (sv_Sub_cons rfl sv_Sub_nil)))))))))))) hb
          · have h := h.2 (hc)
            refine sv_goto hM dX12_callWays_95 (pc' := 140) rfl ?_
            refine sv_iinc (d := (1 : Int)) hM dX12_callWays_140 rfl (by decide) rfl rfl ?_
            show sv_T sm_XS sm_cs sm_L sm_sh ((10 + (if p1 = -1 then 0 else if p2 = -1 then 1 else p4 + 2))).toNat (q_callWays p1 p2 p3 p4 p5 S) 281 143 [(0, .ref 0), (1, sv_I p1), (2, sv_I p2), (3, sv_I p3), (4, sv_I p4), (5, sv_I p5), (6, sv_I r16), (7, sv_L (g5 69 r16)), (9, sv_L (g5 70 r16)), (11, sv_I l11_22), (12, sv_I l12_23), (13, sv_I (l13_24 + (1 : Int)))] [] (sv_sts S [68, 69, 70, 81, 82, 83, 84, 85, 86, 74, 78, 79, 80, 76, 77, 1100031] g5)
            refine sv_goto hM dX12_callWays_143 (pc' := 74) rfl ?_
            obtain ⟨o171, h⟩ := h
            have hb := ih25 (l11_22, l12_23, (l13_24 + (1 : Int)), ()) ⟨hl11_22, hl12_23, o171, ok147, h.1⟩ h.2
            exact sv_less (lv := [(0, .ref 0), (1, sv_I p1), (2, sv_I p2), (3, sv_I p3), (4, sv_I p4), (5, sv_I p5), (6, sv_I r16), (7, sv_L (g5 69 r16)), (9, sv_L (g5 70 r16)), (11, sv_I l11_22), (12, sv_I l12_23), (13, sv_I (l13_24 + (1 : Int)))]) (sv_Sub_cons rfl (sv_Sub_cons rfl (sv_Sub_cons rfl (sv_Sub_cons rfl (sv_Sub_cons rfl (sv_Sub_cons rfl (sv_Sub_cons rfl (sv_Sub_cons rfl (sv_Sub_cons rfl (sv_Sub_cons rfl (sv_Sub_cons rfl (sv_Sub_cons rfl sv_Sub_nil)))))))))))) hb
      exact hJ (s20, (0 : Int), (0 : Int), ()) ⟨hs20, (⟨by decide, by decide⟩ : sv_R (0 : Int)), (⟨by decide, by decide⟩ : sv_R (0 : Int)), ok13, hin26⟩
    have h := h.2
    refine sv_aload_n hM dX12_callWays_52 rfl rfl ?_
    refine sv_iload hM dX12_callWays_53 rfl rfl ?_
    obtain ⟨o173, h⟩ := h
    refine sv_callV hM dX12_callWays_55 sm_iv_1059 (by decide) (sm_a0 _) rfl rfl (Nat.le_of_ble_eq_true rfl) sm_h210 (Nat.le_of_ble_eq_true rfl) (Nat.le_of_ble_eq_true rfl) (F' := 1) (sv_Fn (n := 1) o173) rfl (t_plainly r16 (sv_sts S [68, 69, 70, 81, 82, 83, 84, 85, 86, 74, 78, 79, 80, 76, 77, 1100031] g5) ok13 hr16 o17) (fun v S1 hq => ?_)
    obtain ⟨r178, rfl, hr178, ok175, md176, hpo177⟩ := hq
    obtain rfl : (sv_sts S [68, 69, 70, 81, 82, 83, 84, 85, 86, 74, 78, 79, 80, 76, 77, 1100031] g5) = S1 := (funext fun j => md176 j (by intro q; cases q)).symm
    show sv_T sm_XS sm_cs sm_L sm_sh ((10 + (if p1 = -1 then 0 else if p2 = -1 then 1 else p4 + 2))).toNat (q_callWays p1 p2 p3 p4 p5 S) 281 58 [(0, .ref 0), (1, sv_I p1), (2, sv_I p2), (3, sv_I p3), (4, sv_I p4), (5, sv_I p5), (6, sv_I r16), (7, sv_L (g5 69 r16)), (9, sv_L (g5 70 r16))] [sv_I r178] (sv_sts S [68, 69, 70, 81, 82, 83, 84, 85, 86, 74, 78, 79, 80, 76, 77, 1100031] g5)
    have h := h r178 hr178 hpo177
    refine sv_cond_eq hM dX12_callWays_58 hr178 (t := 65) rfl rfl (fun hc => ?_) (fun hc => ?_)
    · have h := h.1 (hc)
      refine sv_iconst (d := (0 : Int)) hM dX12_callWays_65 rfl rfl ?_
      have hb := J172 (0 : Int) (⟨by decide, by decide⟩ : sv_R (0 : Int)) h
      exact sv_less (lv := [(0, .ref 0), (1, sv_I p1), (2, sv_I p2), (3, sv_I p3), (4, sv_I p4), (5, sv_I p5), (6, sv_I r16), (7, sv_L (g5 69 r16)), (9, sv_L (g5 70 r16))]) (sv_Sub_cons rfl (sv_Sub_cons rfl (sv_Sub_cons rfl (sv_Sub_cons rfl (sv_Sub_cons rfl (sv_Sub_cons rfl (sv_Sub_cons rfl (sv_Sub_cons rfl (sv_Sub_cons rfl sv_Sub_nil))))))))) hb
    · have h := h.2 (hc)
      refine sv_iconst (d := (1 : Int)) hM dX12_callWays_61 rfl rfl ?_
      refine sv_goto hM dX12_callWays_62 (pc' := 66) rfl ?_
      have hb := J172 (1 : Int) (⟨by decide, by decide⟩ : sv_R (1 : Int)) h
      exact sv_less (lv := [(0, .ref 0), (1, sv_I p1), (2, sv_I p2), (3, sv_I p3), (4, sv_I p4), (5, sv_I p5), (6, sv_I r16), (7, sv_L (g5 69 r16)), (9, sv_L (g5 70 r16))]) (sv_Sub_cons rfl (sv_Sub_cons rfl (sv_Sub_cons rfl (sv_Sub_cons rfl (sv_Sub_cons rfl (sv_Sub_cons rfl (sv_Sub_cons rfl (sv_Sub_cons rfl (sv_Sub_cons rfl sv_Sub_nil))))))))) hb
  · have h := h.2 (hc)
    refine sv_aload_n hM dX12_callWays_5 rfl rfl ?_
    refine sv_aload_n hM dX12_callWays_6 rfl rfl ?_
    have k179 : sv_R (S 1148 0) := sm_okI hok sm_r1148 0
    have h := h k179
    refine sv_getI hM dX12_callWays_7 sm_fl_1188 (sm_a0 _) sm_k148 rfl (x := (S 1148 0)) rfl ?_
    refine sv_bipush (d := (6 : Int)) hM dX12_callWays_10 rfl rfl ?_
    obtain ⟨o180, h⟩ := h
    obtain ⟨o181, h⟩ := h
    refine sv_callV hM dX12_callWays_12 sm_iv_1292 (by decide) (sm_a0 _) rfl rfl (Nat.le_of_ble_eq_true rfl) sm_h263 (Nat.le_of_ble_eq_true rfl) (Nat.le_of_ble_eq_true rfl) (F' := 8) (sv_Fn (n := 8) o181) rfl (t_error_ (S 1148 0) (6 : Int) S hok k179 (⟨by decide, by decide⟩ : sv_R (6 : Int)) o180) (fun v S1 hq => ?_)
    obtain ⟨rfl, ok183, md184, hpo185⟩ := hq
    obtain ⟨g182, rfl⟩ : ∃ g, S1 = sv_sts S [68, 69, 70, 81, 82, 83, 84, 85, 86, 71, 74, 75, 1127, 78, 79, 80, 72, 76, 77, 1143, 1144, 5, 1011, 1150, 1149, 1145, 1113, 1111, 1112, 1100031] g := ⟨_, md184.eq⟩
    show sv_T sm_XS sm_cs sm_L sm_sh ((10 + (if p1 = -1 then 0 else if p2 = -1 then 1 else p4 + 2))).toNat (q_callWays p1 p2 p3 p4 p5 S) 281 15 [(0, .ref 0), (1, sv_I p1), (2, sv_I p2), (3, sv_I p3), (4, sv_I p4), (5, sv_I p5)] [] (sv_sts S [68, 69, 70, 81, 82, 83, 84, 85, 86, 71, 74, 75, 1127, 78, 79, 80, 72, 76, 77, 1143, 1144, 5, 1011, 1150, 1149, 1145, 1113, 1111, 1112, 1100031] g182)
    have md186 : sv_mod [68, 69, 70, 81, 82, 83, 84, 85, 86, 71, 74, 75, 1127, 78, 79, 80, 72, 76, 77, 1143, 1144, 5, 1011, 1150, 1149, 1145, 1113, 1111, 1112, 91, 1147, 1100031] S (sv_sts S [68, 69, 70, 81, 82, 83, 84, 85, 86, 71, 74, 75, 1127, 78, 79, 80, 72, 76, 77, 1143, 1144, 5, 1011, 1150, 1149, 1145, 1113, 1111, 1112, 1100031] g182) := sv_mod.sts sv_mod.rf (by decide)
    have h := h g182 hpo185
    exact sv_vret hM dX12_callWays_15 rfl ⟨rfl, ok183, md186, h⟩
