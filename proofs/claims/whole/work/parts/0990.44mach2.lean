theorem dX12_error_0 : decode cX12_error 0 = .ok (.aload_n 0, 1) := by decide +kernel
theorem dX12_error_1 : decode cX12_error 1 = .ok (.iload_n 1, 1) := by decide +kernel
theorem dX12_error_2 : decode cX12_error 2 = .ok (.iload_n 1, 1) := by decide +kernel
theorem dX12_error_3 : decode cX12_error 3 = .ok (.bipush 20, 2) := by decide +kernel
theorem dX12_error_5 : decode cX12_error 5 = .ok (.iadd, 1) := by decide +kernel
theorem dX12_error_6 : decode cX12_error 6 = .ok (.iconst 0, 1) := by decide +kernel
theorem dX12_error_7 : decode cX12_error 7 = .ok (.invokevirtual 858, 3) := by decide +kernel
theorem dX12_error_10 : decode cX12_error 10 = .ok (.istore_n 2, 1) := by decide +kernel
theorem dX12_error_11 : decode cX12_error 11 = .ok (.aload_n 0, 1) := by decide +kernel
theorem dX12_error_12 : decode cX12_error 12 = .ok (.bipush 7, 2) := by decide +kernel
theorem dX12_error_14 : decode cX12_error 14 = .ok (.iload_n 2, 1) := by decide +kernel
theorem dX12_error_15 : decode cX12_error 15 = .ok (.invokevirtual 897, 3) := by decide +kernel
theorem dX12_error_18 : decode cX12_error 18 = .ok (.return_, 1) := by decide +kernel
theorem dX12_enterFrame_0 : decode cX12_enterFrame 0 = .ok (.aload_n 0, 1) := by decide +kernel
theorem dX12_enterFrame_1 : decode cX12_enterFrame 1 = .ok (.getfield 872, 3) := by decide +kernel
theorem dX12_enterFrame_4 : decode cX12_enterFrame 4 = .ok (.istore 6, 2) := by decide +kernel
theorem dX12_enterFrame_6 : decode cX12_enterFrame 6 = .ok (.aload_n 0, 1) := by decide +kernel
theorem dX12_enterFrame_7 : decode cX12_enterFrame 7 = .ok (.dup, 1) := by decide +kernel
theorem dX12_enterFrame_8 : decode cX12_enterFrame 8 = .ok (.getfield 872, 3) := by decide +kernel
theorem dX12_enterFrame_11 : decode cX12_enterFrame 11 = .ok (.iconst 1, 1) := by decide +kernel
theorem dX12_enterFrame_12 : decode cX12_enterFrame 12 = .ok (.iadd, 1) := by decide +kernel
theorem dX12_enterFrame_13 : decode cX12_enterFrame 13 = .ok (.putfield 872, 3) := by decide +kernel
theorem dX12_enterFrame_16 : decode cX12_enterFrame 16 = .ok (.aload_n 0, 1) := by decide +kernel
theorem dX12_enterFrame_17 : decode cX12_enterFrame 17 = .ok (.getfield 170, 3) := by decide +kernel
theorem dX12_enterFrame_20 : decode cX12_enterFrame 20 = .ok (.iload 6, 2) := by decide +kernel
theorem dX12_enterFrame_22 : decode cX12_enterFrame 22 = .ok (.iload_n 1, 1) := by decide +kernel
theorem dX12_enterFrame_23 : decode cX12_enterFrame 23 = .ok (.iastore, 1) := by decide +kernel
theorem dX12_enterFrame_24 : decode cX12_enterFrame 24 = .ok (.aload_n 0, 1) := by decide +kernel
theorem dX12_enterFrame_25 : decode cX12_enterFrame 25 = .ok (.getfield 173, 3) := by decide +kernel
theorem dX12_enterFrame_28 : decode cX12_enterFrame 28 = .ok (.iload 6, 2) := by decide +kernel
theorem dX12_enterFrame_30 : decode cX12_enterFrame 30 = .ok (.iload_n 2, 1) := by decide +kernel
theorem dX12_enterFrame_31 : decode cX12_enterFrame 31 = .ok (.iastore, 1) := by decide +kernel
theorem dX12_enterFrame_32 : decode cX12_enterFrame 32 = .ok (.aload_n 0, 1) := by decide +kernel
theorem dX12_enterFrame_33 : decode cX12_enterFrame 33 = .ok (.getfield 176, 3) := by decide +kernel
theorem dX12_enterFrame_36 : decode cX12_enterFrame 36 = .ok (.iload 6, 2) := by decide +kernel
theorem dX12_enterFrame_38 : decode cX12_enterFrame 38 = .ok (.iload_n 3, 1) := by decide +kernel
theorem dX12_enterFrame_39 : decode cX12_enterFrame 39 = .ok (.iastore, 1) := by decide +kernel
theorem dX12_enterFrame_40 : decode cX12_enterFrame 40 = .ok (.aload_n 0, 1) := by decide +kernel
theorem dX12_enterFrame_41 : decode cX12_enterFrame 41 = .ok (.getfield 179, 3) := by decide +kernel
theorem dX12_enterFrame_44 : decode cX12_enterFrame 44 = .ok (.iload 6, 2) := by decide +kernel
theorem dX12_enterFrame_46 : decode cX12_enterFrame 46 = .ok (.iload 4, 2) := by decide +kernel
theorem dX12_enterFrame_48 : decode cX12_enterFrame 48 = .ok (.iastore, 1) := by decide +kernel
theorem dX12_enterFrame_49 : decode cX12_enterFrame 49 = .ok (.aload_n 0, 1) := by decide +kernel
theorem dX12_enterFrame_50 : decode cX12_enterFrame 50 = .ok (.getfield 182, 3) := by decide +kernel
theorem dX12_enterFrame_53 : decode cX12_enterFrame 53 = .ok (.iload 6, 2) := by decide +kernel
theorem dX12_enterFrame_55 : decode cX12_enterFrame 55 = .ok (.aload_n 0, 1) := by decide +kernel
theorem dX12_enterFrame_56 : decode cX12_enterFrame 56 = .ok (.getfield 101, 3) := by decide +kernel
theorem dX12_enterFrame_59 : decode cX12_enterFrame 59 = .ok (.iload_n 1, 1) := by decide +kernel
theorem dX12_enterFrame_60 : decode cX12_enterFrame 60 = .ok (.iaload, 1) := by decide +kernel
theorem dX12_enterFrame_61 : decode cX12_enterFrame 61 = .ok (.iastore, 1) := by decide +kernel
theorem dX12_enterFrame_62 : decode cX12_enterFrame 62 = .ok (.aload_n 0, 1) := by decide +kernel
theorem dX12_enterFrame_63 : decode cX12_enterFrame 63 = .ok (.getfield 185, 3) := by decide +kernel
theorem dX12_enterFrame_66 : decode cX12_enterFrame 66 = .ok (.iload 6, 2) := by decide +kernel
theorem dX12_enterFrame_68 : decode cX12_enterFrame 68 = .ok (.iconst 0, 1) := by decide +kernel
theorem dX12_enterFrame_69 : decode cX12_enterFrame 69 = .ok (.iastore, 1) := by decide +kernel
theorem dX12_enterFrame_70 : decode cX12_enterFrame 70 = .ok (.aload_n 0, 1) := by decide +kernel
theorem dX12_enterFrame_71 : decode cX12_enterFrame 71 = .ok (.getfield 188, 3) := by decide +kernel
theorem dX12_enterFrame_74 : decode cX12_enterFrame 74 = .ok (.iload 6, 2) := by decide +kernel
theorem dX12_enterFrame_76 : decode cX12_enterFrame 76 = .ok (.iload 5, 2) := by decide +kernel
theorem dX12_enterFrame_78 : decode cX12_enterFrame 78 = .ok (.iastore, 1) := by decide +kernel
theorem dX12_enterFrame_79 : decode cX12_enterFrame 79 = .ok (.aload_n 0, 1) := by decide +kernel
theorem dX12_enterFrame_80 : decode cX12_enterFrame 80 = .ok (.getfield 191, 3) := by decide +kernel
theorem dX12_enterFrame_83 : decode cX12_enterFrame 83 = .ok (.iload 6, 2) := by decide +kernel
theorem dX12_enterFrame_85 : decode cX12_enterFrame 85 = .ok (.iconst 0, 1) := by decide +kernel
theorem dX12_enterFrame_86 : decode cX12_enterFrame 86 = .ok (.iastore, 1) := by decide +kernel
theorem dX12_enterFrame_87 : decode cX12_enterFrame 87 = .ok (.return_, 1) := by decide +kernel
theorem dX12_scopeAt_0 : decode cX12_scopeAt 0 = .ok (.aload_n 0, 1) := by decide +kernel
theorem dX12_scopeAt_1 : decode cX12_scopeAt 1 = .ok (.getfield 173, 3) := by decide +kernel
theorem dX12_scopeAt_4 : decode cX12_scopeAt 4 = .ok (.aload_n 0, 1) := by decide +kernel
theorem dX12_scopeAt_5 : decode cX12_scopeAt 5 = .ok (.getfield 872, 3) := by decide +kernel
theorem dX12_scopeAt_8 : decode cX12_scopeAt 8 = .ok (.iconst 1, 1) := by decide +kernel
theorem dX12_scopeAt_9 : decode cX12_scopeAt 9 = .ok (.isub, 1) := by decide +kernel
theorem dX12_scopeAt_10 : decode cX12_scopeAt 10 = .ok (.iaload, 1) := by decide +kernel
theorem dX12_scopeAt_11 : decode cX12_scopeAt 11 = .ok (.istore_n 2, 1) := by decide +kernel
theorem dX12_scopeAt_12 : decode cX12_scopeAt 12 = .ok (.iconst 0, 1) := by decide +kernel
theorem dX12_scopeAt_13 : decode cX12_scopeAt 13 = .ok (.istore_n 3, 1) := by decide +kernel
theorem dX12_scopeAt_14 : decode cX12_scopeAt 14 = .ok (.iload_n 3, 1) := by decide +kernel
theorem dX12_scopeAt_15 : decode cX12_scopeAt 15 = .ok (.iload_n 1, 1) := by decide +kernel
theorem dX12_scopeAt_16 : decode cX12_scopeAt 16 = .ok (.if_icmp .ge 16, 3) := by decide +kernel
theorem dX12_scopeAt_19 : decode cX12_scopeAt 19 = .ok (.aload_n 0, 1) := by decide +kernel
theorem dX12_scopeAt_20 : decode cX12_scopeAt 20 = .ok (.getfield 140, 3) := by decide +kernel
theorem dX12_scopeAt_23 : decode cX12_scopeAt 23 = .ok (.iload_n 2, 1) := by decide +kernel
theorem dX12_scopeAt_24 : decode cX12_scopeAt 24 = .ok (.iaload, 1) := by decide +kernel
theorem dX12_scopeAt_25 : decode cX12_scopeAt 25 = .ok (.istore_n 2, 1) := by decide +kernel
theorem dX12_scopeAt_26 : decode cX12_scopeAt 26 = .ok (.iinc 3 1, 3) := by decide +kernel
theorem dX12_scopeAt_29 : decode cX12_scopeAt 29 = .ok (.goto (-15), 3) := by decide +kernel
theorem dX12_scopeAt_32 : decode cX12_scopeAt 32 = .ok (.iload_n 2, 1) := by decide +kernel
theorem dX12_scopeAt_33 : decode cX12_scopeAt 33 = .ok (.ireturn, 1) := by decide +kernel
theorem dX12_under_0 : decode cX12_under 0 = .ok (.aload_n 0, 1) := by decide +kernel
theorem dX12_under_1 : decode cX12_under 1 = .ok (.invokevirtual 879, 3) := by decide +kernel
theorem dX12_under_4 : decode cX12_under 4 = .ok (.istore_n 3, 1) := by decide +kernel
theorem dX12_under_5 : decode cX12_under 5 = .ok (.iconst 0, 1) := by decide +kernel
theorem dX12_under_6 : decode cX12_under 6 = .ok (.istore 4, 2) := by decide +kernel
theorem dX12_under_8 : decode cX12_under 8 = .ok (.iload 4, 2) := by decide +kernel
theorem dX12_under_10 : decode cX12_under 10 = .ok (.iconst 2, 1) := by decide +kernel
theorem dX12_under_11 : decode cX12_under 11 = .ok (.if_icmp .ge 53, 3) := by decide +kernel
theorem dX12_under_14 : decode cX12_under 14 = .ok (.aload_n 0, 1) := by decide +kernel
theorem dX12_under_15 : decode cX12_under 15 = .ok (.getfield 200, 3) := by decide +kernel
theorem dX12_under_18 : decode cX12_under 18 = .ok (.iload_n 3, 1) := by decide +kernel
theorem dX12_under_19 : decode cX12_under 19 = .ok (.iconst 1, 1) := by decide +kernel
theorem dX12_under_20 : decode cX12_under 20 = .ok (.isub, 1) := by decide +kernel
theorem dX12_under_21 : decode cX12_under 21 = .ok (.iload 4, 2) := by decide +kernel
theorem dX12_under_23 : decode cX12_under 23 = .ok (.isub, 1) := by decide +kernel
theorem dX12_under_24 : decode cX12_under 24 = .ok (.aload_n 0, 1) := by decide +kernel
theorem dX12_under_25 : decode cX12_under 25 = .ok (.getfield 200, 3) := by decide +kernel
theorem dX12_under_28 : decode cX12_under 28 = .ok (.iload_n 3, 1) := by decide +kernel
theorem dX12_under_29 : decode cX12_under 29 = .ok (.iconst 2, 1) := by decide +kernel
theorem dX12_under_30 : decode cX12_under 30 = .ok (.isub, 1) := by decide +kernel
theorem dX12_under_31 : decode cX12_under 31 = .ok (.iload 4, 2) := by decide +kernel
theorem dX12_under_33 : decode cX12_under 33 = .ok (.isub, 1) := by decide +kernel
theorem dX12_under_34 : decode cX12_under 34 = .ok (.iaload, 1) := by decide +kernel
theorem dX12_under_35 : decode cX12_under 35 = .ok (.iastore, 1) := by decide +kernel
theorem dX12_under_36 : decode cX12_under 36 = .ok (.aload_n 0, 1) := by decide +kernel
theorem dX12_under_37 : decode cX12_under 37 = .ok (.getfield 203, 3) := by decide +kernel
theorem dX12_under_40 : decode cX12_under 40 = .ok (.iload_n 3, 1) := by decide +kernel
theorem dX12_under_41 : decode cX12_under 41 = .ok (.iconst 1, 1) := by decide +kernel
theorem dX12_under_42 : decode cX12_under 42 = .ok (.isub, 1) := by decide +kernel
theorem dX12_under_43 : decode cX12_under 43 = .ok (.iload 4, 2) := by decide +kernel
theorem dX12_under_45 : decode cX12_under 45 = .ok (.isub, 1) := by decide +kernel
theorem dX12_under_46 : decode cX12_under 46 = .ok (.aload_n 0, 1) := by decide +kernel
theorem dX12_under_47 : decode cX12_under 47 = .ok (.getfield 203, 3) := by decide +kernel
theorem dX12_under_50 : decode cX12_under 50 = .ok (.iload_n 3, 1) := by decide +kernel
theorem dX12_under_51 : decode cX12_under 51 = .ok (.iconst 2, 1) := by decide +kernel
theorem dX12_under_52 : decode cX12_under 52 = .ok (.isub, 1) := by decide +kernel
theorem dX12_under_53 : decode cX12_under 53 = .ok (.iload 4, 2) := by decide +kernel
theorem dX12_under_55 : decode cX12_under 55 = .ok (.isub, 1) := by decide +kernel
theorem dX12_under_56 : decode cX12_under 56 = .ok (.iaload, 1) := by decide +kernel
theorem dX12_under_57 : decode cX12_under 57 = .ok (.iastore, 1) := by decide +kernel
theorem dX12_under_58 : decode cX12_under 58 = .ok (.iinc 4 1, 3) := by decide +kernel
theorem dX12_under_61 : decode cX12_under 61 = .ok (.goto (-53), 3) := by decide +kernel
theorem dX12_under_64 : decode cX12_under 64 = .ok (.aload_n 0, 1) := by decide +kernel
theorem dX12_under_65 : decode cX12_under 65 = .ok (.getfield 200, 3) := by decide +kernel
theorem dX12_under_68 : decode cX12_under 68 = .ok (.iload_n 3, 1) := by decide +kernel
theorem dX12_under_69 : decode cX12_under 69 = .ok (.iconst 3, 1) := by decide +kernel
theorem dX12_under_70 : decode cX12_under 70 = .ok (.isub, 1) := by decide +kernel
theorem dX12_under_71 : decode cX12_under 71 = .ok (.iload_n 1, 1) := by decide +kernel
theorem dX12_under_72 : decode cX12_under 72 = .ok (.iastore, 1) := by decide +kernel
theorem dX12_under_73 : decode cX12_under 73 = .ok (.aload_n 0, 1) := by decide +kernel
theorem dX12_under_74 : decode cX12_under 74 = .ok (.getfield 203, 3) := by decide +kernel
theorem dX12_under_77 : decode cX12_under 77 = .ok (.iload_n 3, 1) := by decide +kernel
theorem dX12_under_78 : decode cX12_under 78 = .ok (.iconst 3, 1) := by decide +kernel
theorem dX12_under_79 : decode cX12_under 79 = .ok (.isub, 1) := by decide +kernel
theorem dX12_under_80 : decode cX12_under 80 = .ok (.iload_n 2, 1) := by decide +kernel
theorem dX12_under_81 : decode cX12_under 81 = .ok (.iastore, 1) := by decide +kernel
theorem dX12_under_82 : decode cX12_under 82 = .ok (.aload_n 0, 1) := by decide +kernel
theorem dX12_under_83 : decode cX12_under 83 = .ok (.iload_n 1, 1) := by decide +kernel
theorem dX12_under_84 : decode cX12_under 84 = .ok (.iload_n 2, 1) := by decide +kernel
theorem dX12_under_85 : decode cX12_under 85 = .ok (.invokevirtual 885, 3) := by decide +kernel
theorem dX12_under_88 : decode cX12_under 88 = .ok (.return_, 1) := by decide +kernel

def q_error (p1 : Int) (S : sv_S) : Option Value → sv_S → Prop := fun v S' => v = none ∧ sm_ok S' ∧ sv_mod [1076, 41, 42, 43, 44, 45, 46, 47, 1075, 1100029, 1092, 60, 58, 57, 63, 64, 1073, 1109, 1110] S S' ∧ (sm_PL (S' 1100020) (S' 51) (S' 52) (S' 46) (S' 47) (S' 1076 0) (S' 1086 0) ∧ sm_FR (S' 1100020) (S' 52) (S' 1100021) (S' 1100022) (3000 - (S' 1084 0)) (S' 1085 0) ∧ sm_PV (S' 1100020) (S' 48) (S' 49) (S' 50) (S' 44) (S' 1076 0) (S' 1007 0) ∧ sm_AL (S' 1100020) (S' 48) (S' 49) (S' 50) (S' 44) (S' 1076 0) (S' 1100032 0) ∧ sm_SV (S' 1100020) (S' 48) (S' 1100029) (S' 32) (S' 33) (S' 1076 0) (S' 1032 0) ∧ 0 ≤ (S' 1076 0) ∧ (S' 1076 0) ≤ 300 ∧ 0 ≤ (S' 1084 0) ∧ (S' 1084 0) ≤ 3000 ∧ 0 ≤ (S' 1086 0) ∧ sm_SC (S' 1100029) (S' 44) (S' 45) (S' 43) (S' 21) (S' 1076 0) (S' 1032 0) ∧ sm_PO (S' 42) (S' 1076 0) ∧ ((S' 1075 0) = 0 → (S' 1100032 0) = -1) ∧ 23 ≤ (S' 1076 0) ∧ 31 ≤ (S' 1007 0) ∧ (S' 1007 0) ≤ 400 ∧ sm_LN (S' 4) 400 ∧ (S' 1008 0) ≤ (S' 1007 0) ∧ ((S 1075 0) = 1 → (S' 1075 0) = 1) ∧ 0 ≤ (S' 1092 0) ∧ (S' 1092 0) ≤ 24 ∧ ((S' 1075 0) = 0 → (S' 1073 0) = 1 → 1 ≤ (S' 1092 0) ∧ (S' 1092 0) ≤ 24 ∧ 0 ≤ (S' 57 ((S' 1092 0) - 1)) ∧ (S' 57 ((S' 1092 0) - 1)) < (S' 1046 0) ∧ (S' 29 (S' 57 ((S' 1092 0) - 1))) = (S' 53 ((S' 1092 0) - 1)) ∧ 0 ≤ (S' 53 ((S' 1092 0) - 1)) ∧ (S' 53 ((S' 1092 0) - 1)) < (S' 1032 0) ∧ (S' 60 ((S' 1092 0) - 1)) = sm_dp (S' 1100024) (S' 1100023 (S' 57 ((S' 1092 0) - 1))) ∧ sm_TC (S' 61) (S' 62) (S' 27) (S' 1100007) (S' 1100023) (S' 1100024) (40 * ((S' 1092 0) - 1)) (S' 1100023 (S' 57 ((S' 1092 0) - 1))) ∧ sm_LK (S' 1100029) (S' 1076 0) (S' 54 ((S' 1092 0) - 1)) (S' 53 ((S' 1092 0) - 1)) ∧ sm_VO (S' 44) (S' 1076 0) (S' 1007 0) ((S' 55 ((S' 1092 0) - 1))) ((S' 56 ((S' 1092 0) - 1))) ∧ sm_FW (S' 44) (S' 1076 0) (S' 59 ((S' 1092 0) - 1)) ∧ sm_FL (S' 53) (S' 54) (S' 55) (S' 56) (S' 57) (S' 58) (S' 59) (S' 60) (S' 61) (S' 62) (S' 63) (S' 64) (S' 27) (S' 29) (S' 1100007) (S' 1100023) (S' 1100024) (S' 1100025) (S' 26) (S' 1100029) (S' 44) (S' 1046 0) (S' 1032 0) (S' 1076 0) (S' 1007 0) (((S' 1092 0) - 1)) ∧ (S' 58 ((S' 1092 0) - 1)) = (S' 1100007 (S' 57 ((S' 1092 0) - 1))) ∧ sm_SK (S' 63) (S' 64) (S' 44) (S' 1100007) (S' 1100025) (S' 1076 0) (S' 1007 0) (400 * ((S' 1092 0) - 1)) ((S' 58 ((S' 1092 0) - 1))) ((S' 1100025 (S' 57 ((S' 1092 0) - 1))))) ∧ ((S' 1073 0) = 1 ∨ (S' 1073 0) = 3))
theorem la_error_0 {x0 : Int} (h0 : 6 ≤ x0) (h1 : x0 ≤ 8) : sv_R (x0 + 20) := by omega
theorem la_error_1 {x0 x1 x2 : Int} (h0 : 23 ≤ x0) (h1 : 6 ≤ x1) (h2 : x1 ≤ 8) : 2 ≤ x0 ∧ (x1 = (-1) ∨ 0 ≤ x1 ∧ x1 < x0) ∧ 0 ≤ x1 + 20 ∧ x1 + 20 ≤ 1000 ∧ (0 : Int) ≤ 0 ∧ (0 : Int) ≤ 3 ∧ ((0 : Int) = 2 → x2 = x0) := by omega
theorem la_error_2 {x0 : Int} (h0 : x0 = 0) : ¬ x0 = 1 := by omega
theorem la_error_3 {x0 x1 x2 : Int} (h0 : x0 < x1) (h1 : x0 = x2) : ¬ x1 = x2 := by omega
theorem la_error_4 {x0 : Int} : x0 ≤ x0 := by omega
theorem la_error_5 : (0 : Int) ≤ 7 := by omega
theorem la_error_6 : (7 : Int) ≤ 7 := by omega
theorem la_error_7 {x0 x1 : Int} : (7 : Int) = 6 → 0 ≤ x0 ∧ x0 < x1 := by omega
theorem la_error_8 {x0 x1 x2 x3 : Int} (h0 : 23 ≤ x0) (h1 : x1 < x2) (h2 : x1 = x0) (h3 : x3 = 0) : (7 : Int) = 7 → 0 ≤ x1 ∧ x1 < x2 ∧ ¬ x3 = 3 := by omega
theorem la_error_9 {x0 : Int} (h0 : 1 ≤ x0) : 0 ≤ x0 := by omega
theorem la_error_10 {x0 x1 : Int} (h0 : x0 = (-1)) : x1 = 0 → x0 = (-1) := by omega
theorem la_error_11 {x0 x1 : Int} (h0 : 23 ≤ x0) (h1 : x0 ≤ x1) : 23 ≤ x1 := by omega
theorem la_error_12 {x0 x1 : Int} (h0 : x0 ≤ 24) (h1 : x1 ≤ x0) : x1 ≤ 24 := by omega
theorem la_error_13 {x0 : Int} (h0 : x0 = 1) : ¬ x0 = 3 := by omega
theorem la_error_14 {x0 x1 : Int} (h0 : x0 = 1) (h1 : x1 = x0 ∨ x1 = 3) : x1 = 1 ∨ x1 = 3 := by omega
set_option maxHeartbeats 2000000 in
theorem f_error : ∀ (p1 : Int) (S : sv_S), sm_ok S → sv_R p1 → ((S 1075 0) = 0 ∧ (S 1073 0) = 1 ∧ sm_PL (S 1100020) (S 51) (S 52) (S 46) (S 47) (S 1076 0) (S 1086 0) ∧ sm_FR (S 1100020) (S 52) (S 1100021) (S 1100022) (3000 - (S 1084 0)) (S 1085 0) ∧ sm_PV (S 1100020) (S 48) (S 49) (S 50) (S 44) (S 1076 0) (S 1007 0) ∧ sm_AL (S 1100020) (S 48) (S 49) (S 50) (S 44) (S 1076 0) (S 1100032 0) ∧ sm_SV (S 1100020) (S 48) (S 1100029) (S 32) (S 33) (S 1076 0) (S 1032 0) ∧ 0 ≤ (S 1076 0) ∧ (S 1076 0) ≤ 300 ∧ 0 ≤ (S 1084 0) ∧ (S 1084 0) ≤ 3000 ∧ 0 ≤ (S 1086 0) ∧ sm_SC (S 1100029) (S 44) (S 45) (S 43) (S 21) (S 1076 0) (S 1032 0) ∧ sm_PO (S 42) (S 1076 0) ∧ (S 1100032 0) = -1 ∧ 23 ≤ (S 1076 0) ∧ 31 ≤ (S 1007 0) ∧ (S 1007 0) ≤ 400 ∧ sm_LN (S 4) 400 ∧ sm_CT (S 26) (S 27) (S 28) (S 29) (S 1100007) (S 1100023) (S 1100024) (S 1100025) (S 21) (S 1046 0) (S 1032 0) (S 1008 0) (S 1055 0) ∧ sm_LS (S 26) (S 1100007) (S 1100025) (S 1046 0) ∧ sm_CL (S 1100007) (S 1100023) (S 1100025) (S 1046 0) ∧ 1 ≤ (S 1032 0) ∧ (S 1032 0) ≤ 11 ∧ 0 ≤ (S 1046 0) ∧ (S 1046 0) ≤ 600 ∧ 31 ≤ (S 1008 0) ∧ (S 1008 0) ≤ (S 1007 0) ∧ 0 ≤ (S 1055 0) ∧ (S 1055 0) ≤ 19 ∧ 1 ≤ (S 1092 0) ∧ (S 1092 0) ≤ 24 ∧ 0 ≤ (S 57 ((S 1092 0) - 1)) ∧ (S 57 ((S 1092 0) - 1)) < (S 1046 0) ∧ (S 29 (S 57 ((S 1092 0) - 1))) = (S 53 ((S 1092 0) - 1)) ∧ 0 ≤ (S 53 ((S 1092 0) - 1)) ∧ (S 53 ((S 1092 0) - 1)) < (S 1032 0) ∧ (S 60 ((S 1092 0) - 1)) = sm_dp (S 1100024) (S 1100023 (S 57 ((S 1092 0) - 1))) ∧ sm_TC (S 61) (S 62) (S 27) (S 1100007) (S 1100023) (S 1100024) (40 * ((S 1092 0) - 1)) (S 1100023 (S 57 ((S 1092 0) - 1))) ∧ sm_LK (S 1100029) (S 1076 0) (S 54 ((S 1092 0) - 1)) (S 53 ((S 1092 0) - 1)) ∧ sm_VO (S 44) (S 1076 0) (S 1007 0) ((S 55 ((S 1092 0) - 1))) ((S 56 ((S 1092 0) - 1))) ∧ sm_FW (S 44) (S 1076 0) (S 59 ((S 1092 0) - 1)) ∧ sm_FL (S 53) (S 54) (S 55) (S 56) (S 57) (S 58) (S 59) (S 60) (S 61) (S 62) (S 63) (S 64) (S 27) (S 29) (S 1100007) (S 1100023) (S 1100024) (S 1100025) (S 26) (S 1100029) (S 44) (S 1046 0) (S 1032 0) (S 1076 0) (S 1007 0) (((S 1092 0) - 1)) ∧ (S 58 ((S 1092 0) - 1)) = (S 1100007 (S 57 ((S 1092 0) - 1))) ∧ sm_SK (S 63) (S 64) (S 44) (S 1100007) (S 1100025) (S 1076 0) (S 1007 0) (400 * ((S 1092 0) - 1)) ((S 58 ((S 1092 0) - 1))) ((S 1100025 (S 57 ((S 1092 0) - 1)))) ∧ (0 ≤ (S 1100023 (S 57 ((S 1092 0) - 1))) → (S 1100007 (S 1100023 (S 57 ((S 1092 0) - 1)))) ≤ (S 58 ((S 1092 0) - 1))) ∧ 6 ≤ p1 ∧ p1 ≤ 8) → (sv_R (p1 + (20 : Int))) ∧ (sm_PL (S 1100020) (S 51) (S 52) (S 46) (S 47) (S 1076 0) (S 1086 0) ∧ sm_FR (S 1100020) (S 52) (S 1100021) (S 1100022) (3000 - (S 1084 0)) (S 1085 0) ∧ sm_PV (S 1100020) (S 48) (S 49) (S 50) (S 44) (S 1076 0) (S 1007 0) ∧ sm_AL (S 1100020) (S 48) (S 49) (S 50) (S 44) (S 1076 0) (S 1100032 0) ∧ sm_SV (S 1100020) (S 48) (S 1100029) (S 32) (S 33) (S 1076 0) (S 1032 0) ∧ 0 ≤ (S 1076 0) ∧ (S 1076 0) ≤ 300 ∧ 0 ≤ (S 1084 0) ∧ (S 1084 0) ≤ 3000 ∧ 0 ≤ (S 1086 0) ∧ sm_SC (S 1100029) (S 44) (S 45) (S 43) (S 21) (S 1076 0) (S 1032 0) ∧ sm_PO (S 42) (S 1076 0) ∧ 2 ≤ (S 1076 0) ∧ (p1 = -1 ∨ (0 ≤ p1 ∧ p1 < (S 1076 0))) ∧ 0 ≤ (p1 + (20 : Int)) ∧ (p1 + (20 : Int)) ≤ 1000 ∧ 0 ≤ (0 : Int) ∧ (0 : Int) ≤ 3 ∧ ((0 : Int) = 2 → (S 1100032 0) = (S 1076 0))) ∧ (∀ r7 : Int, sv_R r7 → ∀ g3 : sv_S, (sm_PL (S 1100020) (S 51) (S 52) (g3 46) (g3 47) (g3 1076 0) (S 1086 0) ∧ sm_FR (S 1100020) (S 52) (S 1100021) (S 1100022) (3000 - (S 1084 0)) (S 1085 0) ∧ sm_PV (S 1100020) (S 48) (S 49) (S 50) (g3 44) (g3 1076 0) (S 1007 0) ∧ sm_AL (S 1100020) (S 48) (S 49) (S 50) (g3 44) (g3 1076 0) (S 1100032 0) ∧ sm_SV (S 1100020) (S 48) (g3 1100029) (S 32) (S 33) (g3 1076 0) (S 1032 0) ∧ 0 ≤ (g3 1076 0) ∧ (g3 1076 0) ≤ 300 ∧ 0 ≤ (S 1084 0) ∧ (S 1084 0) ≤ 3000 ∧ 0 ≤ (S 1086 0) ∧ sm_SC (g3 1100029) (g3 44) (g3 45) (g3 43) (S 21) (g3 1076 0) (S 1032 0) ∧ sm_PO (g3 42) (g3 1076 0) ∧ 0 ≤ r7 ∧ r7 < (g3 1076 0) ∧ ((S 1075 0) = 1 → (g3 1075 0) = 1) ∧ (S 1076 0) ≤ (g3 1076 0) ∧ sm_F1 (S 44) (g3 44) (S 1076 0) ∧ sm_F1 (S 1100029) (g3 1100029) (S 1076 0) ∧ sm_F1 (S 42) (g3 42) (S 1076 0) ∧ sm_F1 (S 43) (g3 43) (S 1076 0) ∧ sm_F1 (S 45) (g3 45) (S 1076 0) ∧ ((g3 1075 0) = 0 → r7 = (S 1076 0) ∧ (g3 1076 0) = r7 + 1 ∧ (g3 44 r7) = (0 : Int) ∧ (g3 1100029 r7) = 0 ∧ (g3 45 r7) = 0 ∧ (g3 43 r7) = -1 ∧ (g3 42 r7) = p1) ∧ ((g3 1076 0) = (S 1076 0) → r7 = 0) ∧ ((g3 1075 0) = 1 → (S 1075 0) = 0 → (g3 1076 0) = (S 1076 0))) → ((g3 1075 0) = 0 → 31 ≤ (S 1007 0) ∧ (S 1007 0) ≤ 400 ∧ sm_LN (S 4) 400 ∧ sm_CT (S 26) (S 27) (S 28) (S 29) (S 1100007) (S 1100023) (S 1100024) (S 1100025) (S 21) (S 1046 0) (S 1032 0) (S 1008 0) (S 1055 0) ∧ sm_LS (S 26) (S 1100007) (S 1100025) (S 1046 0) ∧ sm_CL (S 1100007) (S 1100023) (S 1100025) (S 1046 0) ∧ 1 ≤ (S 1032 0) ∧ (S 1032 0) ≤ 11 ∧ 0 ≤ (S 1046 0) ∧ (S 1046 0) ≤ 600 ∧ 31 ≤ (S 1008 0) ∧ (S 1008 0) ≤ (S 1007 0) ∧ 0 ≤ (S 1055 0) ∧ (S 1055 0) ≤ 19 ∧ 1 ≤ (S 1092 0) ∧ (S 1092 0) ≤ 24 ∧ 0 ≤ (S 57 ((S 1092 0) - 1)) ∧ (S 57 ((S 1092 0) - 1)) < (S 1046 0) ∧ (S 29 (S 57 ((S 1092 0) - 1))) = (S 53 ((S 1092 0) - 1)) ∧ 0 ≤ (S 53 ((S 1092 0) - 1)) ∧ (S 53 ((S 1092 0) - 1)) < (S 1032 0) ∧ (S 60 ((S 1092 0) - 1)) = sm_dp (S 1100024) (S 1100023 (S 57 ((S 1092 0) - 1))) ∧ sm_TC (S 61) (S 62) (S 27) (S 1100007) (S 1100023) (S 1100024) (40 * ((S 1092 0) - 1)) (S 1100023 (S 57 ((S 1092 0) - 1))) ∧ sm_LK (g3 1100029) (g3 1076 0) (S 54 ((S 1092 0) - 1)) (S 53 ((S 1092 0) - 1)) ∧ sm_VO (g3 44) (g3 1076 0) (S 1007 0) ((S 55 ((S 1092 0) - 1))) ((S 56 ((S 1092 0) - 1))) ∧ sm_FW (g3 44) (g3 1076 0) (S 59 ((S 1092 0) - 1)) ∧ sm_FL (S 53) (S 54) (S 55) (S 56) (S 57) (S 58) (S 59) (S 60) (S 61) (S 62) (S 63) (S 64) (S 27) (S 29) (S 1100007) (S 1100023) (S 1100024) (S 1100025) (S 26) (g3 1100029) (g3 44) (S 1046 0) (S 1032 0) (g3 1076 0) (S 1007 0) (((S 1092 0) - 1)) ∧ (S 58 ((S 1092 0) - 1)) = (S 1100007 (S 57 ((S 1092 0) - 1))) ∧ sm_SK (S 63) (S 64) (g3 44) (S 1100007) (S 1100025) (g3 1076 0) (S 1007 0) (400 * ((S 1092 0) - 1)) ((S 58 ((S 1092 0) - 1))) ((S 1100025 (S 57 ((S 1092 0) - 1)))) ∧ sm_VO (g3 44) (g3 1076 0) (S 1007 0) ((7 : Int)) (r7) ∧ (0 ≤ (S 1100023 (S 57 ((S 1092 0) - 1))) → (S 1100007 (S 1100023 (S 57 ((S 1092 0) - 1)))) ≤ (S 58 ((S 1092 0) - 1)))) ∧ (∀ g10 : sv_S, (((g3 1075 0) = 0 → (g10 1073 0) = 1 → (S 1073 0) = 1 ∧ 1 ≤ (g10 1092 0) ∧ (g10 1092 0) ≤ 24 ∧ 0 ≤ (g10 57 ((g10 1092 0) - 1)) ∧ (g10 57 ((g10 1092 0) - 1)) < (S 1046 0) ∧ (S 29 (g10 57 ((g10 1092 0) - 1))) = (S 53 ((g10 1092 0) - 1)) ∧ 0 ≤ (S 53 ((g10 1092 0) - 1)) ∧ (S 53 ((g10 1092 0) - 1)) < (S 1032 0) ∧ (g10 60 ((g10 1092 0) - 1)) = sm_dp (S 1100024) (S 1100023 (g10 57 ((g10 1092 0) - 1))) ∧ sm_TC (S 61) (S 62) (S 27) (S 1100007) (S 1100023) (S 1100024) (40 * ((g10 1092 0) - 1)) (S 1100023 (g10 57 ((g10 1092 0) - 1))) ∧ sm_LK (g3 1100029) (g3 1076 0) (S 54 ((g10 1092 0) - 1)) (S 53 ((g10 1092 0) - 1)) ∧ sm_VO (g3 44) (g3 1076 0) (S 1007 0) ((S 55 ((g10 1092 0) - 1))) ((S 56 ((g10 1092 0) - 1))) ∧ sm_FW (g3 44) (g3 1076 0) (S 59 ((g10 1092 0) - 1)) ∧ sm_FL (S 53) (S 54) (S 55) (S 56) (g10 57) (g10 58) (S 59) (g10 60) (S 61) (S 62) (g10 63) (g10 64) (S 27) (S 29) (S 1100007) (S 1100023) (S 1100024) (S 1100025) (S 26) (g3 1100029) (g3 44) (S 1046 0) (S 1032 0) (g3 1076 0) (S 1007 0) (((g10 1092 0) - 1)) ∧ (g10 58 ((g10 1092 0) - 1)) = (S 1100007 (g10 57 ((g10 1092 0) - 1))) ∧ sm_SK (g10 63) (g10 64) (g3 44) (S 1100007) (S 1100025) (g3 1076 0) (S 1007 0) (400 * ((g10 1092 0) - 1)) ((g10 58 ((g10 1092 0) - 1))) ((S 1100025 (g10 57 ((g10 1092 0) - 1))))) ∧ ((g10 1073 0) = (S 1073 0) ∨ (g10 1073 0) = 3) ∧ (g10 1092 0) ≤ (S 1092 0) ∧ (0 ≤ (S 1092 0) → 0 ≤ (g10 1092 0))) → (sm_PL (S 1100020) (S 51) (S 52) (g3 46) (g3 47) (g3 1076 0) (S 1086 0) ∧ sm_FR (S 1100020) (S 52) (S 1100021) (S 1100022) (3000 - (S 1084 0)) (S 1085 0) ∧ sm_PV (S 1100020) (S 48) (S 49) (S 50) (g3 44) (g3 1076 0) (S 1007 0) ∧ sm_AL (S 1100020) (S 48) (S 49) (S 50) (g3 44) (g3 1076 0) (S 1100032 0) ∧ sm_SV (S 1100020) (S 48) (g3 1100029) (S 32) (S 33) (g3 1076 0) (S 1032 0) ∧ 0 ≤ (g3 1076 0) ∧ (g3 1076 0) ≤ 300 ∧ 0 ≤ (S 1084 0) ∧ (S 1084 0) ≤ 3000 ∧ 0 ≤ (S 1086 0) ∧ sm_SC (g3 1100029) (g3 44) (g3 45) (g3 43) (S 21) (g3 1076 0) (S 1032 0) ∧ sm_PO (g3 42) (g3 1076 0) ∧ ((g3 1075 0) = 0 → (S 1100032 0) = -1) ∧ 23 ≤ (g3 1076 0) ∧ 31 ≤ (S 1007 0) ∧ (S 1007 0) ≤ 400 ∧ sm_LN (S 4) 400 ∧ (S 1008 0) ≤ (S 1007 0) ∧ ((S 1075 0) = 1 → (g3 1075 0) = 1) ∧ 0 ≤ (g10 1092 0) ∧ (g10 1092 0) ≤ 24 ∧ ((g3 1075 0) = 0 → (g10 1073 0) = 1 → 1 ≤ (g10 1092 0) ∧ (g10 1092 0) ≤ 24 ∧ 0 ≤ (g10 57 ((g10 1092 0) - 1)) ∧ (g10 57 ((g10 1092 0) - 1)) < (S 1046 0) ∧ (S 29 (g10 57 ((g10 1092 0) - 1))) = (S 53 ((g10 1092 0) - 1)) ∧ 0 ≤ (S 53 ((g10 1092 0) - 1)) ∧ (S 53 ((g10 1092 0) - 1)) < (S 1032 0) ∧ (g10 60 ((g10 1092 0) - 1)) = sm_dp (S 1100024) (S 1100023 (g10 57 ((g10 1092 0) - 1))) ∧ sm_TC (S 61) (S 62) (S 27) (S 1100007) (S 1100023) (S 1100024) (40 * ((g10 1092 0) - 1)) (S 1100023 (g10 57 ((g10 1092 0) - 1))) ∧ sm_LK (g3 1100029) (g3 1076 0) (S 54 ((g10 1092 0) - 1)) (S 53 ((g10 1092 0) - 1)) ∧ sm_VO (g3 44) (g3 1076 0) (S 1007 0) ((S 55 ((g10 1092 0) - 1))) ((S 56 ((g10 1092 0) - 1))) ∧ sm_FW (g3 44) (g3 1076 0) (S 59 ((g10 1092 0) - 1)) ∧ sm_FL (S 53) (S 54) (S 55) (S 56) (g10 57) (g10 58) (S 59) (g10 60) (S 61) (S 62) (g10 63) (g10 64) (S 27) (S 29) (S 1100007) (S 1100023) (S 1100024) (S 1100025) (S 26) (g3 1100029) (g3 44) (S 1046 0) (S 1032 0) (g3 1076 0) (S 1007 0) (((g10 1092 0) - 1)) ∧ (g10 58 ((g10 1092 0) - 1)) = (S 1100007 (g10 57 ((g10 1092 0) - 1))) ∧ sm_SK (g10 63) (g10 64) (g3 44) (S 1100007) (S 1100025) (g3 1076 0) (S 1007 0) (400 * ((g10 1092 0) - 1)) ((g10 58 ((g10 1092 0) - 1))) ((S 1100025 (g10 57 ((g10 1092 0) - 1))))) ∧ ((g10 1073 0) = 1 ∨ (g10 1073 0) = 3)))) := by
  intro p1
  intro S
  intro h1_
  intro h2_
  rintro ⟨h3_, ⟨h4_, ⟨h5_, ⟨h6_, ⟨h7_, ⟨h8_, ⟨h9_, ⟨h10_, ⟨h11_, ⟨h12_, ⟨h13_, ⟨h14_, ⟨h15_, ⟨h16_, ⟨h17_, ⟨h18_, ⟨h19_, ⟨h20_, ⟨h21_, ⟨h22_, ⟨h23_, ⟨h24_, ⟨h25_, ⟨h26_, ⟨h27_, ⟨h28_, ⟨h29_, ⟨h30_, ⟨h31_, ⟨h32_, ⟨h33_, ⟨h34_, ⟨h35_, ⟨h36_, ⟨h37_, ⟨h38_, ⟨h39_, ⟨h40_, ⟨h41_, ⟨h42_, ⟨h43_, ⟨h44_, ⟨h45_, ⟨h46_, ⟨h47_, ⟨h48_, ⟨h49_, h50_⟩⟩⟩⟩⟩⟩⟩⟩⟩⟩⟩⟩⟩⟩⟩⟩⟩⟩⟩⟩⟩⟩⟩⟩⟩⟩⟩⟩⟩⟩⟩⟩⟩⟩⟩⟩⟩⟩⟩⟩⟩⟩⟩⟩⟩⟩⟩
  refine ⟨(la_error_0 h49_ h50_), ?_⟩
  refine ⟨⟨h5_, ⟨h6_, ⟨h7_, ⟨h8_, ⟨h9_, ⟨h10_, ⟨h11_, ⟨h12_, ⟨h13_, ⟨h14_, ⟨h15_, ⟨h16_, (la_error_1 h18_ h49_ h50_)⟩⟩⟩⟩⟩⟩⟩⟩⟩⟩⟩⟩, ?_⟩
  intro r7
  intro h51_
  intro g3
  rintro ⟨h52_, ⟨h53_, ⟨h54_, ⟨h55_, ⟨h56_, ⟨h57_, ⟨h58_, ⟨h59_, ⟨h60_, ⟨h61_, ⟨h62_, ⟨h63_, ⟨h64_, ⟨h65_, ⟨h66_, ⟨h67_, ⟨h68_, ⟨h69_, ⟨h70_, ⟨h71_, ⟨h72_, ⟨h73_, ⟨h74_, h75_⟩⟩⟩⟩⟩⟩⟩⟩⟩⟩⟩⟩⟩⟩⟩⟩⟩⟩⟩⟩⟩⟩⟩
  refine ⟨?_, ?_⟩
  · skip
    intro h76_
    obtain ⟨h77_, ⟨h78_, ⟨h79_, ⟨h80_, ⟨h81_, ⟨h82_, h83_⟩⟩⟩⟩⟩⟩ := (h73_ h76_)
    refine ⟨h19_, ?_⟩
    refine ⟨h20_, ?_⟩
    refine ⟨h21_, ?_⟩
    refine ⟨h22_, ?_⟩
    refine ⟨h23_, ?_⟩
    refine ⟨h24_, ?_⟩
    refine ⟨h25_, ?_⟩
    refine ⟨h26_, ?_⟩
    refine ⟨h27_, ?_⟩
    refine ⟨h28_, ?_⟩
    refine ⟨h29_, ?_⟩
    refine ⟨h30_, ?_⟩
    refine ⟨h31_, ?_⟩
    refine ⟨h32_, ?_⟩
    refine ⟨h33_, ?_⟩
    refine ⟨h34_, ?_⟩
    refine ⟨h35_, ?_⟩
    refine ⟨h36_, ?_⟩
    refine ⟨h37_, ?_⟩
    refine ⟨h38_, ?_⟩
    refine ⟨h39_, ?_⟩
    refine ⟨h40_, ?_⟩
    refine ⟨h41_, ?_⟩
    refine ⟨(sm_LK_m h42_ h67_ (sm_F1_le h69_ (Int.le_refl _))), ?_⟩
    refine ⟨(sm_VO_m h43_ h67_ (Int.le_refl _) (sm_F1_le h68_ (Int.le_refl _))), ?_⟩
    refine ⟨(sm_FW_m h44_ h67_ (sm_F1_le h68_ (Int.le_refl _))), ?_⟩
    refine ⟨(sm_FL_F h45_ sm_F1_rf sm_F1_rf sm_F1_rf sm_F1_rf sm_F1_rf sm_F1_rf sm_F1_rf sm_F1_rf sm_F1_rf sm_F1_rf sm_F1_rf sm_F1_rf h67_ (Int.le_refl _) (sm_F1_le h69_ (Int.le_refl _)) (sm_F1_le h68_ (Int.le_refl _)) (sm_FL_dp h45_ h22_)), ?_⟩
    refine ⟨h46_, ?_⟩
    refine ⟨(sm_SK_m h47_ h67_ (Int.le_refl _) (sm_F1_le h68_ (Int.le_refl _))), ?_⟩
    refine ⟨(sm_VO_i la_error_5 la_error_6 la_error_7 (la_error_8 h18_ h65_ h77_ h79_)), ?_⟩
    intro h84_
    have h85_ := (h48_ h84_)
    exact h85_
  intro g10
  rintro ⟨h86_, ⟨h87_, ⟨h88_, h89_⟩⟩⟩
  have h90_ := (h89_ (la_error_9 h33_))
  refine ⟨h52_, ?_⟩
  refine ⟨h6_, ?_⟩
  refine ⟨h54_, ?_⟩
  refine ⟨h55_, ?_⟩
  refine ⟨h56_, ?_⟩
  refine ⟨h57_, ?_⟩
  refine ⟨h58_, ?_⟩
  refine ⟨h12_, ?_⟩
  refine ⟨h13_, ?_⟩
  refine ⟨h14_, ?_⟩
  refine ⟨h62_, ?_⟩
  refine ⟨h63_, ?_⟩
  refine ⟨(la_error_10 h17_), ?_⟩
  refine ⟨(la_error_11 h18_ h67_), ?_⟩
  refine ⟨h19_, ?_⟩
  refine ⟨h20_, ?_⟩
  refine ⟨h21_, ?_⟩
  refine ⟨h30_, ?_⟩
  refine ⟨h66_, ?_⟩
  refine ⟨h90_, ?_⟩
  refine ⟨(la_error_12 h34_ h88_), ?_⟩
  refine ⟨?_, ?_⟩
  · skip
    intro h91_
    obtain ⟨h92_, ⟨h93_, ⟨h94_, ⟨h95_, ⟨h96_, ⟨h97_, h98_⟩⟩⟩⟩⟩⟩ := (h73_ h91_)
    have h99_ := (h86_ h91_)
    intro h100_
    have h101_ := (h87_.resolve_right (la_error_13 h100_))
    obtain ⟨h102_, ⟨h103_, ⟨h104_, ⟨h105_, ⟨h106_, ⟨h107_, ⟨h108_, ⟨h109_, ⟨h110_, ⟨h111_, ⟨h112_, ⟨h113_, ⟨h114_, ⟨h115_, ⟨h116_, h117_⟩⟩⟩⟩⟩⟩⟩⟩⟩⟩⟩⟩⟩⟩⟩ := (h99_ h100_)
    refine ⟨h103_, ?_⟩
    refine ⟨h104_, ?_⟩
    refine ⟨h105_, ?_⟩
    refine ⟨h106_, ?_⟩
    refine ⟨h107_, ?_⟩
    refine ⟨h108_, ?_⟩
    refine ⟨h109_, ?_⟩
    refine ⟨h110_, ?_⟩
    refine ⟨h111_, ?_⟩
    refine ⟨h112_, ?_⟩
    refine ⟨h113_, ?_⟩
    refine ⟨h114_, ?_⟩
    refine ⟨h115_, ?_⟩
    refine ⟨h116_, ?_⟩
    exact h117_
  exact (la_error_14 h4_ h87_)
set_option maxRecDepth 8000 in
set_option maxHeartbeats 2000000 in
theorem t_error : ∀ (p1 : Int) (S : sv_S), sm_ok S → sv_R p1 → ((S 1075 0) = 0 ∧ (S 1073 0) = 1 ∧ sm_PL (S 1100020) (S 51) (S 52) (S 46) (S 47) (S 1076 0) (S 1086 0) ∧ sm_FR (S 1100020) (S 52) (S 1100021) (S 1100022) (3000 - (S 1084 0)) (S 1085 0) ∧ sm_PV (S 1100020) (S 48) (S 49) (S 50) (S 44) (S 1076 0) (S 1007 0) ∧ sm_AL (S 1100020) (S 48) (S 49) (S 50) (S 44) (S 1076 0) (S 1100032 0) ∧ sm_SV (S 1100020) (S 48) (S 1100029) (S 32) (S 33) (S 1076 0) (S 1032 0) ∧ 0 ≤ (S 1076 0) ∧ (S 1076 0) ≤ 300 ∧ 0 ≤ (S 1084 0) ∧ (S 1084 0) ≤ 3000 ∧ 0 ≤ (S 1086 0) ∧ sm_SC (S 1100029) (S 44) (S 45) (S 43) (S 21) (S 1076 0) (S 1032 0) ∧ sm_PO (S 42) (S 1076 0) ∧ (S 1100032 0) = -1 ∧ 23 ≤ (S 1076 0) ∧ 31 ≤ (S 1007 0) ∧ (S 1007 0) ≤ 400 ∧ sm_LN (S 4) 400 ∧ sm_CT (S 26) (S 27) (S 28) (S 29) (S 1100007) (S 1100023) (S 1100024) (S 1100025) (S 21) (S 1046 0) (S 1032 0) (S 1008 0) (S 1055 0) ∧ sm_LS (S 26) (S 1100007) (S 1100025) (S 1046 0) ∧ sm_CL (S 1100007) (S 1100023) (S 1100025) (S 1046 0) ∧ 1 ≤ (S 1032 0) ∧ (S 1032 0) ≤ 11 ∧ 0 ≤ (S 1046 0) ∧ (S 1046 0) ≤ 600 ∧ 31 ≤ (S 1008 0) ∧ (S 1008 0) ≤ (S 1007 0) ∧ 0 ≤ (S 1055 0) ∧ (S 1055 0) ≤ 19 ∧ 1 ≤ (S 1092 0) ∧ (S 1092 0) ≤ 24 ∧ 0 ≤ (S 57 ((S 1092 0) - 1)) ∧ (S 57 ((S 1092 0) - 1)) < (S 1046 0) ∧ (S 29 (S 57 ((S 1092 0) - 1))) = (S 53 ((S 1092 0) - 1)) ∧ 0 ≤ (S 53 ((S 1092 0) - 1)) ∧ (S 53 ((S 1092 0) - 1)) < (S 1032 0) ∧ (S 60 ((S 1092 0) - 1)) = sm_dp (S 1100024) (S 1100023 (S 57 ((S 1092 0) - 1))) ∧ sm_TC (S 61) (S 62) (S 27) (S 1100007) (S 1100023) (S 1100024) (40 * ((S 1092 0) - 1)) (S 1100023 (S 57 ((S 1092 0) - 1))) ∧ sm_LK (S 1100029) (S 1076 0) (S 54 ((S 1092 0) - 1)) (S 53 ((S 1092 0) - 1)) ∧ sm_VO (S 44) (S 1076 0) (S 1007 0) ((S 55 ((S 1092 0) - 1))) ((S 56 ((S 1092 0) - 1))) ∧ sm_FW (S 44) (S 1076 0) (S 59 ((S 1092 0) - 1)) ∧ sm_FL (S 53) (S 54) (S 55) (S 56) (S 57) (S 58) (S 59) (S 60) (S 61) (S 62) (S 63) (S 64) (S 27) (S 29) (S 1100007) (S 1100023) (S 1100024) (S 1100025) (S 26) (S 1100029) (S 44) (S 1046 0) (S 1032 0) (S 1076 0) (S 1007 0) (((S 1092 0) - 1)) ∧ (S 58 ((S 1092 0) - 1)) = (S 1100007 (S 57 ((S 1092 0) - 1))) ∧ sm_SK (S 63) (S 64) (S 44) (S 1100007) (S 1100025) (S 1076 0) (S 1007 0) (400 * ((S 1092 0) - 1)) ((S 58 ((S 1092 0) - 1))) ((S 1100025 (S 57 ((S 1092 0) - 1)))) ∧ (0 ≤ (S 1100023 (S 57 ((S 1092 0) - 1))) → (S 1100007 (S 1100023 (S 57 ((S 1092 0) - 1)))) ≤ (S 58 ((S 1092 0) - 1))) ∧ 6 ≤ p1 ∧ p1 ≤ 8) → sv_T sm_XS sm_cs sm_L sm_sh 3 (q_error p1 S) 157 0 (lv_args 0 [.ref 0, sv_I p1]) [] S := by
  intro p1 S hok hp1 hpre
  have h := f_error p1 S hok hp1 hpre
  have hM := sm_h157
  show sv_T sm_XS sm_cs sm_L sm_sh 3 (q_error p1 S) 157 0 [(0, .ref 0), (1, sv_I p1)] [] S
  refine sv_aload_n hM dX12_error_0 rfl rfl ?_
  refine sv_iload_n hM dX12_error_1 rfl rfl ?_
  refine sv_iload_n hM dX12_error_2 rfl rfl ?_
  refine sv_bipush (d := (20 : Int)) hM dX12_error_3 rfl rfl ?_
  refine sv_iadd hM dX12_error_5 rfl ?_
  refine sv_iconst (d := (0 : Int)) hM dX12_error_6 rfl rfl ?_
  obtain ⟨o1, h⟩ := h
  obtain ⟨o2, h⟩ := h
  refine sv_callV hM dX12_error_7 sm_iv_858 (by decide) (sm_a0 _) rfl rfl (Nat.le_of_ble_eq_true rfl) sm_h139 (Nat.le_of_ble_eq_true rfl) (Nat.le_of_ble_eq_true rfl) (F' := 0) (Nat.le_of_ble_eq_true rfl) rfl (t_newObject p1 (p1 + (20 : Int)) (0 : Int) S hok hp1 o1 (⟨by decide, by decide⟩ : sv_R (0 : Int)) o2) (fun v S1 hq => ?_)
  obtain ⟨r7, rfl, hr7, ok4, md5, hpo6⟩ := hq
  obtain ⟨g3, rfl⟩ : ∃ g, S1 = sv_sts S [1076, 41, 42, 43, 44, 45, 46, 47, 1075, 1100029] g := ⟨_, md5.eq⟩
  show sv_T sm_XS sm_cs sm_L sm_sh 3 (q_error p1 S) 157 10 [(0, .ref 0), (1, sv_I p1)] [sv_I r7] (sv_sts S [1076, 41, 42, 43, 44, 45, 46, 47, 1075, 1100029] g3)
  have md8 : sv_mod [1076, 41, 42, 43, 44, 45, 46, 47, 1075, 1100029, 1092, 60, 58, 57, 63, 64, 1073, 1109, 1110] S (sv_sts S [1076, 41, 42, 43, 44, 45, 46, 47, 1075, 1100029] g3) := sv_mod.sts sv_mod.rf (by decide)
  have h := h r7 hr7 g3 hpo6
  refine sv_istore_n hM dX12_error_10 (by decide) rfl ?_
  show sv_T sm_XS sm_cs sm_L sm_sh 3 (q_error p1 S) 157 11 [(0, .ref 0), (1, sv_I p1), (2, sv_I r7)] [] (sv_sts S [1076, 41, 42, 43, 44, 45, 46, 47, 1075, 1100029] g3)
  refine sv_aload_n hM dX12_error_11 rfl rfl ?_
  refine sv_bipush (d := (7 : Int)) hM dX12_error_12 rfl rfl ?_
  refine sv_iload_n hM dX12_error_14 rfl rfl ?_
  obtain ⟨o9, h⟩ := h
  refine sv_callV hM dX12_error_15 sm_iv_897 (by decide) (sm_a0 _) rfl rfl (Nat.le_of_ble_eq_true rfl) sm_h156 (Nat.le_of_ble_eq_true rfl) (Nat.le_of_ble_eq_true rfl) (F' := 2) (Nat.le_of_ble_eq_true rfl) rfl (t_toss_ (7 : Int) r7 (sv_sts S [1076, 41, 42, 43, 44, 45, 46, 47, 1075, 1100029] g3) ok4 (⟨by decide, by decide⟩ : sv_R (7 : Int)) hr7 o9) (fun v S1 hq => ?_)
  obtain ⟨rfl, ok11, md12, hpo13⟩ := hq
  obtain ⟨g10, rfl⟩ : ∃ g, S1 = sv_sts (sv_sts S [1076, 41, 42, 43, 44, 45, 46, 47, 1075, 1100029] g3) [1092, 60, 58, 57, 63, 64, 1073, 1109, 1110] g := ⟨_, md12.eq⟩
  show sv_T sm_XS sm_cs sm_L sm_sh 3 (q_error p1 S) 157 18 [(0, .ref 0), (1, sv_I p1), (2, sv_I r7)] [] (sv_sts (sv_sts S [1076, 41, 42, 43, 44, 45, 46, 47, 1075, 1100029] g3) [1092, 60, 58, 57, 63, 64, 1073, 1109, 1110] g10)
  have md14 : sv_mod [1076, 41, 42, 43, 44, 45, 46, 47, 1075, 1100029, 1092, 60, 58, 57, 63, 64, 1073, 1109, 1110] S (sv_sts (sv_sts S [1076, 41, 42, 43, 44, 45, 46, 47, 1075, 1100029] g3) [1092, 60, 58, 57, 63, 64, 1073, 1109, 1110] g10) := sv_mod.sts md8 (by decide)
  have h := h g10 hpo13
  exact sv_vret hM dX12_error_18 rfl ⟨rfl, ok11, md14, h⟩
def q_enterFrame (p1 : Int) (p2 : Int) (p3 : Int) (p4 : Int) (p5 : Int) (S : sv_S) : Option Value → sv_S → Prop := fun v S' => v = none ∧ sm_ok S' ∧ sv_mod [1092, 53, 54, 55, 56, 57, 58, 59, 60] S S' ∧ ((S' 1092 0) = (S 1092 0) + 1 ∧ (S' 53 (S 1092 0)) = p1 ∧ (∀ k : Int, ¬ k = (S 1092 0) → (S' 53 k) = (S 53 k)) ∧ (S' 54 (S 1092 0)) = p2 ∧ (∀ k : Int, ¬ k = (S 1092 0) → (S' 54 k) = (S 54 k)) ∧ (S' 55 (S 1092 0)) = p3 ∧ (∀ k : Int, ¬ k = (S 1092 0) → (S' 55 k) = (S 55 k)) ∧ (S' 56 (S 1092 0)) = p4 ∧ (∀ k : Int, ¬ k = (S 1092 0) → (S' 56 k) = (S 56 k)) ∧ (S' 57 (S 1092 0)) = (S' 30 p1) ∧ (∀ k : Int, ¬ k = (S 1092 0) → (S' 57 k) = (S 57 k)) ∧ (S' 58 (S 1092 0)) = 0 ∧ (∀ k : Int, ¬ k = (S 1092 0) → (S' 58 k) = (S 58 k)) ∧ (S' 59 (S 1092 0)) = p5 ∧ (∀ k : Int, ¬ k = (S 1092 0) → (S' 59 k) = (S 59 k)) ∧ (S' 60 (S 1092 0)) = 0 ∧ (∀ k : Int, ¬ k = (S 1092 0) → (S' 60 k) = (S 60 k)))
theorem la_enterFrame_0 {x0 : Int} (h0 : 0 ≤ x0) (h1 : x0 < 24) : sv_R (x0 + 1) := by omega
theorem la_enterFrame_1 {x0 : Int} (h0 : 0 ≤ x0) (h1 : x0 < 24) : 0 ≤ x0 ∧ x0 < 24 := by omega
theorem la_enterFrame_2 {x0 : Int} (h0 : 0 ≤ x0) (h1 : x0 ≤ 11) : 0 ≤ x0 ∧ x0 < 12 := by omega
theorem la_enterFrame_3 {x0 : Int} : x0 + 1 = x0 + 1 := by omega
theorem la_enterFrame_4 {x0 : Int} : x0 = x0 := by omega
set_option maxHeartbeats 2000000 in
theorem f_enterFrame : ∀ (p1 : Int) (p2 : Int) (p3 : Int) (p4 : Int) (p5 : Int) (S : sv_S), sm_ok S → sv_R p1 → sv_R p2 → sv_R p3 → sv_R p4 → sv_R p5 → (0 ≤ (S 1092 0) ∧ (S 1092 0) < 24 ∧ 0 ≤ p1 ∧ p1 ≤ 11) → (sv_R (S 1092 0) → (sv_R ((S 1092 0) + (1 : Int))) ∧ (0 ≤ (S 1092 0) ∧ (S 1092 0) < 24) ∧ (0 ≤ p1 ∧ p1 < 12) ∧ (sv_R (S 30 p1) → (((S 1092 0) + (1 : Int)) = (S 1092 0) + 1 ∧ (if (S 1092 0) = (S 1092 0) then p1 else (S 53 (S 1092 0))) = p1 ∧ (∀ k : Int, ¬ k = (S 1092 0) → (if k = (S 1092 0) then p1 else (S 53 k)) = (S 53 k)) ∧ (if (S 1092 0) = (S 1092 0) then p2 else (S 54 (S 1092 0))) = p2 ∧ (∀ k : Int, ¬ k = (S 1092 0) → (if k = (S 1092 0) then p2 else (S 54 k)) = (S 54 k)) ∧ (if (S 1092 0) = (S 1092 0) then p3 else (S 55 (S 1092 0))) = p3 ∧ (∀ k : Int, ¬ k = (S 1092 0) → (if k = (S 1092 0) then p3 else (S 55 k)) = (S 55 k)) ∧ (if (S 1092 0) = (S 1092 0) then p4 else (S 56 (S 1092 0))) = p4 ∧ (∀ k : Int, ¬ k = (S 1092 0) → (if k = (S 1092 0) then p4 else (S 56 k)) = (S 56 k)) ∧ (if (S 1092 0) = (S 1092 0) then (S 30 p1) else (S 57 (S 1092 0))) = (S 30 p1) ∧ (∀ k : Int, ¬ k = (S 1092 0) → (if k = (S 1092 0) then (S 30 p1) else (S 57 k)) = (S 57 k)) ∧ (if (S 1092 0) = (S 1092 0) then (0 : Int) else (S 58 (S 1092 0))) = 0 ∧ (∀ k : Int, ¬ k = (S 1092 0) → (if k = (S 1092 0) then (0 : Int) else (S 58 k)) = (S 58 k)) ∧ (if (S 1092 0) = (S 1092 0) then p5 else (S 59 (S 1092 0))) = p5 ∧ (∀ k : Int, ¬ k = (S 1092 0) → (if k = (S 1092 0) then p5 else (S 59 k)) = (S 59 k)) ∧ (if (S 1092 0) = (S 1092 0) then (0 : Int) else (S 60 (S 1092 0))) = 0 ∧ (∀ k : Int, ¬ k = (S 1092 0) → (if k = (S 1092 0) then (0 : Int) else (S 60 k)) = (S 60 k))))) := by
  intro p1
  intro p2
  intro p3
  intro p4
  intro p5
  intro S
  intro h1_
  intro h2_
  intro h3_
  intro h4_
  intro h5_
  intro h6_
  rintro ⟨h7_, ⟨h8_, ⟨h9_, h10_⟩⟩⟩
  intro h11_
  refine ⟨(la_enterFrame_0 h7_ h8_), ?_⟩
  refine ⟨(la_enterFrame_1 h7_ h8_), ?_⟩
  refine ⟨(la_enterFrame_2 h9_ h10_), ?_⟩
  intro h12_
  refine ⟨la_enterFrame_3, ?_⟩
  refine ⟨?_, ?_⟩
  · skip
    have e13_ : (if S 1092 0 = S 1092 0 then p1 else S 53 (S 1092 0) : Int) = p1 := if_pos la_enterFrame_4
    exact e13_
  refine ⟨?_, ?_⟩
  · skip
    intro k
    intro h14_
    have e15_ : (if k = S 1092 0 then p1 else S 53 k : Int) = S 53 k := if_neg h14_
    exact e15_
  refine ⟨?_, ?_⟩
  · skip
    have e16_ : (if S 1092 0 = S 1092 0 then p2 else S 54 (S 1092 0) : Int) = p2 := if_pos la_enterFrame_4
    exact e16_
  refine ⟨?_, ?_⟩
  · skip
    intro k
    intro h17_
    have e18_ : (if k = S 1092 0 then p2 else S 54 k : Int) = S 54 k := if_neg h17_
    exact e18_
  refine ⟨?_, ?_⟩
  · skip
    have e19_ : (if S 1092 0 = S 1092 0 then p3 else S 55 (S 1092 0) : Int) = p3 := if_pos la_enterFrame_4
    exact e19_
  refine ⟨?_, ?_⟩
  · skip
    intro k
    intro h20_
    have e21_ : (if k = S 1092 0 then p3 else S 55 k : Int) = S 55 k := if_neg h20_
    exact e21_
  refine ⟨?_, ?_⟩
  · skip
    have e22_ : (if S 1092 0 = S 1092 0 then p4 else S 56 (S 1092 0) : Int) = p4 := if_pos la_enterFrame_4
    exact e22_
  refine ⟨?_, ?_⟩
  · skip
    intro k
    intro h23_
    have e24_ : (if k = S 1092 0 then p4 else S 56 k : Int) = S 56 k := if_neg h23_
    exact e24_
  refine ⟨?_, ?_⟩
  · skip
    have e25_ : (if S 1092 0 = S 1092 0 then S 30 p1 else S 57 (S 1092 0) : Int) = S 30 p1 := if_pos la_enterFrame_4
    exact e25_
  refine ⟨?_, ?_⟩
  · skip
    intro k
    intro h26_
    have e27_ : (if k = S 1092 0 then S 30 p1 else S 57 k : Int) = S 57 k := if_neg h26_
    exact e27_
  refine ⟨?_, ?_⟩
  · skip
    have e28_ : (if S 1092 0 = S 1092 0 then 0 else S 58 (S 1092 0) : Int) = 0 := if_pos la_enterFrame_4
    exact e28_
  refine ⟨?_, ?_⟩
  · skip
    intro k
    intro h29_
    have e30_ : (if k = S 1092 0 then 0 else S 58 k : Int) = S 58 k := if_neg h29_
    exact e30_
  refine ⟨?_, ?_⟩
  · skip
    have e31_ : (if S 1092 0 = S 1092 0 then p5 else S 59 (S 1092 0) : Int) = p5 := if_pos la_enterFrame_4
    exact e31_
  refine ⟨?_, ?_⟩
  · skip
    intro k
    intro h32_
    have e33_ : (if k = S 1092 0 then p5 else S 59 k : Int) = S 59 k := if_neg h32_
    exact e33_
  refine ⟨?_, ?_⟩
  · skip
    have e34_ : (if S 1092 0 = S 1092 0 then 0 else S 60 (S 1092 0) : Int) = 0 := if_pos la_enterFrame_4
    exact e34_
  intro k
  intro h35_
  have e36_ : (if k = S 1092 0 then 0 else S 60 k : Int) = S 60 k := if_neg h35_
  exact e36_
set_option maxRecDepth 8000 in
set_option maxHeartbeats 2000000 in
theorem t_enterFrame : ∀ (p1 : Int) (p2 : Int) (p3 : Int) (p4 : Int) (p5 : Int) (S : sv_S), sm_ok S → sv_R p1 → sv_R p2 → sv_R p3 → sv_R p4 → sv_R p5 → (0 ≤ (S 1092 0) ∧ (S 1092 0) < 24 ∧ 0 ≤ p1 ∧ p1 ≤ 11) → sv_T sm_XS sm_cs sm_L sm_sh 0 (q_enterFrame p1 p2 p3 p4 p5 S) 148 0 (lv_args 0 [.ref 0, sv_I p1, sv_I p2, sv_I p3, sv_I p4, sv_I p5]) [] S := by
  intro p1 p2 p3 p4 p5 S hok hp1 hp2 hp3 hp4 hp5 hpre
  have h := f_enterFrame p1 p2 p3 p4 p5 S hok hp1 hp2 hp3 hp4 hp5 hpre
  have hM := sm_h148
  show sv_T sm_XS sm_cs sm_L sm_sh 0 (q_enterFrame p1 p2 p3 p4 p5 S) 148 0 [(0, .ref 0), (1, sv_I p1), (2, sv_I p2), (3, sv_I p3), (4, sv_I p4), (5, sv_I p5)] [] S
  refine sv_aload_n hM dX12_enterFrame_0 rfl rfl ?_
  have k1 : sv_R (S 1092 0) := sm_okI hok sm_r1092 0
  have h := h k1
  refine sv_getI hM dX12_enterFrame_1 sm_fl_872 (sm_a0 _) sm_k92 rfl (x := (S 1092 0)) rfl ?_
  refine sv_istore hM dX12_enterFrame_4 (by decide) rfl ?_
  show sv_T sm_XS sm_cs sm_L sm_sh 0 (q_enterFrame p1 p2 p3 p4 p5 S) 148 6 [(0, .ref 0), (1, sv_I p1), (2, sv_I p2), (3, sv_I p3), (4, sv_I p4), (5, sv_I p5), (6, sv_I (S 1092 0))] [] S
  refine sv_aload_n hM dX12_enterFrame_6 rfl rfl ?_
  refine sv_dupA hM dX12_enterFrame_7 rfl ?_
  refine sv_getI hM dX12_enterFrame_8 sm_fl_872 (sm_a0 _) sm_k92 rfl (x := (S 1092 0)) rfl ?_
  refine sv_iconst (d := (1 : Int)) hM dX12_enterFrame_11 rfl rfl ?_
  refine sv_iadd hM dX12_enterFrame_12 rfl ?_
  obtain ⟨o2, h⟩ := h
  refine sv_putI sm_X hM dX12_enterFrame_13 sm_fp_872 (sm_a0 _) sm_q92 (Or.inl rfl) rfl rfl rfl rfl ?_
  have ok3 : sm_ok (sv_up S 1092 0 ((S 1092 0) + (1 : Int))) := sm_upI hok sm_r1092 o2
  have md4 : sv_mod [1092, 53, 54, 55, 56, 57, 58, 59, 60] S (sv_up S 1092 0 ((S 1092 0) + (1 : Int))) := sv_mod.up sv_mod.rf (by decide)
  refine sv_aload_n hM dX12_enterFrame_16 rfl rfl ?_
  refine sv_getA hM dX12_enterFrame_17 sm_fl_170 (sm_a0 _) sm_k93 rfl ?_
  refine sv_iload hM dX12_enterFrame_20 rfl rfl ?_
  refine sv_iload_n hM dX12_enterFrame_22 rfl rfl ?_
  obtain ⟨o5, h⟩ := h
  refine sv_iast sm_X hM dX12_enterFrame_23 (sm_a53 _) (by decide) o5.1 o5.2 rfl ?_
  have ok6 : sm_ok (sv_up (sv_up S 1092 0 ((S 1092 0) + (1 : Int))) 53 (S 1092 0) p1) := sm_upI ok3 sm_r53 hp1
  have md7 : sv_mod [1092, 53, 54, 55, 56, 57, 58, 59, 60] S (sv_up (sv_up S 1092 0 ((S 1092 0) + (1 : Int))) 53 (S 1092 0) p1) := sv_mod.up md4 (by decide)
  refine sv_aload_n hM dX12_enterFrame_24 rfl rfl ?_
  refine sv_getA hM dX12_enterFrame_25 sm_fl_173 (sm_a0 _) sm_k94 rfl ?_
  refine sv_iload hM dX12_enterFrame_28 rfl rfl ?_
  refine sv_iload_n hM dX12_enterFrame_30 rfl rfl ?_
  refine sv_iast sm_X hM dX12_enterFrame_31 (sm_a54 _) (by decide) o5.1 o5.2 rfl ?_
  have ok8 : sm_ok (sv_up (sv_up (sv_up S 1092 0 ((S 1092 0) + (1 : Int))) 53 (S 1092 0) p1) 54 (S 1092 0) p2) := sm_upI ok6 sm_r54 hp2
  have md9 : sv_mod [1092, 53, 54, 55, 56, 57, 58, 59, 60] S (sv_up (sv_up (sv_up S 1092 0 ((S 1092 0) + (1 : Int))) 53 (S 1092 0) p1) 54 (S 1092 0) p2) := sv_mod.up md7 (by decide)
  refine sv_aload_n hM dX12_enterFrame_32 rfl rfl ?_
  refine sv_getA hM dX12_enterFrame_33 sm_fl_176 (sm_a0 _) sm_k95 rfl ?_
  refine sv_iload hM dX12_enterFrame_36 rfl rfl ?_
  refine sv_iload_n hM dX12_enterFrame_38 rfl rfl ?_
  refine sv_iast sm_X hM dX12_enterFrame_39 (sm_a55 _) (by decide) o5.1 o5.2 rfl ?_
  have ok10 : sm_ok (sv_up (sv_up (sv_up (sv_up S 1092 0 ((S 1092 0) + (1 : Int))) 53 (S 1092 0) p1) 54 (S 1092 0) p2) 55 (S 1092 0) p3) := sm_upI ok8 sm_r55 hp3
  have md11 : sv_mod [1092, 53, 54, 55, 56, 57, 58, 59, 60] S (sv_up (sv_up (sv_up (sv_up S 1092 0 ((S 1092 0) + (1 : Int))) 53 (S 1092 0) p1) 54 (S 1092 0) p2) 55 (S 1092 0) p3) := sv_mod.up md9 (by decide)
  refine sv_aload_n hM dX12_enterFrame_40 rfl rfl ?_
  refine sv_getA hM dX12_enterFrame_41 sm_fl_179 (sm_a0 _) sm_k96 rfl ?_
  refine sv_iload hM dX12_enterFrame_44 rfl rfl ?_
  refine sv_iload hM dX12_enterFrame_46 rfl rfl ?_
  refine sv_iast sm_X hM dX12_enterFrame_48 (sm_a56 _) (by decide) o5.1 o5.2 rfl ?_
  have ok12 : sm_ok (sv_up (sv_up (sv_up (sv_up (sv_up S 1092 0 ((S 1092 0) + (1 : Int))) 53 (S 1092 0) p1) 54 (S 1092 0) p2) 55 (S 1092 0) p3) 56 (S 1092 0) p4) := sm_upI ok10 sm_r56 hp4
  have md13 : sv_mod [1092, 53, 54, 55, 56, 57, 58, 59, 60] S (sv_up (sv_up (sv_up (sv_up (sv_up S 1092 0 ((S 1092 0) + (1 : Int))) 53 (S 1092 0) p1) 54 (S 1092 0) p2) 55 (S 1092 0) p3) 56 (S 1092 0) p4) := sv_mod.up md11 (by decide)
  refine sv_aload_n hM dX12_enterFrame_49 rfl rfl ?_
  refine sv_getA hM dX12_enterFrame_50 sm_fl_182 (sm_a0 _) sm_k97 rfl ?_
  refine sv_iload hM dX12_enterFrame_53 rfl rfl ?_
  refine sv_aload_n hM dX12_enterFrame_55 rfl rfl ?_
  refine sv_getA hM dX12_enterFrame_56 sm_fl_101 (sm_a0 _) sm_k52 rfl ?_
  refine sv_iload_n hM dX12_enterFrame_59 rfl rfl ?_
  obtain ⟨o14, h⟩ := h
  have k15 : sv_R (S 30 p1) := sm_okI ok12 sm_r30 p1
  have h := h k15
  refine sv_iald hM dX12_enterFrame_60 (sm_a30 _) (by decide) o14.1 o14.2 rfl (x := (S 30 p1)) rfl ?_
  refine sv_iast sm_X hM dX12_enterFrame_61 (sm_a57 _) (by decide) o5.1 o5.2 rfl ?_
  have ok16 : sm_ok (sv_up (sv_up (sv_up (sv_up (sv_up (sv_up S 1092 0 ((S 1092 0) + (1 : Int))) 53 (S 1092 0) p1) 54 (S 1092 0) p2) 55 (S 1092 0) p3) 56 (S 1092 0) p4) 57 (S 1092 0) (S 30 p1)) := sm_upI ok12 sm_r57 k15
  have md17 : sv_mod [1092, 53, 54, 55, 56, 57, 58, 59, 60] S (sv_up (sv_up (sv_up (sv_up (sv_up (sv_up S 1092 0 ((S 1092 0) + (1 : Int))) 53 (S 1092 0) p1) 54 (S 1092 0) p2) 55 (S 1092 0) p3) 56 (S 1092 0) p4) 57 (S 1092 0) (S 30 p1)) := sv_mod.up md13 (by decide)
  refine sv_aload_n hM dX12_enterFrame_62 rfl rfl ?_
  refine sv_getA hM dX12_enterFrame_63 sm_fl_185 (sm_a0 _) sm_k98 rfl ?_
  refine sv_iload hM dX12_enterFrame_66 rfl rfl ?_
  refine sv_iconst (d := (0 : Int)) hM dX12_enterFrame_68 rfl rfl ?_
  refine sv_iast sm_X hM dX12_enterFrame_69 (sm_a58 _) (by decide) o5.1 o5.2 rfl ?_
  have ok18 : sm_ok (sv_up (sv_up (sv_up (sv_up (sv_up (sv_up (sv_up S 1092 0 ((S 1092 0) + (1 : Int))) 53 (S 1092 0) p1) 54 (S 1092 0) p2) 55 (S 1092 0) p3) 56 (S 1092 0) p4) 57 (S 1092 0) (S 30 p1)) 58 (S 1092 0) (0 : Int)) := sm_upI ok16 sm_r58 (⟨by decide, by decide⟩ : sv_R (0 : Int))
  have md19 : sv_mod [1092, 53, 54, 55, 56, 57, 58, 59, 60] S (sv_up (sv_up (sv_up (sv_up (sv_up (sv_up (sv_up S 1092 0 ((S 1092 0) + (1 : Int))) 53 (S 1092 0) p1) 54 (S 1092 0) p2) 55 (S 1092 0) p3) 56 (S 1092 0) p4) 57 (S 1092 0) (S 30 p1)) 58 (S 1092 0) (0 : Int)) := sv_mod.up md17 (by decide)
  refine sv_aload_n hM dX12_enterFrame_70 rfl rfl ?_
  refine sv_getA hM dX12_enterFrame_71 sm_fl_188 (sm_a0 _) sm_k99 rfl ?_
  refine sv_iload hM dX12_enterFrame_74 rfl rfl ?_
  refine sv_iload hM dX12_enterFrame_76 rfl rfl ?_
  refine sv_iast sm_X hM dX12_enterFrame_78 (sm_a59 _) (by decide) o5.1 o5.2 rfl ?_
  have ok20 : sm_ok (sv_up (sv_up (sv_up (sv_up (sv_up (sv_up (sv_up (sv_up S 1092 0 ((S 1092 0) + (1 : Int))) 53 (S 1092 0) p1) 54 (S 1092 0) p2) 55 (S 1092 0) p3) 56 (S 1092 0) p4) 57 (S 1092 0) (S 30 p1)) 58 (S 1092 0) (0 : Int)) 59 (S 1092 0) p5) := sm_upI ok18 sm_r59 hp5
  have md21 : sv_mod [1092, 53, 54, 55, 56, 57, 58, 59, 60] S (sv_up (sv_up (sv_up (sv_up (sv_up (sv_up (sv_up (sv_up S 1092 0 ((S 1092 0) + (1 : Int))) 53 (S 1092 0) p1) 54 (S 1092 0) p2) 55 (S 1092 0) p3) 56 (S 1092 0) p4) 57 (S 1092 0) (S 30 p1)) 58 (S 1092 0) (0 : Int)) 59 (S 1092 0) p5) := sv_mod.up md19 (by decide)
  refine sv_aload_n hM dX12_enterFrame_79 rfl rfl ?_
  refine sv_getA hM dX12_enterFrame_80 sm_fl_191 (sm_a0 _) sm_k100 rfl ?_
  refine sv_iload hM dX12_enterFrame_83 rfl rfl ?_
  refine sv_iconst (d := (0 : Int)) hM dX12_enterFrame_85 rfl rfl ?_
  refine sv_iast sm_X hM dX12_enterFrame_86 (sm_a60 _) (by decide) o5.1 o5.2 rfl ?_
  have ok22 : sm_ok (sv_up (sv_up (sv_up (sv_up (sv_up (sv_up (sv_up (sv_up (sv_up S 1092 0 ((S 1092 0) + (1 : Int))) 53 (S 1092 0) p1) 54 (S 1092 0) p2) 55 (S 1092 0) p3) 56 (S 1092 0) p4) 57 (S 1092 0) (S 30 p1)) 58 (S 1092 0) (0 : Int)) 59 (S 1092 0) p5) 60 (S 1092 0) (0 : Int)) := sm_upI ok20 sm_r60 (⟨by decide, by decide⟩ : sv_R (0 : Int))
  have md23 : sv_mod [1092, 53, 54, 55, 56, 57, 58, 59, 60] S (sv_up (sv_up (sv_up (sv_up (sv_up (sv_up (sv_up (sv_up (sv_up S 1092 0 ((S 1092 0) + (1 : Int))) 53 (S 1092 0) p1) 54 (S 1092 0) p2) 55 (S 1092 0) p3) 56 (S 1092 0) p4) 57 (S 1092 0) (S 30 p1)) 58 (S 1092 0) (0 : Int)) 59 (S 1092 0) p5) 60 (S 1092 0) (0 : Int)) := sv_mod.up md21 (by decide)
  exact sv_vret hM dX12_enterFrame_87 rfl ⟨rfl, ok22, md23, h⟩
def q_scopeAt (p1 : Int) (S : sv_S) : Option Value → sv_S → Prop := fun v S' => ∃ r : Int, v = some (sv_I r) ∧ sv_R r ∧ sm_ok S' ∧ sv_mod [] S S' ∧ (0 ≤ r ∧ r < (S' 1076 0) ∧ (S' 1100029 r) = sm_ua (S' 21) ((S' 53 ((S' 1092 0) - 1))) (p1))
theorem la_scopeAt_0 {x0 : Int} (h0 : 1 ≤ x0) (h1 : x0 ≤ 24) : 0 ≤ x0 - 1 ∧ x0 - 1 < 24 := by omega
theorem la_scopeAt_1 : (0 : Int) ≤ 0 := by omega
theorem la_scopeAt_2 {x0 x1 : Int} (h0 : x0 = x1) : x1 = x0 := by omega
theorem la_scopeAt_3 {x0 x1 : Int} (h0 : x0 ≤ x1) : 0 ≤ x1 - x0 := by omega
theorem la_scopeAt_4 {x0 x1 : Int} (h0 : x0 ≤ x1) (h1 : x1 ≤ x0) : x1 = x0 := by omega
theorem la_scopeAt_5 {x0 x1 x2 : Int} (h0 : x0 = x1) (h1 : x2 = x1) : x0 = x2 := by omega
theorem la_scopeAt_6 {x0 x1 : Int} (h0 : x0 ≤ 300) (h1 : 0 ≤ x1) (h2 : x1 < x0) : 0 ≤ x1 ∧ x1 < 300 := by omega
theorem la_scopeAt_7 {x0 x1 : Int} (h0 : sv_R x0) (h1 : 0 ≤ x1) (h2 : ¬ x0 ≤ x1) : sv_R (x1 + 1) := by omega
theorem la_scopeAt_8 {x0 : Int} (h0 : 0 ≤ x0) : 0 ≤ x0 + 1 := by omega
theorem la_scopeAt_9 {x0 x1 : Int} (h0 : ¬ x0 ≤ x1) : x1 + 1 ≤ x0 := by omega
theorem la_scopeAt_10 {x0 x1 : Int} : x0 - (x1 + 1) < x0 - x1 := by omega
set_option maxHeartbeats 2000000 in
theorem f_scopeAt : ∀ (p1 : Int) (S : sv_S), sm_ok S → sv_R p1 → (1 ≤ (S 1092 0) ∧ (S 1092 0) ≤ 24 ∧ 0 ≤ p1 ∧ (S 1076 0) ≤ 300 ∧ sm_SC (S 1100029) (S 44) (S 45) (S 43) (S 21) (S 1076 0) (S 1032 0) ∧ sm_LK (S 1100029) (S 1076 0) (S 54 ((S 1092 0) - 1)) (S 53 ((S 1092 0) - 1)) ∧ sm_UA (S 21) (S 53 ((S 1092 0) - 1)) p1) → ((sm_LK (S 1100029) (S 1076 0) (S 54 ((S 1092 0) - 1)) (S 53 ((S 1092 0) - 1)) → sm_LK (S 1100029) (S 1076 0) ((S 54 ((S 1092 0) - 1))) (sm_ua (S 21) ((S 53 ((S 1092 0) - 1))) (0))) → (sv_R (S 1092 0) → (0 ≤ ((S 1092 0) - (1 : Int)) ∧ ((S 1092 0) - (1 : Int)) < 24) ∧ (sv_R (S 54 ((S 1092 0) - (1 : Int))) → (∀ x5 : Int, (S 54 ((S 1092 0) - (1 : Int))) = x5 → ((0 ≤ (0 : Int) ∧ (0 : Int) ≤ p1 ∧ sm_LK (S 1100029) (S 1076 0) (x5) (sm_ua (S 21) ((S 53 ((S 1092 0) - 1))) ((0 : Int)))) ∧ (∀ l2_7 : Int, sv_R l2_7 → ∀ l3_8 : Int, sv_R l3_8 → (0 ≤ l3_8 ∧ l3_8 ≤ p1 ∧ sm_LK (S 1100029) (S 1076 0) (l2_7) (sm_ua (S 21) ((S 53 ((S 1092 0) - 1))) (l3_8))) → (0 ≤ p1 - l3_8) ∧ (((p1 ≤ l3_8) → ((sm_UA (S 21) (S 53 ((S 1092 0) - 1)) p1 → 0 ≤ l3_8 → l3_8 ≤ p1 → 1 ≤ sm_ua (S 21) ((S 53 ((S 1092 0) - 1))) (l3_8)) → ((sm_LK (S 1100029) (S 1076 0) (l2_7) (sm_ua (S 21) ((S 53 ((S 1092 0) - 1))) (l3_8)) → 1 ≤ sm_ua (S 21) ((S 53 ((S 1092 0) - 1))) (l3_8) → 0 ≤ l2_7 ∧ l2_7 < (S 1076 0) ∧ (S 1100029 l2_7) = sm_ua (S 21) ((S 53 ((S 1092 0) - 1))) (l3_8)) → (0 ≤ l2_7 ∧ l2_7 < (S 1076 0) ∧ (S 1100029 l2_7) = sm_ua (S 21) ((S 53 ((S 1092 0) - 1))) (p1))))) ∧ ((¬ (p1 ≤ l3_8)) → ((sm_UA (S 21) (S 53 ((S 1092 0) - 1)) p1 → 0 ≤ l3_8 → l3_8 ≤ p1 → 1 ≤ sm_ua (S 21) ((S 53 ((S 1092 0) - 1))) (l3_8)) → ((sm_LK (S 1100029) (S 1076 0) (l2_7) (sm_ua (S 21) ((S 53 ((S 1092 0) - 1))) (l3_8)) → 1 ≤ sm_ua (S 21) ((S 53 ((S 1092 0) - 1))) (l3_8) → 0 ≤ l2_7 ∧ l2_7 < (S 1076 0) ∧ (S 1100029 l2_7) = sm_ua (S 21) ((S 53 ((S 1092 0) - 1))) (l3_8)) → ((sm_SC (S 1100029) (S 44) (S 45) (S 43) (S 21) (S 1076 0) (S 1032 0) → 0 ≤ l2_7 → l2_7 < (S 1076 0) → (S 1100029 l2_7) = sm_ua (S 21) ((S 53 ((S 1092 0) - 1))) (l3_8) → 1 ≤ sm_ua (S 21) ((S 53 ((S 1092 0) - 1))) (l3_8) → sm_LK (S 1100029) (S 1076 0) ((S 43 l2_7)) ((S 21 (sm_ua (S 21) ((S 53 ((S 1092 0) - 1))) (l3_8))))) → ((0 ≤ l3_8 → sm_ua (S 21) ((S 53 ((S 1092 0) - 1))) (l3_8 + 1) = (S 21 (sm_ua (S 21) ((S 53 ((S 1092 0) - 1))) (l3_8)))) → (0 ≤ l2_7 ∧ l2_7 < 300) ∧ (sv_R (S 43 l2_7) → (sv_R (l3_8 + (1 : Int))) ∧ ((0 ≤ (l3_8 + (1 : Int)) ∧ (l3_8 + (1 : Int)) ≤ p1 ∧ sm_LK (S 1100029) (S 1076 0) ((S 43 l2_7)) (sm_ua (S 21) ((S 53 ((S 1092 0) - 1))) ((l3_8 + (1 : Int))))) ∧ (p1 - (l3_8 + (1 : Int))) < (p1 - l3_8))))))))))))))) := by
  intro p1
  intro S
  intro h1_
  intro h2_
  rintro ⟨h3_, ⟨h4_, ⟨h5_, ⟨h6_, ⟨h7_, ⟨h8_, h9_⟩⟩⟩⟩⟩⟩
  intro h10_
  have h11_ := (h10_ h8_)
  intro h12_
  refine ⟨(la_scopeAt_0 h3_ h4_), ?_⟩
  intro h13_
  intro x5
  intro h14_
  refine ⟨⟨la_scopeAt_1, ⟨h5_, (sm_LK_q h11_ (la_scopeAt_2 h14_) rfl)⟩⟩, ?_⟩
  intro l2_7
  intro h15_
  intro l3_8
  intro h16_
  rintro ⟨h17_, ⟨h18_, h19_⟩⟩
  refine ⟨(la_scopeAt_3 h18_), ?_⟩
  refine ⟨?_, ?_⟩
  · skip
    intro h20_
    intro h21_
    have h22_ := (h21_ h9_)
    have h23_ := (h22_ h17_)
    have h24_ := (h23_ h18_)
    intro h25_
    have h26_ := (h25_ h19_)
    obtain ⟨h27_, ⟨h28_, h29_⟩⟩ := (h26_ h24_)
    refine ⟨h27_, ?_⟩
    refine ⟨h28_, ?_⟩
    have e30_ : sm_ua (S 21) (S 53 (S 1092 0 - 1)) p1 = sm_ua (S 21) (S 53 (S 1092 0 - 1)) l3_8 := congrArg ((sm_ua (S 21) (S 53 (S 1092 0 - 1)))) (la_scopeAt_4 h18_ h20_)
    exact (la_scopeAt_5 h29_ e30_)
  intro h31_
  intro h32_
  have h33_ := (h32_ h9_)
  have h34_ := (h33_ h17_)
  have h35_ := (h34_ h18_)
  intro h36_
  have h37_ := (h36_ h19_)
  obtain ⟨h38_, ⟨h39_, h40_⟩⟩ := (h37_ h35_)
  intro h41_
  have h42_ := (h41_ h7_)
  have h43_ := (h42_ h38_)
  have h44_ := (h43_ h39_)
  have h45_ := (h44_ h40_)
  have h46_ := (h45_ h35_)
  intro h47_
  have h48_ := (h47_ h17_)
  refine ⟨(la_scopeAt_6 h6_ h38_ h39_), ?_⟩
  intro h49_
  refine ⟨(la_scopeAt_7 h2_ h17_ h31_), ?_⟩
  refine ⟨⟨(la_scopeAt_8 h17_), ⟨(la_scopeAt_9 h31_), (sm_LK_q h46_ rfl h48_)⟩⟩, ?_⟩
  exact la_scopeAt_10
set_option maxRecDepth 8000 in
set_option maxHeartbeats 2000000 in
theorem t_scopeAt : ∀ (p1 : Int) (S : sv_S), sm_ok S → sv_R p1 → (1 ≤ (S 1092 0) ∧ (S 1092 0) ≤ 24 ∧ 0 ≤ p1 ∧ (S 1076 0) ≤ 300 ∧ sm_SC (S 1100029) (S 44) (S 45) (S 43) (S 21) (S 1076 0) (S 1032 0) ∧ sm_LK (S 1100029) (S 1076 0) (S 54 ((S 1092 0) - 1)) (S 53 ((S 1092 0) - 1)) ∧ sm_UA (S 21) (S 53 ((S 1092 0) - 1)) p1) → sv_T sm_XS sm_cs sm_L sm_sh 0 (q_scopeAt p1 S) 159 0 (lv_args 0 [.ref 0, sv_I p1]) [] S := by
  intro p1 S hok hp1 hpre
  have h := f_scopeAt p1 S hok hp1 hpre
  have hM := sm_h159
  show sv_T sm_XS sm_cs sm_L sm_sh 0 (q_scopeAt p1 S) 159 0 [(0, .ref 0), (1, sv_I p1)] [] S
  have k1 : (sm_LK (S 1100029) (S 1076 0) (S 54 ((S 1092 0) - 1)) (S 53 ((S 1092 0) - 1)) → sm_LK (S 1100029) (S 1076 0) ((S 54 ((S 1092 0) - 1))) (sm_ua (S 21) ((S 53 ((S 1092 0) - 1))) (0))) := fun h => h
  have h := h k1
  refine sv_aload_n hM dX12_scopeAt_0 rfl rfl ?_
  refine sv_getA hM dX12_scopeAt_1 sm_fl_173 (sm_a0 _) sm_k94 rfl ?_
  refine sv_aload_n hM dX12_scopeAt_4 rfl rfl ?_
  have k2 : sv_R (S 1092 0) := sm_okI hok sm_r1092 0
  have h := h k2
  refine sv_getI hM dX12_scopeAt_5 sm_fl_872 (sm_a0 _) sm_k92 rfl (x := (S 1092 0)) rfl ?_
  refine sv_iconst (d := (1 : Int)) hM dX12_scopeAt_8 rfl rfl ?_
  refine sv_isub hM dX12_scopeAt_9 rfl ?_
  obtain ⟨o3, h⟩ := h
  have k4 : sv_R (S 54 ((S 1092 0) - (1 : Int))) := sm_okI hok sm_r54 ((S 1092 0) - (1 : Int))
  have h := h k4
  refine sv_iald hM dX12_scopeAt_10 (sm_a54 _) (by decide) o3.1 o3.2 rfl (x := (S 54 ((S 1092 0) - (1 : Int)))) rfl ?_
  obtain ⟨x5, e6⟩ : ∃ x : Int, (S 54 ((S 1092 0) - (1 : Int))) = x := ⟨_, rfl⟩
  have h := h x5 e6
  have e6r : sv_R x5 := e6 ▸ k4
  refine sv_nameI e6 ?_
  refine sv_istore_n hM dX12_scopeAt_11 (by decide) rfl ?_
  show sv_T sm_XS sm_cs sm_L sm_sh 0 (q_scopeAt p1 S) 159 12 [(0, .ref 0), (1, sv_I p1), (2, sv_I x5)] [] S
  refine sv_iconst (d := (0 : Int)) hM dX12_scopeAt_12 rfl rfl ?_
  refine sv_istore_n hM dX12_scopeAt_13 (by decide) rfl ?_
  show sv_T sm_XS sm_cs sm_L sm_sh 0 (q_scopeAt p1 S) 159 14 [(0, .ref 0), (1, sv_I p1), (2, sv_I x5), (3, sv_I (0 : Int))] [] S
  obtain ⟨hin10, h⟩ := h
  have hJ : ∀ a : Int × Int × Unit, (sv_R a.1 ∧ sv_R a.2.1 ∧ sm_ok S ∧ (0 ≤ a.2.1 ∧ a.2.1 ≤ p1 ∧ sm_LK (S 1100029) (S 1076 0) (a.1) (sm_ua (S 21) ((S 53 ((S 1092 0) - 1))) (a.2.1)))) → sv_T sm_XS sm_cs sm_L sm_sh 0 (q_scopeAt p1 S) 159 14 [(0, .ref 0), (1, sv_I p1), (2, sv_I a.1), (3, sv_I a.2.1)] [] S := by
    refine sv_loop (α := Int × Int × Unit) (fun a => sv_R a.1 ∧ sv_R a.2.1 ∧ sm_ok S ∧ (0 ≤ a.2.1 ∧ a.2.1 ≤ p1 ∧ sm_LK (S 1100029) (S 1076 0) (a.1) (sm_ua (S 21) ((S 53 ((S 1092 0) - 1))) (a.2.1)))) (fun a => p1 - a.2.1) (fun a => sv_T sm_XS sm_cs sm_L sm_sh 0 (q_scopeAt p1 S) 159 14 [(0, .ref 0), (1, sv_I p1), (2, sv_I a.1), (3, sv_I a.2.1)] [] S) (fun a q => (h a.1 q.1 a.2.1 q.2.1 q.2.2.2).1) (fun a q ih9 => ?_)
    obtain ⟨l2_7, l3_8, _u⟩ := a
    obtain ⟨hl2_7, hl3_8, ok11, hin10i⟩ := q
    have h := (h l2_7 hl2_7 l3_8 hl3_8 hin10i).2
    show sv_T sm_XS sm_cs sm_L sm_sh 0 (q_scopeAt p1 S) 159 14 [(0, .ref 0), (1, sv_I p1), (2, sv_I l2_7), (3, sv_I l3_8)] [] S
    refine sv_iload_n hM dX12_scopeAt_14 rfl rfl ?_
    refine sv_iload_n hM dX12_scopeAt_15 rfl rfl ?_
    refine sv_icmp_ge hM dX12_scopeAt_16 hl3_8 hp1 (t := 32) rfl rfl (fun hc => ?_) (fun hc => ?_)
    · have h := h.1 (hc)
      have k12 : (sm_UA (S 21) (S 53 ((S 1092 0) - 1)) p1 → 0 ≤ l3_8 → l3_8 ≤ p1 → 1 ≤ sm_ua (S 21) ((S 53 ((S 1092 0) - 1))) (l3_8)) := fun h a b => sm_UA_at h _ a b
      have h := h k12
      have k13 : (sm_LK (S 1100029) (S 1076 0) (l2_7) (sm_ua (S 21) ((S 53 ((S 1092 0) - 1))) (l3_8)) → 1 ≤ sm_ua (S 21) ((S 53 ((S 1092 0) - 1))) (l3_8) → 0 ≤ l2_7 ∧ l2_7 < (S 1076 0) ∧ (S 1100029 l2_7) = sm_ua (S 21) ((S 53 ((S 1092 0) - 1))) (l3_8)) := fun h a => sm_LK_1 h a
      have h := h k13
      refine sv_iload_n hM dX12_scopeAt_32 rfl rfl ?_
      exact sv_iret hM dX12_scopeAt_33 rfl rfl ⟨l2_7, rfl, hl2_7, ok11, sv_mod.rf, h⟩
    · have h := h.2 (hc)
      have k14 : (sm_UA (S 21) (S 53 ((S 1092 0) - 1)) p1 → 0 ≤ l3_8 → l3_8 ≤ p1 → 1 ≤ sm_ua (S 21) ((S 53 ((S 1092 0) - 1))) (l3_8)) := fun h a b => sm_UA_at h _ a b
      have h := h k14
      have k15 : (sm_LK (S 1100029) (S 1076 0) (l2_7) (sm_ua (S 21) ((S 53 ((S 1092 0) - 1))) (l3_8)) → 1 ≤ sm_ua (S 21) ((S 53 ((S 1092 0) - 1))) (l3_8) → 0 ≤ l2_7 ∧ l2_7 < (S 1076 0) ∧ (S 1100029 l2_7) = sm_ua (S 21) ((S 53 ((S 1092 0) - 1))) (l3_8)) := fun h a => sm_LK_1 h a
      have h := h k15
      have k16 : (sm_SC (S 1100029) (S 44) (S 45) (S 43) (S 21) (S 1076 0) (S 1032 0) → 0 ≤ l2_7 → l2_7 < (S 1076 0) → (S 1100029 l2_7) = sm_ua (S 21) ((S 53 ((S 1092 0) - 1))) (l3_8) → 1 ≤ sm_ua (S 21) ((S 53 ((S 1092 0) - 1))) (l3_8) → sm_LK (S 1100029) (S 1076 0) ((S 43 l2_7)) ((S 21 (sm_ua (S 21) ((S 53 ((S 1092 0) - 1))) (l3_8))))) := fun h a b e g => e ▸ (sm_SC_s h a b (e ▸ g)).2
      have h := h k16
      have k17 : (0 ≤ l3_8 → sm_ua (S 21) ((S 53 ((S 1092 0) - 1))) (l3_8 + 1) = (S 21 (sm_ua (S 21) ((S 53 ((S 1092 0) - 1))) (l3_8)))) := fun h => sm_ua_s h rfl
      have h := h k17
      refine sv_aload_n hM dX12_scopeAt_19 rfl rfl ?_
      refine sv_getA hM dX12_scopeAt_20 sm_fl_140 (sm_a0 _) sm_k79 rfl ?_
      refine sv_iload_n hM dX12_scopeAt_23 rfl rfl ?_
      obtain ⟨o18, h⟩ := h
      have k19 : sv_R (S 43 l2_7) := sm_okI ok11 sm_r43 l2_7
      have h := h k19
      refine sv_iald hM dX12_scopeAt_24 (sm_a43 _) (by decide) o18.1 o18.2 rfl (x := (S 43 l2_7)) rfl ?_
      refine sv_istore_n hM dX12_scopeAt_25 (by decide) rfl ?_
      show sv_T sm_XS sm_cs sm_L sm_sh 0 (q_scopeAt p1 S) 159 26 [(0, .ref 0), (1, sv_I p1), (2, sv_I (S 43 l2_7)), (3, sv_I l3_8)] [] S
      refine sv_iinc (d := (1 : Int)) hM dX12_scopeAt_26 rfl (by decide) rfl rfl ?_
      show sv_T sm_XS sm_cs sm_L sm_sh 0 (q_scopeAt p1 S) 159 29 [(0, .ref 0), (1, sv_I p1), (2, sv_I (S 43 l2_7)), (3, sv_I (l3_8 + (1 : Int)))] [] S
      refine sv_goto hM dX12_scopeAt_29 (pc' := 14) rfl ?_
      obtain ⟨o20, h⟩ := h
      have hb := ih9 ((S 43 l2_7), (l3_8 + (1 : Int)), ()) ⟨k19, o20, ok11, h.1⟩ h.2
      exact sv_less (lv := [(0, .ref 0), (1, sv_I p1), (2, sv_I (S 43 l2_7)), (3, sv_I (l3_8 + (1 : Int)))]) (sv_Sub_cons rfl (sv_Sub_cons rfl (sv_Sub_cons rfl (sv_Sub_cons rfl sv_Sub_nil)))) hb
  exact hJ (x5, (0 : Int), ()) ⟨e6r, (⟨by decide, by decide⟩ : sv_R (0 : Int)), hok, hin10⟩
def q_under (p1 : Int) (p2 : Int) (S : sv_S) : Option Value → sv_S → Prop := fun v S' => v = none ∧ sm_ok S' ∧ sv_mod [63, 64, 58] S S' ∧ ((S' 58 ((S' 1092 0) - 1)) = (S 58 ((S' 1092 0) - 1)) + 1 ∧ (∀ k : Int, ¬ k = (S' 1092 0) - 1 → (S' 58 k) = (S 58 k)) ∧ sm_F1 (S 63) (S' 63) ((400 * ((S 1092 0) - 1) + (S 58 ((S 1092 0) - 1))) - 3) ∧ (S' 63 (400 * ((S 1092 0) - 1) + (S 58 ((S 1092 0) - 1)))) = p1 ∧ (S' 63 ((400 * ((S 1092 0) - 1) + (S 58 ((S 1092 0) - 1))) - 1)) = (S 63 ((400 * ((S 1092 0) - 1) + (S 58 ((S 1092 0) - 1))) - 2)) ∧ (S' 63 ((400 * ((S 1092 0) - 1) + (S 58 ((S 1092 0) - 1))) - 2)) = (S 63 ((400 * ((S 1092 0) - 1) + (S 58 ((S 1092 0) - 1))) - 3)) ∧ (S' 63 ((400 * ((S 1092 0) - 1) + (S 58 ((S 1092 0) - 1))) - 3)) = p1 ∧ sm_F1 (S 64) (S' 64) ((400 * ((S 1092 0) - 1) + (S 58 ((S 1092 0) - 1))) - 3) ∧ (S' 64 (400 * ((S 1092 0) - 1) + (S 58 ((S 1092 0) - 1)))) = p2 ∧ (S' 64 ((400 * ((S 1092 0) - 1) + (S 58 ((S 1092 0) - 1))) - 1)) = (S 64 ((400 * ((S 1092 0) - 1) + (S 58 ((S 1092 0) - 1))) - 2)) ∧ (S' 64 ((400 * ((S 1092 0) - 1) + (S 58 ((S 1092 0) - 1))) - 2)) = (S 64 ((400 * ((S 1092 0) - 1) + (S 58 ((S 1092 0) - 1))) - 3)) ∧ (S' 64 ((400 * ((S 1092 0) - 1) + (S 58 ((S 1092 0) - 1))) - 3)) = p2)
theorem la_under_0 {x0 x1 : Int} (h0 : 1 ≤ x0) (h1 : x0 ≤ 24) (h2 : 3 ≤ x1) (h3 : x1 < 400) : 1 ≤ x0 ∧ x0 ≤ 24 ∧ 0 ≤ x1 ∧ x1 ≤ 400 := by omega
theorem la_under_1 : (0 : Int) ≤ 0 := by omega
theorem la_under_2 : (0 : Int) ≤ 2 := by omega
theorem la_under_3 {x0 x1 : Int} : (1 : Int) ≤ 0 → x0 = x1 := by omega
theorem la_under_4 {x0 : Int} : (0 : Int) ≤ 1 → x0 = x0 := by omega
theorem la_under_5 {x0 x1 : Int} : (2 : Int) ≤ 0 → x0 = x1 := by omega
theorem la_under_6 {x0 x1 x2 : Int} : ((1 : Int) ≤ 0 → x0 = x1) ∧ ((0 : Int) ≤ 1 → x1 = x1) ∧ ((2 : Int) ≤ 0 → x1 = x2) := by omega
theorem la_under_7 {x0 : Int} (h0 : x0 ≤ 2) : 0 ≤ 2 - x0 := by omega
theorem la_under_8 {x0 : Int} (h0 : 2 ≤ x0) : 1 ≤ x0 := by omega
theorem la_under_9 {x0 : Int} (h0 : 2 ≤ x0) : ¬ x0 ≤ 1 := by omega
theorem la_under_10 {x0 x1 x2 : Int} (h0 : 1 ≤ x0) (h1 : x0 ≤ 24) (h2 : 3 ≤ x1) (h3 : x1 < 400) (h4 : 400 * (x0 - 1) + x1 = x2) : 0 ≤ x2 - 3 ∧ x2 - 3 < 9600 := by omega
theorem la_under_11 {x0 x1 : Int} (h0 : 1 ≤ x0) (h1 : x0 ≤ 24) (h2 : 3 ≤ x1) (h3 : x1 < 400) : 1 ≤ x0 ∧ x0 ≤ 24 ∧ 0 ≤ x1 ∧ x1 ≤ 400 ∧ x1 < 400 := by omega
theorem la_under_12 {x0 x1 : Int} : 400 * (x0 - 1) + x1 - 3 ≤ 400 * (x0 - 1) + x1 := by omega
theorem la_under_13 {x0 x1 : Int} : 400 * (x0 - 1) + x1 - 3 ≤ 400 * (x0 - 1) + x1 - 2 := by omega
theorem la_under_14 {x0 x1 x2 : Int} (h0 : 400 * (x0 - 1) + x1 = x2) : 400 * (x0 - 1) + x1 - 3 ≤ x2 - 3 := by omega
theorem la_under_15 {x0 x1 : Int} : ¬ 400 * (x0 - 1) + x1 - 1 = 400 * (x0 - 1) + x1 := by omega
theorem la_under_16 {x0 x1 : Int} : ¬ 400 * (x0 - 1) + x1 - 2 = 400 * (x0 - 1) + x1 := by omega
theorem la_under_17 {x0 x1 x2 : Int} (h0 : 400 * (x0 - 1) + x1 = x2) : ¬ 400 * (x0 - 1) + x1 - 2 = x2 - 3 := by omega
theorem la_under_18 {x0 x1 x2 : Int} (h0 : 400 * (x0 - 1) + x1 = x2) : ¬ 400 * (x0 - 1) + x1 = x2 - 3 := by omega
theorem la_under_19 {x0 x1 x2 : Int} (h0 : 400 * (x0 - 1) + x1 = x2) : ¬ 400 * (x0 - 1) + x1 - 1 = x2 - 3 := by omega
theorem la_under_20 {x0 : Int} : ¬ ¬ x0 - 1 = x0 - 1 := by omega
theorem la_under_21 {x0 x1 : Int} : ¬ ¬ 400 * (x0 - 1) + x1 = 400 * (x0 - 1) + x1 := by omega
theorem la_under_22 {x0 x1 x2 x3 : Int} (h0 : x0 = x1) (h1 : x2 = x3) (h2 : x3 = x0) : x2 = x1 := by omega
theorem la_under_23 {x0 x1 : Int} : ¬ 400 * (x0 - 1) + x1 - 3 = 400 * (x0 - 1) + x1 := by omega
theorem la_under_24 {x0 x1 x2 : Int} (h0 : 400 * (x0 - 1) + x1 = x2) : 400 * (x0 - 1) + x1 - 3 = x2 - 3 := by omega
theorem la_under_25 {x0 x1 x2 : Int} (h0 : x0 = x1) (h1 : x1 = x2) : x0 = x2 := by omega
theorem la_under_26 {x0 : Int} (h0 : ¬ 2 ≤ x0) : x0 ≤ 1 := by omega
theorem la_under_27 {x0 x1 x2 x3 : Int} (h0 : 1 ≤ x0) (h1 : x0 ≤ 24) (h2 : 3 ≤ x1) (h3 : x1 < 400) (h4 : 400 * (x0 - 1) + x1 = x2) (h5 : 0 ≤ x3) (h6 : ¬ 2 ≤ x3) : 0 ≤ x2 - 2 - x3 ∧ x2 - 2 - x3 < 9600 := by omega
theorem la_under_28 {x0 x1 x2 x3 : Int} (h0 : 1 ≤ x0) (h1 : x0 ≤ 24) (h2 : 3 ≤ x1) (h3 : x1 < 400) (h4 : 400 * (x0 - 1) + x1 = x2) (h5 : 0 ≤ x3) (h6 : ¬ 2 ≤ x3) : 0 ≤ x2 - 1 - x3 ∧ x2 - 1 - x3 < 9600 := by omega
theorem la_under_29 {x0 : Int} (h0 : 0 ≤ x0) (h1 : ¬ 2 ≤ x0) : sv_R (x0 + 1) := by omega
theorem la_under_30 {x0 : Int} (h0 : 0 ≤ x0) : 0 ≤ x0 + 1 := by omega
theorem la_under_31 {x0 : Int} (h0 : ¬ 2 ≤ x0) : x0 + 1 ≤ 2 := by omega
theorem la_under_32 {x0 x1 x2 x3 : Int} (h0 : 400 * (x0 - 1) + x1 = x2) (h1 : ¬ 2 ≤ x3) : 400 * (x0 - 1) + x1 - 2 ≤ x2 - 1 - x3 := by omega
theorem la_under_33 {x0 x1 x2 x3 : Int} (h0 : 400 * (x0 - 1) + x1 = x2) (h1 : 400 * (x0 - 1) + x1 - 1 = x2 - 1 - x3) : ¬ 1 ≤ x3 := by omega
theorem la_under_34 {x0 x1 x2 x3 : Int} (h0 : 400 * (x0 - 1) + x1 - 1 = x2 - 1 - x3) : x2 - 2 - x3 = 400 * (x0 - 1) + x1 - 2 := by omega
theorem la_under_35 {x0 x1 x2 x3 : Int} (h0 : 400 * (x0 - 1) + x1 = x2) (h1 : 0 ≤ x3) : x2 - 1 - x3 ≤ 400 * (x0 - 1) + x1 - 1 := by omega
theorem la_under_36 {x0 x1 x2 x3 : Int} (h0 : x0 - 1 - x1 ≤ 400 * (x2 - 1) + x3 - 1) (h1 : ¬ 400 * (x2 - 1) + x3 - 1 = x0 - 1 - x1) : x0 - 1 - x1 < 400 * (x2 - 1) + x3 - 1 := by omega
theorem la_under_37 {x0 x1 x2 x3 : Int} (h0 : 400 * (x0 - 1) + x1 = x2) (h1 : x2 - 1 - x3 < 400 * (x0 - 1) + x1 - 1) : 1 ≤ x3 := by omega
theorem la_under_38 {x0 : Int} (h0 : x0 + 1 ≤ 1) : ¬ 1 ≤ x0 := by omega
theorem la_under_39 {x0 x1 x2 x3 : Int} (h0 : 400 * (x0 - 1) + x1 = x2) (h1 : x3 + 1 ≤ 1) : ¬ 400 * (x0 - 1) + x1 - 2 = x2 - 1 - x3 := by omega
theorem la_under_40 {x0 x1 x2 x3 : Int} (h0 : 400 * (x0 - 1) + x1 = x2) (h1 : 0 ≤ x3) (h2 : x3 + 1 ≤ 1) : x2 - 2 - x3 = 400 * (x0 - 1) + x1 - 2 := by omega
theorem la_under_41 {x0 x1 x2 : Int} (h0 : x0 = x1) (h1 : x2 = x0) : x2 = x1 := by omega
theorem la_under_42 {x0 : Int} (h0 : 2 ≤ x0 + 1) : 1 ≤ x0 := by omega
theorem la_under_43 {x0 x1 x2 x3 : Int} (h0 : 400 * (x0 - 1) + x1 = x2) (h1 : 2 ≤ x3 + 1) : x2 - 2 - x3 < 400 * (x0 - 1) + x1 - 2 := by omega
theorem la_under_44 {x0 x1 x2 x3 : Int} (h0 : 400 * (x0 - 1) + x1 = x2) (h1 : ¬ 2 ≤ x3) (h2 : 2 ≤ x3 + 1) : 400 * (x0 - 1) + x1 - 2 = x2 - 1 - x3 := by omega
theorem la_under_45 {x0 x1 x2 x3 : Int} (h0 : 400 * (x0 - 1) + x1 = x2) (h1 : ¬ 2 ≤ x3) (h2 : 2 ≤ x3 + 1) : x2 - 2 - x3 = 400 * (x0 - 1) + x1 - 3 := by omega
theorem la_under_46 {x0 x1 x2 x3 : Int} (h0 : x0 = x1) (h1 : x2 = x0) (h2 : x1 = x3) : x2 = x3 := by omega
theorem la_under_47 {x0 : Int} : 2 - (x0 + 1) < 2 - x0 := by omega
set_option maxHeartbeats 2000000 in
theorem f_under : ∀ (p1 : Int) (p2 : Int) (S : sv_S), sm_ok S → sv_R p1 → sv_R p2 → (1 ≤ (S 1092 0) ∧ (S 1092 0) ≤ 24 ∧ 0 ≤ (S 58 ((S 1092 0) - 1)) ∧ (S 58 ((S 1092 0) - 1)) ≤ 400 ∧ 3 ≤ (S 58 ((S 1092 0) - 1)) ∧ (S 58 ((S 1092 0) - 1)) < 400) → (1 ≤ (S 1092 0) ∧ (S 1092 0) ≤ 24 ∧ 0 ≤ (S 58 ((S 1092 0) - 1)) ∧ (S 58 ((S 1092 0) - 1)) ≤ 400) ∧ (∀ x2 : Int, ((400 * ((S 1092 0) - 1) + (S 58 ((S 1092 0) - 1)))) = x2 → ((0 ≤ (0 : Int) ∧ (0 : Int) ≤ 2 ∧ sm_F1 (S 63) (S 63) ((400 * ((S 1092 0) - 1) + (S 58 ((S 1092 0) - 1))) - 2) ∧ (1 ≤ (0 : Int) → (S 63 ((400 * ((S 1092 0) - 1) + (S 58 ((S 1092 0) - 1))) - 1)) = (S 63 ((400 * ((S 1092 0) - 1) + (S 58 ((S 1092 0) - 1))) - 2))) ∧ ((0 : Int) ≤ 1 → (S 63 ((400 * ((S 1092 0) - 1) + (S 58 ((S 1092 0) - 1))) - 2)) = (S 63 ((400 * ((S 1092 0) - 1) + (S 58 ((S 1092 0) - 1))) - 2))) ∧ (2 ≤ (0 : Int) → (S 63 ((400 * ((S 1092 0) - 1) + (S 58 ((S 1092 0) - 1))) - 2)) = (S 63 ((400 * ((S 1092 0) - 1) + (S 58 ((S 1092 0) - 1))) - 3))) ∧ sm_F1 (S 64) (S 64) ((400 * ((S 1092 0) - 1) + (S 58 ((S 1092 0) - 1))) - 2) ∧ (1 ≤ (0 : Int) → (S 64 ((400 * ((S 1092 0) - 1) + (S 58 ((S 1092 0) - 1))) - 1)) = (S 64 ((400 * ((S 1092 0) - 1) + (S 58 ((S 1092 0) - 1))) - 2))) ∧ ((0 : Int) ≤ 1 → (S 64 ((400 * ((S 1092 0) - 1) + (S 58 ((S 1092 0) - 1))) - 2)) = (S 64 ((400 * ((S 1092 0) - 1) + (S 58 ((S 1092 0) - 1))) - 2))) ∧ (2 ≤ (0 : Int) → (S 64 ((400 * ((S 1092 0) - 1) + (S 58 ((S 1092 0) - 1))) - 2)) = (S 64 ((400 * ((S 1092 0) - 1) + (S 58 ((S 1092 0) - 1))) - 3)))) ∧ (∀ l4_5 : Int, sv_R l4_5 → ∀ g4 : sv_S, (0 ≤ l4_5 ∧ l4_5 ≤ 2 ∧ sm_F1 (S 63) (g4 63) ((400 * ((S 1092 0) - 1) + (S 58 ((S 1092 0) - 1))) - 2) ∧ (1 ≤ l4_5 → (g4 63 ((400 * ((S 1092 0) - 1) + (S 58 ((S 1092 0) - 1))) - 1)) = (S 63 ((400 * ((S 1092 0) - 1) + (S 58 ((S 1092 0) - 1))) - 2))) ∧ (l4_5 ≤ 1 → (g4 63 ((400 * ((S 1092 0) - 1) + (S 58 ((S 1092 0) - 1))) - 2)) = (S 63 ((400 * ((S 1092 0) - 1) + (S 58 ((S 1092 0) - 1))) - 2))) ∧ (2 ≤ l4_5 → (g4 63 ((400 * ((S 1092 0) - 1) + (S 58 ((S 1092 0) - 1))) - 2)) = (S 63 ((400 * ((S 1092 0) - 1) + (S 58 ((S 1092 0) - 1))) - 3))) ∧ sm_F1 (S 64) (g4 64) ((400 * ((S 1092 0) - 1) + (S 58 ((S 1092 0) - 1))) - 2) ∧ (1 ≤ l4_5 → (g4 64 ((400 * ((S 1092 0) - 1) + (S 58 ((S 1092 0) - 1))) - 1)) = (S 64 ((400 * ((S 1092 0) - 1) + (S 58 ((S 1092 0) - 1))) - 2))) ∧ (l4_5 ≤ 1 → (g4 64 ((400 * ((S 1092 0) - 1) + (S 58 ((S 1092 0) - 1))) - 2)) = (S 64 ((400 * ((S 1092 0) - 1) + (S 58 ((S 1092 0) - 1))) - 2))) ∧ (2 ≤ l4_5 → (g4 64 ((400 * ((S 1092 0) - 1) + (S 58 ((S 1092 0) - 1))) - 2)) = (S 64 ((400 * ((S 1092 0) - 1) + (S 58 ((S 1092 0) - 1))) - 3)))) → (0 ≤ 2 - l4_5) ∧ ((((2 : Int) ≤ l4_5) → (0 ≤ (x2 - (3 : Int)) ∧ (x2 - (3 : Int)) < 9600) ∧ (1 ≤ (S 1092 0) ∧ (S 1092 0) ≤ 24 ∧ 0 ≤ (S 58 ((S 1092 0) - 1)) ∧ (S 58 ((S 1092 0) - 1)) ≤ 400 ∧ (S 58 ((S 1092 0) - 1)) < 400) ∧ (∀ g19 : sv_S, ((g19 58 ((S 1092 0) - 1)) = (S 58 ((S 1092 0) - 1)) + 1 ∧ (g19 63 (400 * ((S 1092 0) - 1) + (S 58 ((S 1092 0) - 1)))) = p1 ∧ (g19 64 (400 * ((S 1092 0) - 1) + (S 58 ((S 1092 0) - 1)))) = p2 ∧ (∀ k : Int, ¬ k = (S 1092 0) - 1 → (g19 58 k) = (S 58 k)) ∧ (∀ k : Int, ¬ k = (400 * ((S 1092 0) - 1) + (S 58 ((S 1092 0) - 1))) → (g19 63 k) = (if k = (x2 - (3 : Int)) then p1 else (g4 63 k))) ∧ (∀ k : Int, ¬ k = (400 * ((S 1092 0) - 1) + (S 58 ((S 1092 0) - 1))) → (g19 64 k) = (if k = (x2 - (3 : Int)) then p2 else (g4 64 k)))) → ((g19 58 ((S 1092 0) - 1)) = (S 58 ((S 1092 0) - 1)) + 1 ∧ (∀ k : Int, ¬ k = (S 1092 0) - 1 → (g19 58 k) = (S 58 k)) ∧ sm_F1 (S 63) (g19 63) ((400 * ((S 1092 0) - 1) + (S 58 ((S 1092 0) - 1))) - 3) ∧ (g19 63 (400 * ((S 1092 0) - 1) + (S 58 ((S 1092 0) - 1)))) = p1 ∧ (g19 63 ((400 * ((S 1092 0) - 1) + (S 58 ((S 1092 0) - 1))) - 1)) = (S 63 ((400 * ((S 1092 0) - 1) + (S 58 ((S 1092 0) - 1))) - 2)) ∧ (g19 63 ((400 * ((S 1092 0) - 1) + (S 58 ((S 1092 0) - 1))) - 2)) = (S 63 ((400 * ((S 1092 0) - 1) + (S 58 ((S 1092 0) - 1))) - 3)) ∧ (g19 63 ((400 * ((S 1092 0) - 1) + (S 58 ((S 1092 0) - 1))) - 3)) = p1 ∧ sm_F1 (S 64) (g19 64) ((400 * ((S 1092 0) - 1) + (S 58 ((S 1092 0) - 1))) - 3) ∧ (g19 64 (400 * ((S 1092 0) - 1) + (S 58 ((S 1092 0) - 1)))) = p2 ∧ (g19 64 ((400 * ((S 1092 0) - 1) + (S 58 ((S 1092 0) - 1))) - 1)) = (S 64 ((400 * ((S 1092 0) - 1) + (S 58 ((S 1092 0) - 1))) - 2)) ∧ (g19 64 ((400 * ((S 1092 0) - 1) + (S 58 ((S 1092 0) - 1))) - 2)) = (S 64 ((400 * ((S 1092 0) - 1) + (S 58 ((S 1092 0) - 1))) - 3)) ∧ (g19 64 ((400 * ((S 1092 0) - 1) + (S 58 ((S 1092 0) - 1))) - 3)) = p2))) ∧ ((¬ ((2 : Int) ≤ l4_5)) → (0 ≤ ((x2 - (2 : Int)) - l4_5) ∧ ((x2 - (2 : Int)) - l4_5) < 9600) ∧ (sv_R (g4 63 ((x2 - (2 : Int)) - l4_5)) → (0 ≤ ((x2 - (1 : Int)) - l4_5) ∧ ((x2 - (1 : Int)) - l4_5) < 9600) ∧ (sv_R (g4 64 ((x2 - (2 : Int)) - l4_5)) → (sv_R (l4_5 + (1 : Int))) ∧ ((0 ≤ (l4_5 + (1 : Int)) ∧ (l4_5 + (1 : Int)) ≤ 2 ∧ sm_F1 (S 63) (fun i' : Int => if i' = ((x2 - (1 : Int)) - l4_5) then (g4 63 ((x2 - (2 : Int)) - l4_5)) else (g4 63) i') ((400 * ((S 1092 0) - 1) + (S 58 ((S 1092 0) - 1))) - 2) ∧ (1 ≤ (l4_5 + (1 : Int)) → (if ((400 * ((S 1092 0) - 1) + (S 58 ((S 1092 0) - 1))) - 1) = ((x2 - (1 : Int)) - l4_5) then (g4 63 ((x2 - (2 : Int)) - l4_5)) else (g4 63 ((400 * ((S 1092 0) - 1) + (S 58 ((S 1092 0) - 1))) - 1))) = (S 63 ((400 * ((S 1092 0) - 1) + (S 58 ((S 1092 0) - 1))) - 2))) ∧ ((l4_5 + (1 : Int)) ≤ 1 → (if ((400 * ((S 1092 0) - 1) + (S 58 ((S 1092 0) - 1))) - 2) = ((x2 - (1 : Int)) - l4_5) then (g4 63 ((x2 - (2 : Int)) - l4_5)) else (g4 63 ((400 * ((S 1092 0) - 1) + (S 58 ((S 1092 0) - 1))) - 2))) = (S 63 ((400 * ((S 1092 0) - 1) + (S 58 ((S 1092 0) - 1))) - 2))) ∧ (2 ≤ (l4_5 + (1 : Int)) → (if ((400 * ((S 1092 0) - 1) + (S 58 ((S 1092 0) - 1))) - 2) = ((x2 - (1 : Int)) - l4_5) then (g4 63 ((x2 - (2 : Int)) - l4_5)) else (g4 63 ((400 * ((S 1092 0) - 1) + (S 58 ((S 1092 0) - 1))) - 2))) = (S 63 ((400 * ((S 1092 0) - 1) + (S 58 ((S 1092 0) - 1))) - 3))) ∧ sm_F1 (S 64) (fun i' : Int => if i' = ((x2 - (1 : Int)) - l4_5) then (g4 64 ((x2 - (2 : Int)) - l4_5)) else (g4 64) i') ((400 * ((S 1092 0) - 1) + (S 58 ((S 1092 0) - 1))) - 2) ∧ (1 ≤ (l4_5 + (1 : Int)) → (if ((400 * ((S 1092 0) - 1) + (S 58 ((S 1092 0) - 1))) - 1) = ((x2 - (1 : Int)) - l4_5) then (g4 64 ((x2 - (2 : Int)) - l4_5)) else (g4 64 ((400 * ((S 1092 0) - 1) + (S 58 ((S 1092 0) - 1))) - 1))) = (S 64 ((400 * ((S 1092 0) - 1) + (S 58 ((S 1092 0) - 1))) - 2))) ∧ ((l4_5 + (1 : Int)) ≤ 1 → (if ((400 * ((S 1092 0) - 1) + (S 58 ((S 1092 0) - 1))) - 2) = ((x2 - (1 : Int)) - l4_5) then (g4 64 ((x2 - (2 : Int)) - l4_5)) else (g4 64 ((400 * ((S 1092 0) - 1) + (S 58 ((S 1092 0) - 1))) - 2))) = (S 64 ((400 * ((S 1092 0) - 1) + (S 58 ((S 1092 0) - 1))) - 2))) ∧ (2 ≤ (l4_5 + (1 : Int)) → (if ((400 * ((S 1092 0) - 1) + (S 58 ((S 1092 0) - 1))) - 2) = ((x2 - (1 : Int)) - l4_5) then (g4 64 ((x2 - (2 : Int)) - l4_5)) else (g4 64 ((400 * ((S 1092 0) - 1) + (S 58 ((S 1092 0) - 1))) - 2))) = (S 64 ((400 * ((S 1092 0) - 1) + (S 58 ((S 1092 0) - 1))) - 3)))) ∧ (2 - (l4_5 + (1 : Int))) < (2 - l4_5))))))))) := by
  intro p1
  intro p2
  intro S
  intro h1_
  intro h2_
  intro h3_
  rintro ⟨h4_, ⟨h5_, ⟨h6_, ⟨h7_, ⟨h8_, h9_⟩⟩⟩⟩⟩
  refine ⟨(la_under_0 h4_ h5_ h8_ h9_), ?_⟩
  intro x2
  intro h10_
  refine ⟨⟨la_under_1, ⟨la_under_2, ⟨sm_F1_rf, ⟨la_under_3, ⟨la_under_4, ⟨la_under_5, ⟨sm_F1_rf, la_under_6⟩⟩⟩⟩⟩⟩⟩, ?_⟩
  intro l4_5
  intro h11_
  intro g4
  rintro ⟨h12_, ⟨h13_, ⟨h14_, ⟨h15_, ⟨h16_, ⟨h17_, ⟨h18_, ⟨h19_, ⟨h20_, h21_⟩⟩⟩⟩⟩⟩⟩⟩⟩
  refine ⟨(la_under_7 h13_), ?_⟩
  refine ⟨?_, ?_⟩
  · skip
    intro h22_
    have h23_ := (h15_ (la_under_8 h22_))
    have h24_ := (h17_ h22_)
    have h25_ := (h19_ (la_under_8 h22_))
    have h26_ := (h21_ h22_)
    refine ⟨(la_under_10 h4_ h5_ h8_ h9_ h10_), ?_⟩
    refine ⟨(la_under_11 h4_ h5_ h8_ h9_), ?_⟩
    intro g19
    rintro ⟨h27_, ⟨h28_, ⟨h29_, ⟨h30_, ⟨h31_, h32_⟩⟩⟩⟩⟩
    refine ⟨h27_, ?_⟩
    refine ⟨h30_, ?_⟩
    refine ⟨(sm_F1_tr (sm_F1_up (sm_F1_le h14_ la_under_13) (la_under_14 h10_)) (sm_F1_ne h31_ (Int.le_refl _)) la_under_12), ?_⟩
    refine ⟨h28_, ?_⟩
    refine ⟨?_, ?_⟩
    · skip
      have h33_ := (h30_ (S 1092 0 - 1))
      have h34_ := ((h31_ (400 * (S 1092 0 - 1) + S 58 (S 1092 0 - 1) - 1)) la_under_15)
      have h35_ := (h31_ (400 * (S 1092 0 - 1) + S 58 (S 1092 0 - 1)))
      have h36_ := ((h31_ (400 * (S 1092 0 - 1) + S 58 (S 1092 0 - 1) - 2)) la_under_16)
      have h37_ := ((h32_ (400 * (S 1092 0 - 1) + S 58 (S 1092 0 - 1) - 1)) la_under_15)
      have h38_ := (h32_ (400 * (S 1092 0 - 1) + S 58 (S 1092 0 - 1)))
      have h39_ := ((h32_ (400 * (S 1092 0 - 1) + S 58 (S 1092 0 - 1) - 2)) la_under_16)
      have e40_ : (if 400 * (S 1092 0 - 1) + S 58 (S 1092 0 - 1) - 2 = x2 - 3 then p2 else g4 64 (400 * (S 1092 0 - 1) + S 58 (S 1092 0 - 1) - 2) : Int) = g4 64 (400 * (S 1092 0 - 1) + S 58 (S 1092 0 - 1) - 2) := if_neg (la_under_17 h10_)
      have e41_ : (if 400 * (S 1092 0 - 1) + S 58 (S 1092 0 - 1) - 2 = x2 - 3 then p1 else g4 63 (400 * (S 1092 0 - 1) + S 58 (S 1092 0 - 1) - 2) : Int) = g4 63 (400 * (S 1092 0 - 1) + S 58 (S 1092 0 - 1) - 2) := if_neg (la_under_17 h10_)
      have e42_ : (if 400 * (S 1092 0 - 1) + S 58 (S 1092 0 - 1) = x2 - 3 then p1 else g4 63 (400 * (S 1092 0 - 1) + S 58 (S 1092 0 - 1)) : Int) = g4 63 (400 * (S 1092 0 - 1) + S 58 (S 1092 0 - 1)) := if_neg (la_under_18 h10_)
      have e43_ : (if 400 * (S 1092 0 - 1) + S 58 (S 1092 0 - 1) - 1 = x2 - 3 then p1 else g4 63 (400 * (S 1092 0 - 1) + S 58 (S 1092 0 - 1) - 1) : Int) = g4 63 (400 * (S 1092 0 - 1) + S 58 (S 1092 0 - 1) - 1) := if_neg (la_under_19 h10_)
      have e44_ : (if 400 * (S 1092 0 - 1) + S 58 (S 1092 0 - 1) - 1 = x2 - 3 then p2 else g4 64 (400 * (S 1092 0 - 1) + S 58 (S 1092 0 - 1) - 1) : Int) = g4 64 (400 * (S 1092 0 - 1) + S 58 (S 1092 0 - 1) - 1) := if_neg (la_under_19 h10_)
      have e45_ : (if 400 * (S 1092 0 - 1) + S 58 (S 1092 0 - 1) = x2 - 3 then p2 else g4 64 (400 * (S 1092 0 - 1) + S 58 (S 1092 0 - 1)) : Int) = g4 64 (400 * (S 1092 0 - 1) + S 58 (S 1092 0 - 1)) := if_neg (la_under_18 h10_)
      exact (la_under_22 h23_ h34_ e43_)
    refine ⟨?_, ?_⟩
    · skip
      have h46_ := (h30_ (S 1092 0 - 1))
      have h47_ := ((h31_ (400 * (S 1092 0 - 1) + S 58 (S 1092 0 - 1) - 1)) la_under_15)
      have h48_ := (h31_ (400 * (S 1092 0 - 1) + S 58 (S 1092 0 - 1)))
      have h49_ := ((h31_ (400 * (S 1092 0 - 1) + S 58 (S 1092 0 - 1) - 2)) la_under_16)
      have h50_ := ((h32_ (400 * (S 1092 0 - 1) + S 58 (S 1092 0 - 1) - 1)) la_under_15)
      have h51_ := (h32_ (400 * (S 1092 0 - 1) + S 58 (S 1092 0 - 1)))
      have h52_ := ((h32_ (400 * (S 1092 0 - 1) + S 58 (S 1092 0 - 1) - 2)) la_under_16)
      have e53_ : (if 400 * (S 1092 0 - 1) + S 58 (S 1092 0 - 1) - 2 = x2 - 3 then p2 else g4 64 (400 * (S 1092 0 - 1) + S 58 (S 1092 0 - 1) - 2) : Int) = g4 64 (400 * (S 1092 0 - 1) + S 58 (S 1092 0 - 1) - 2) := if_neg (la_under_17 h10_)
      have e54_ : (if 400 * (S 1092 0 - 1) + S 58 (S 1092 0 - 1) - 2 = x2 - 3 then p1 else g4 63 (400 * (S 1092 0 - 1) + S 58 (S 1092 0 - 1) - 2) : Int) = g4 63 (400 * (S 1092 0 - 1) + S 58 (S 1092 0 - 1) - 2) := if_neg (la_under_17 h10_)
      have e55_ : (if 400 * (S 1092 0 - 1) + S 58 (S 1092 0 - 1) = x2 - 3 then p1 else g4 63 (400 * (S 1092 0 - 1) + S 58 (S 1092 0 - 1)) : Int) = g4 63 (400 * (S 1092 0 - 1) + S 58 (S 1092 0 - 1)) := if_neg (la_under_18 h10_)
      have e56_ : (if 400 * (S 1092 0 - 1) + S 58 (S 1092 0 - 1) - 1 = x2 - 3 then p1 else g4 63 (400 * (S 1092 0 - 1) + S 58 (S 1092 0 - 1) - 1) : Int) = g4 63 (400 * (S 1092 0 - 1) + S 58 (S 1092 0 - 1) - 1) := if_neg (la_under_19 h10_)
      have e57_ : (if 400 * (S 1092 0 - 1) + S 58 (S 1092 0 - 1) - 1 = x2 - 3 then p2 else g4 64 (400 * (S 1092 0 - 1) + S 58 (S 1092 0 - 1) - 1) : Int) = g4 64 (400 * (S 1092 0 - 1) + S 58 (S 1092 0 - 1) - 1) := if_neg (la_under_19 h10_)
      have e58_ : (if 400 * (S 1092 0 - 1) + S 58 (S 1092 0 - 1) = x2 - 3 then p2 else g4 64 (400 * (S 1092 0 - 1) + S 58 (S 1092 0 - 1)) : Int) = g4 64 (400 * (S 1092 0 - 1) + S 58 (S 1092 0 - 1)) := if_neg (la_under_18 h10_)
      exact (la_under_22 h24_ h49_ e54_)
    refine ⟨?_, ?_⟩
    · skip
      have h59_ := (h30_ (S 1092 0 - 1))
      have h60_ := ((h31_ (400 * (S 1092 0 - 1) + S 58 (S 1092 0 - 1) - 1)) la_under_15)
      have h61_ := ((h31_ (400 * (S 1092 0 - 1) + S 58 (S 1092 0 - 1) - 3)) la_under_23)
      have h62_ := (h31_ (400 * (S 1092 0 - 1) + S 58 (S 1092 0 - 1)))
      have h63_ := ((h31_ (400 * (S 1092 0 - 1) + S 58 (S 1092 0 - 1) - 2)) la_under_16)
      have h64_ := ((h32_ (400 * (S 1092 0 - 1) + S 58 (S 1092 0 - 1) - 1)) la_under_15)
      have h65_ := (h32_ (400 * (S 1092 0 - 1) + S 58 (S 1092 0 - 1)))
      have h66_ := ((h32_ (400 * (S 1092 0 - 1) + S 58 (S 1092 0 - 1) - 2)) la_under_16)
      have e67_ : (if 400 * (S 1092 0 - 1) + S 58 (S 1092 0 - 1) - 2 = x2 - 3 then p2 else g4 64 (400 * (S 1092 0 - 1) + S 58 (S 1092 0 - 1) - 2) : Int) = g4 64 (400 * (S 1092 0 - 1) + S 58 (S 1092 0 - 1) - 2) := if_neg (la_under_17 h10_)
      have e68_ : (if 400 * (S 1092 0 - 1) + S 58 (S 1092 0 - 1) - 3 = x2 - 3 then p1 else g4 63 (400 * (S 1092 0 - 1) + S 58 (S 1092 0 - 1) - 3) : Int) = p1 := if_pos (la_under_24 h10_)
      have e69_ : (if 400 * (S 1092 0 - 1) + S 58 (S 1092 0 - 1) - 2 = x2 - 3 then p1 else g4 63 (400 * (S 1092 0 - 1) + S 58 (S 1092 0 - 1) - 2) : Int) = g4 63 (400 * (S 1092 0 - 1) + S 58 (S 1092 0 - 1) - 2) := if_neg (la_under_17 h10_)
      have e70_ : (if 400 * (S 1092 0 - 1) + S 58 (S 1092 0 - 1) = x2 - 3 then p1 else g4 63 (400 * (S 1092 0 - 1) + S 58 (S 1092 0 - 1)) : Int) = g4 63 (400 * (S 1092 0 - 1) + S 58 (S 1092 0 - 1)) := if_neg (la_under_18 h10_)
      have e71_ : (if 400 * (S 1092 0 - 1) + S 58 (S 1092 0 - 1) - 1 = x2 - 3 then p1 else g4 63 (400 * (S 1092 0 - 1) + S 58 (S 1092 0 - 1) - 1) : Int) = g4 63 (400 * (S 1092 0 - 1) + S 58 (S 1092 0 - 1) - 1) := if_neg (la_under_19 h10_)
      have e72_ : (if 400 * (S 1092 0 - 1) + S 58 (S 1092 0 - 1) - 1 = x2 - 3 then p2 else g4 64 (400 * (S 1092 0 - 1) + S 58 (S 1092 0 - 1) - 1) : Int) = g4 64 (400 * (S 1092 0 - 1) + S 58 (S 1092 0 - 1) - 1) := if_neg (la_under_19 h10_)
      have e73_ : (if 400 * (S 1092 0 - 1) + S 58 (S 1092 0 - 1) = x2 - 3 then p2 else g4 64 (400 * (S 1092 0 - 1) + S 58 (S 1092 0 - 1)) : Int) = g4 64 (400 * (S 1092 0 - 1) + S 58 (S 1092 0 - 1)) := if_neg (la_under_18 h10_)
      exact (la_under_25 h61_ e68_)
    refine ⟨(sm_F1_tr (sm_F1_up (sm_F1_le h18_ la_under_13) (la_under_14 h10_)) (sm_F1_ne h32_ (Int.le_refl _)) la_under_12), ?_⟩
    refine ⟨h29_, ?_⟩
    refine ⟨?_, ?_⟩
    · skip
      have h74_ := (h30_ (S 1092 0 - 1))
      have h75_ := ((h31_ (400 * (S 1092 0 - 1) + S 58 (S 1092 0 - 1) - 1)) la_under_15)
      have h76_ := (h31_ (400 * (S 1092 0 - 1) + S 58 (S 1092 0 - 1)))
      have h77_ := ((h31_ (400 * (S 1092 0 - 1) + S 58 (S 1092 0 - 1) - 2)) la_under_16)
      have h78_ := ((h32_ (400 * (S 1092 0 - 1) + S 58 (S 1092 0 - 1) - 1)) la_under_15)
      have h79_ := (h32_ (400 * (S 1092 0 - 1) + S 58 (S 1092 0 - 1)))
      have h80_ := ((h32_ (400 * (S 1092 0 - 1) + S 58 (S 1092 0 - 1) - 2)) la_under_16)
      have e81_ : (if 400 * (S 1092 0 - 1) + S 58 (S 1092 0 - 1) - 2 = x2 - 3 then p2 else g4 64 (400 * (S 1092 0 - 1) + S 58 (S 1092 0 - 1) - 2) : Int) = g4 64 (400 * (S 1092 0 - 1) + S 58 (S 1092 0 - 1) - 2) := if_neg (la_under_17 h10_)
      have e82_ : (if 400 * (S 1092 0 - 1) + S 58 (S 1092 0 - 1) - 2 = x2 - 3 then p1 else g4 63 (400 * (S 1092 0 - 1) + S 58 (S 1092 0 - 1) - 2) : Int) = g4 63 (400 * (S 1092 0 - 1) + S 58 (S 1092 0 - 1) - 2) := if_neg (la_under_17 h10_)
      have e83_ : (if 400 * (S 1092 0 - 1) + S 58 (S 1092 0 - 1) = x2 - 3 then p1 else g4 63 (400 * (S 1092 0 - 1) + S 58 (S 1092 0 - 1)) : Int) = g4 63 (400 * (S 1092 0 - 1) + S 58 (S 1092 0 - 1)) := if_neg (la_under_18 h10_)
      have e84_ : (if 400 * (S 1092 0 - 1) + S 58 (S 1092 0 - 1) - 1 = x2 - 3 then p1 else g4 63 (400 * (S 1092 0 - 1) + S 58 (S 1092 0 - 1) - 1) : Int) = g4 63 (400 * (S 1092 0 - 1) + S 58 (S 1092 0 - 1) - 1) := if_neg (la_under_19 h10_)
      have e85_ : (if 400 * (S 1092 0 - 1) + S 58 (S 1092 0 - 1) - 1 = x2 - 3 then p2 else g4 64 (400 * (S 1092 0 - 1) + S 58 (S 1092 0 - 1) - 1) : Int) = g4 64 (400 * (S 1092 0 - 1) + S 58 (S 1092 0 - 1) - 1) := if_neg (la_under_19 h10_)
      have e86_ : (if 400 * (S 1092 0 - 1) + S 58 (S 1092 0 - 1) = x2 - 3 then p2 else g4 64 (400 * (S 1092 0 - 1) + S 58 (S 1092 0 - 1)) : Int) = g4 64 (400 * (S 1092 0 - 1) + S 58 (S 1092 0 - 1)) := if_neg (la_under_18 h10_)
      exact (la_under_22 h25_ h78_ e85_)
    refine ⟨?_, ?_⟩
    · skip
      have h87_ := (h30_ (S 1092 0 - 1))
      have h88_ := ((h31_ (400 * (S 1092 0 - 1) + S 58 (S 1092 0 - 1) - 1)) la_under_15)
      have h89_ := (h31_ (400 * (S 1092 0 - 1) + S 58 (S 1092 0 - 1)))
      have h90_ := ((h31_ (400 * (S 1092 0 - 1) + S 58 (S 1092 0 - 1) - 2)) la_under_16)
      have h91_ := ((h32_ (400 * (S 1092 0 - 1) + S 58 (S 1092 0 - 1) - 1)) la_under_15)
      have h92_ := (h32_ (400 * (S 1092 0 - 1) + S 58 (S 1092 0 - 1)))
      have h93_ := ((h32_ (400 * (S 1092 0 - 1) + S 58 (S 1092 0 - 1) - 2)) la_under_16)
      have e94_ : (if 400 * (S 1092 0 - 1) + S 58 (S 1092 0 - 1) - 2 = x2 - 3 then p2 else g4 64 (400 * (S 1092 0 - 1) + S 58 (S 1092 0 - 1) - 2) : Int) = g4 64 (400 * (S 1092 0 - 1) + S 58 (S 1092 0 - 1) - 2) := if_neg (la_under_17 h10_)
      have e95_ : (if 400 * (S 1092 0 - 1) + S 58 (S 1092 0 - 1) - 2 = x2 - 3 then p1 else g4 63 (400 * (S 1092 0 - 1) + S 58 (S 1092 0 - 1) - 2) : Int) = g4 63 (400 * (S 1092 0 - 1) + S 58 (S 1092 0 - 1) - 2) := if_neg (la_under_17 h10_)
      have e96_ : (if 400 * (S 1092 0 - 1) + S 58 (S 1092 0 - 1) = x2 - 3 then p1 else g4 63 (400 * (S 1092 0 - 1) + S 58 (S 1092 0 - 1)) : Int) = g4 63 (400 * (S 1092 0 - 1) + S 58 (S 1092 0 - 1)) := if_neg (la_under_18 h10_)
      have e97_ : (if 400 * (S 1092 0 - 1) + S 58 (S 1092 0 - 1) - 1 = x2 - 3 then p1 else g4 63 (400 * (S 1092 0 - 1) + S 58 (S 1092 0 - 1) - 1) : Int) = g4 63 (400 * (S 1092 0 - 1) + S 58 (S 1092 0 - 1) - 1) := if_neg (la_under_19 h10_)
      have e98_ : (if 400 * (S 1092 0 - 1) + S 58 (S 1092 0 - 1) - 1 = x2 - 3 then p2 else g4 64 (400 * (S 1092 0 - 1) + S 58 (S 1092 0 - 1) - 1) : Int) = g4 64 (400 * (S 1092 0 - 1) + S 58 (S 1092 0 - 1) - 1) := if_neg (la_under_19 h10_)
      have e99_ : (if 400 * (S 1092 0 - 1) + S 58 (S 1092 0 - 1) = x2 - 3 then p2 else g4 64 (400 * (S 1092 0 - 1) + S 58 (S 1092 0 - 1)) : Int) = g4 64 (400 * (S 1092 0 - 1) + S 58 (S 1092 0 - 1)) := if_neg (la_under_18 h10_)
      exact (la_under_22 h26_ h93_ e94_)
    have h100_ := (h30_ (S 1092 0 - 1))
    have h101_ := ((h31_ (400 * (S 1092 0 - 1) + S 58 (S 1092 0 - 1) - 1)) la_under_15)
    have h102_ := (h31_ (400 * (S 1092 0 - 1) + S 58 (S 1092 0 - 1)))
    have h103_ := ((h31_ (400 * (S 1092 0 - 1) + S 58 (S 1092 0 - 1) - 2)) la_under_16)
    have h104_ := ((h32_ (400 * (S 1092 0 - 1) + S 58 (S 1092 0 - 1) - 1)) la_under_15)
    have h105_ := ((h32_ (400 * (S 1092 0 - 1) + S 58 (S 1092 0 - 1) - 3)) la_under_23)
    have h106_ := (h32_ (400 * (S 1092 0 - 1) + S 58 (S 1092 0 - 1)))
    have h107_ := ((h32_ (400 * (S 1092 0 - 1) + S 58 (S 1092 0 - 1) - 2)) la_under_16)
    have e108_ : (if 400 * (S 1092 0 - 1) + S 58 (S 1092 0 - 1) - 3 = x2 - 3 then p2 else g4 64 (400 * (S 1092 0 - 1) + S 58 (S 1092 0 - 1) - 3) : Int) = p2 := if_pos (la_under_24 h10_)
    have e109_ : (if 400 * (S 1092 0 - 1) + S 58 (S 1092 0 - 1) - 2 = x2 - 3 then p2 else g4 64 (400 * (S 1092 0 - 1) + S 58 (S 1092 0 - 1) - 2) : Int) = g4 64 (400 * (S 1092 0 - 1) + S 58 (S 1092 0 - 1) - 2) := if_neg (la_under_17 h10_)
    have e110_ : (if 400 * (S 1092 0 - 1) + S 58 (S 1092 0 - 1) - 2 = x2 - 3 then p1 else g4 63 (400 * (S 1092 0 - 1) + S 58 (S 1092 0 - 1) - 2) : Int) = g4 63 (400 * (S 1092 0 - 1) + S 58 (S 1092 0 - 1) - 2) := if_neg (la_under_17 h10_)
    have e111_ : (if 400 * (S 1092 0 - 1) + S 58 (S 1092 0 - 1) = x2 - 3 then p1 else g4 63 (400 * (S 1092 0 - 1) + S 58 (S 1092 0 - 1)) : Int) = g4 63 (400 * (S 1092 0 - 1) + S 58 (S 1092 0 - 1)) := if_neg (la_under_18 h10_)
    have e112_ : (if 400 * (S 1092 0 - 1) + S 58 (S 1092 0 - 1) - 1 = x2 - 3 then p1 else g4 63 (400 * (S 1092 0 - 1) + S 58 (S 1092 0 - 1) - 1) : Int) = g4 63 (400 * (S 1092 0 - 1) + S 58 (S 1092 0 - 1) - 1) := if_neg (la_under_19 h10_)
    have e113_ : (if 400 * (S 1092 0 - 1) + S 58 (S 1092 0 - 1) - 1 = x2 - 3 then p2 else g4 64 (400 * (S 1092 0 - 1) + S 58 (S 1092 0 - 1) - 1) : Int) = g4 64 (400 * (S 1092 0 - 1) + S 58 (S 1092 0 - 1) - 1) := if_neg (la_under_19 h10_)
    have e114_ : (if 400 * (S 1092 0 - 1) + S 58 (S 1092 0 - 1) = x2 - 3 then p2 else g4 64 (400 * (S 1092 0 - 1) + S 58 (S 1092 0 - 1)) : Int) = g4 64 (400 * (S 1092 0 - 1) + S 58 (S 1092 0 - 1)) := if_neg (la_under_18 h10_)
    exact (la_under_25 h105_ e108_)
  intro h115_
  have h116_ := (h16_ (la_under_26 h115_))
  have h117_ := (h20_ (la_under_26 h115_))
  refine ⟨(la_under_27 h4_ h5_ h8_ h9_ h10_ h12_ h115_), ?_⟩
  intro h118_
  refine ⟨(la_under_28 h4_ h5_ h8_ h9_ h10_ h12_ h115_), ?_⟩
  intro h119_
  refine ⟨(la_under_29 h12_ h115_), ?_⟩
  refine ⟨?_, ?_⟩
  · skip
    refine ⟨(la_under_30 h12_), ?_⟩
    refine ⟨(la_under_31 h115_), ?_⟩
    refine ⟨(sm_F1_up (sm_F1_le h14_ (Int.le_refl _)) (la_under_32 h10_ h115_)), ?_⟩
    refine ⟨?_, ?_⟩
    · skip
      intro h120_
      by_cases c121_ : 400 * (S 1092 0 - 1) + S 58 (S 1092 0 - 1) - 1 = x2 - 1 - l4_5
      · skip
        have e122_ : (if 400 * (S 1092 0 - 1) + S 58 (S 1092 0 - 1) - 1 = x2 - 1 - l4_5 then g4 63 (x2 - 2 - l4_5) else g4 63 (400 * (S 1092 0 - 1) + S 58 (S 1092 0 - 1) - 1) : Int) = g4 63 (x2 - 2 - l4_5) := if_pos c121_
        have e123_ : g4 63 (x2 - 2 - l4_5) = g4 63 (400 * (S 1092 0 - 1) + S 58 (S 1092 0 - 1) - 2) := congrArg ((g4 63)) (la_under_34 c121_)
        have e124_ : g4 64 (x2 - 2 - l4_5) = g4 64 (400 * (S 1092 0 - 1) + S 58 (S 1092 0 - 1) - 2) := congrArg ((g4 64)) (la_under_34 c121_)
        exact (la_under_22 h116_ e122_ e123_)
      · skip
        have e125_ : (if 400 * (S 1092 0 - 1) + S 58 (S 1092 0 - 1) - 1 = x2 - 1 - l4_5 then g4 63 (x2 - 2 - l4_5) else g4 63 (400 * (S 1092 0 - 1) + S 58 (S 1092 0 - 1) - 1) : Int) = g4 63 (400 * (S 1092 0 - 1) + S 58 (S 1092 0 - 1) - 1) := if_neg c121_
        have h126_ := (h15_ (la_under_37 h10_ (la_under_36 (la_under_35 h10_ h12_) c121_)))
        have h127_ := (h19_ (la_under_37 h10_ (la_under_36 (la_under_35 h10_ h12_) c121_)))
        exact (la_under_25 e125_ h126_)
    refine ⟨?_, ?_⟩
    · skip
      intro h128_
      have e129_ : (if 400 * (S 1092 0 - 1) + S 58 (S 1092 0 - 1) - 2 = x2 - 1 - l4_5 then g4 63 (x2 - 2 - l4_5) else g4 63 (400 * (S 1092 0 - 1) + S 58 (S 1092 0 - 1) - 2) : Int) = g4 63 (400 * (S 1092 0 - 1) + S 58 (S 1092 0 - 1) - 2) := if_neg (la_under_39 h10_ h128_)
      have e130_ : g4 63 (x2 - 2 - l4_5) = g4 63 (400 * (S 1092 0 - 1) + S 58 (S 1092 0 - 1) - 2) := congrArg ((g4 63)) (la_under_40 h10_ h12_ h128_)
      have e131_ : g4 64 (x2 - 2 - l4_5) = g4 64 (400 * (S 1092 0 - 1) + S 58 (S 1092 0 - 1) - 2) := congrArg ((g4 64)) (la_under_40 h10_ h12_ h128_)
      exact (la_under_41 h116_ e129_)
    refine ⟨?_, ?_⟩
    · skip
      intro h132_
      have h133_ := (h15_ (la_under_42 h132_))
      have h134_ := (h19_ (la_under_42 h132_))
      have e135_ : (if 400 * (S 1092 0 - 1) + S 58 (S 1092 0 - 1) - 2 = x2 - 1 - l4_5 then g4 63 (x2 - 2 - l4_5) else g4 63 (400 * (S 1092 0 - 1) + S 58 (S 1092 0 - 1) - 2) : Int) = g4 63 (x2 - 2 - l4_5) := if_pos (la_under_44 h10_ h115_ h132_)
      have e136_ : S 63 (x2 - 2 - l4_5) = S 63 (400 * (S 1092 0 - 1) + S 58 (S 1092 0 - 1) - 3) := congrArg ((S 63)) (la_under_45 h10_ h115_ h132_)
      exact (la_under_46 (sm_F1_at h14_ (x2 - 2 - l4_5) (la_under_43 h10_ h132_)) e135_ e136_)
    refine ⟨(sm_F1_up (sm_F1_le h18_ (Int.le_refl _)) (la_under_32 h10_ h115_)), ?_⟩
    refine ⟨?_, ?_⟩
    · skip
      intro h137_
      by_cases c138_ : 400 * (S 1092 0 - 1) + S 58 (S 1092 0 - 1) - 1 = x2 - 1 - l4_5
      · skip
        have e139_ : (if 400 * (S 1092 0 - 1) + S 58 (S 1092 0 - 1) - 1 = x2 - 1 - l4_5 then g4 64 (x2 - 2 - l4_5) else g4 64 (400 * (S 1092 0 - 1) + S 58 (S 1092 0 - 1) - 1) : Int) = g4 64 (x2 - 2 - l4_5) := if_pos c138_
        have e140_ : g4 63 (x2 - 2 - l4_5) = g4 63 (400 * (S 1092 0 - 1) + S 58 (S 1092 0 - 1) - 2) := congrArg ((g4 63)) (la_under_34 c138_)
        have e141_ : g4 64 (x2 - 2 - l4_5) = g4 64 (400 * (S 1092 0 - 1) + S 58 (S 1092 0 - 1) - 2) := congrArg ((g4 64)) (la_under_34 c138_)
        exact (la_under_22 h117_ e139_ e141_)
      · skip
        have e142_ : (if 400 * (S 1092 0 - 1) + S 58 (S 1092 0 - 1) - 1 = x2 - 1 - l4_5 then g4 64 (x2 - 2 - l4_5) else g4 64 (400 * (S 1092 0 - 1) + S 58 (S 1092 0 - 1) - 1) : Int) = g4 64 (400 * (S 1092 0 - 1) + S 58 (S 1092 0 - 1) - 1) := if_neg c138_
        have h143_ := (h15_ (la_under_37 h10_ (la_under_36 (la_under_35 h10_ h12_) c138_)))
        have h144_ := (h19_ (la_under_37 h10_ (la_under_36 (la_under_35 h10_ h12_) c138_)))
        exact (la_under_25 e142_ h144_)
    refine ⟨?_, ?_⟩
    · skip
      intro h145_
      have e146_ : (if 400 * (S 1092 0 - 1) + S 58 (S 1092 0 - 1) - 2 = x2 - 1 - l4_5 then g4 64 (x2 - 2 - l4_5) else g4 64 (400 * (S 1092 0 - 1) + S 58 (S 1092 0 - 1) - 2) : Int) = g4 64 (400 * (S 1092 0 - 1) + S 58 (S 1092 0 - 1) - 2) := if_neg (la_under_39 h10_ h145_)
      have e147_ : g4 63 (x2 - 2 - l4_5) = g4 63 (400 * (S 1092 0 - 1) + S 58 (S 1092 0 - 1) - 2) := congrArg ((g4 63)) (la_under_40 h10_ h12_ h145_)
      have e148_ : g4 64 (x2 - 2 - l4_5) = g4 64 (400 * (S 1092 0 - 1) + S 58 (S 1092 0 - 1) - 2) := congrArg ((g4 64)) (la_under_40 h10_ h12_ h145_)
      exact (la_under_41 h117_ e146_)
    intro h149_
    have h150_ := (h15_ (la_under_42 h149_))
    have h151_ := (h19_ (la_under_42 h149_))
    have e152_ : (if 400 * (S 1092 0 - 1) + S 58 (S 1092 0 - 1) - 2 = x2 - 1 - l4_5 then g4 64 (x2 - 2 - l4_5) else g4 64 (400 * (S 1092 0 - 1) + S 58 (S 1092 0 - 1) - 2) : Int) = g4 64 (x2 - 2 - l4_5) := if_pos (la_under_44 h10_ h115_ h149_)
    have e153_ : S 64 (x2 - 2 - l4_5) = S 64 (400 * (S 1092 0 - 1) + S 58 (S 1092 0 - 1) - 3) := congrArg ((S 64)) (la_under_45 h10_ h115_ h149_)
    exact (la_under_46 (sm_F1_at h18_ (x2 - 2 - l4_5) (la_under_43 h10_ h149_)) e152_ e153_)
  exact la_under_47
set_option maxRecDepth 8000 in
set_option maxHeartbeats 2000000 in
theorem t_under : ∀ (p1 : Int) (p2 : Int) (S : sv_S), sm_ok S → sv_R p1 → sv_R p2 → (1 ≤ (S 1092 0) ∧ (S 1092 0) ≤ 24 ∧ 0 ≤ (S 58 ((S 1092 0) - 1)) ∧ (S 58 ((S 1092 0) - 1)) ≤ 400 ∧ 3 ≤ (S 58 ((S 1092 0) - 1)) ∧ (S 58 ((S 1092 0) - 1)) < 400) → sv_T sm_XS sm_cs sm_L sm_sh 2 (q_under p1 p2 S) 162 0 (lv_args 0 [.ref 0, sv_I p1, sv_I p2]) [] S := by
  intro p1 p2 S hok hp1 hp2 hpre
  have h := f_under p1 p2 S hok hp1 hp2 hpre
  have hM := sm_h162
  show sv_T sm_XS sm_cs sm_L sm_sh 2 (q_under p1 p2 S) 162 0 [(0, .ref 0), (1, sv_I p1), (2, sv_I p2)] [] S
  refine sv_aload_n hM dX12_under_0 rfl rfl ?_
  obtain ⟨o1, h⟩ := h
  refine sv_callV hM dX12_under_1 sm_iv_879 (by decide) (sm_a0 _) rfl rfl (Nat.le_of_ble_eq_true rfl) sm_h149 (Nat.le_of_ble_eq_true rfl) (Nat.le_of_ble_eq_true rfl) (F' := 0) (Nat.le_of_ble_eq_true rfl) rfl (t_top  S hok o1) (fun v S1 hq => ?_)
  obtain ⟨rfl, hS1⟩ := hq
  obtain rfl : S = S1 := hS1.symm
  show sv_T sm_XS sm_cs sm_L sm_sh 2 (q_under p1 p2 S) 162 4 [(0, .ref 0), (1, sv_I p1), (2, sv_I p2)] [sv_I ((400 * ((S 1092 0) - 1) + (S 58 ((S 1092 0) - 1))))] S
  obtain ⟨x2, e3⟩ : ∃ x : Int, ((400 * ((S 1092 0) - 1) + (S 58 ((S 1092 0) - 1)))) = x := ⟨_, rfl⟩
  have h := h x2 e3
  refine sv_nameI e3 ?_
  refine sv_istore_n hM dX12_under_4 (by decide) rfl ?_
  show sv_T sm_XS sm_cs sm_L sm_sh 2 (q_under p1 p2 S) 162 5 [(0, .ref 0), (1, sv_I p1), (2, sv_I p2), (3, sv_I x2)] [] S
  refine sv_iconst (d := (0 : Int)) hM dX12_under_5 rfl rfl ?_
  refine sv_istore hM dX12_under_6 (by decide) rfl ?_
  show sv_T sm_XS sm_cs sm_L sm_sh 2 (q_under p1 p2 S) 162 8 [(0, .ref 0), (1, sv_I p1), (2, sv_I p2), (3, sv_I x2), (4, sv_I (0 : Int))] [] S
  obtain ⟨hin7, h⟩ := h
  have hJ : ∀ a : Int × sv_S, (sv_R a.1 ∧ sm_ok (sv_sts S [63, 64] a.2) ∧ (0 ≤ a.1 ∧ a.1 ≤ 2 ∧ sm_F1 (S 63) (a.2 63) ((400 * ((S 1092 0) - 1) + (S 58 ((S 1092 0) - 1))) - 2) ∧ (1 ≤ a.1 → (a.2 63 ((400 * ((S 1092 0) - 1) + (S 58 ((S 1092 0) - 1))) - 1)) = (S 63 ((400 * ((S 1092 0) - 1) + (S 58 ((S 1092 0) - 1))) - 2))) ∧ (a.1 ≤ 1 → (a.2 63 ((400 * ((S 1092 0) - 1) + (S 58 ((S 1092 0) - 1))) - 2)) = (S 63 ((400 * ((S 1092 0) - 1) + (S 58 ((S 1092 0) - 1))) - 2))) ∧ (2 ≤ a.1 → (a.2 63 ((400 * ((S 1092 0) - 1) + (S 58 ((S 1092 0) - 1))) - 2)) = (S 63 ((400 * ((S 1092 0) - 1) + (S 58 ((S 1092 0) - 1))) - 3))) ∧ sm_F1 (S 64) (a.2 64) ((400 * ((S 1092 0) - 1) + (S 58 ((S 1092 0) - 1))) - 2) ∧ (1 ≤ a.1 → (a.2 64 ((400 * ((S 1092 0) - 1) + (S 58 ((S 1092 0) - 1))) - 1)) = (S 64 ((400 * ((S 1092 0) - 1) + (S 58 ((S 1092 0) - 1))) - 2))) ∧ (a.1 ≤ 1 → (a.2 64 ((400 * ((S 1092 0) - 1) + (S 58 ((S 1092 0) - 1))) - 2)) = (S 64 ((400 * ((S 1092 0) - 1) + (S 58 ((S 1092 0) - 1))) - 2))) ∧ (2 ≤ a.1 → (a.2 64 ((400 * ((S 1092 0) - 1) + (S 58 ((S 1092 0) - 1))) - 2)) = (S 64 ((400 * ((S 1092 0) - 1) + (S 58 ((S 1092 0) - 1))) - 3))))) → sv_T sm_XS sm_cs sm_L sm_sh 2 (q_under p1 p2 S) 162 8 [(0, .ref 0), (1, sv_I p1), (2, sv_I p2), (3, sv_I x2), (4, sv_I a.1)] [] (sv_sts S [63, 64] a.2) := by
    refine sv_loop (α := Int × sv_S) (fun a => sv_R a.1 ∧ sm_ok (sv_sts S [63, 64] a.2) ∧ (0 ≤ a.1 ∧ a.1 ≤ 2 ∧ sm_F1 (S 63) (a.2 63) ((400 * ((S 1092 0) - 1) + (S 58 ((S 1092 0) - 1))) - 2) ∧ (1 ≤ a.1 → (a.2 63 ((400 * ((S 1092 0) - 1) + (S 58 ((S 1092 0) - 1))) - 1)) = (S 63 ((400 * ((S 1092 0) - 1) + (S 58 ((S 1092 0) - 1))) - 2))) ∧ (a.1 ≤ 1 → (a.2 63 ((400 * ((S 1092 0) - 1) + (S 58 ((S 1092 0) - 1))) - 2)) = (S 63 ((400 * ((S 1092 0) - 1) + (S 58 ((S 1092 0) - 1))) - 2))) ∧ (2 ≤ a.1 → (a.2 63 ((400 * ((S 1092 0) - 1) + (S 58 ((S 1092 0) - 1))) - 2)) = (S 63 ((400 * ((S 1092 0) - 1) + (S 58 ((S 1092 0) - 1))) - 3))) ∧ sm_F1 (S 64) (a.2 64) ((400 * ((S 1092 0) - 1) + (S 58 ((S 1092 0) - 1))) - 2) ∧ (1 ≤ a.1 → (a.2 64 ((400 * ((S 1092 0) - 1) + (S 58 ((S 1092 0) - 1))) - 1)) = (S 64 ((400 * ((S 1092 0) - 1) + (S 58 ((S 1092 0) - 1))) - 2))) ∧ (a.1 ≤ 1 → (a.2 64 ((400 * ((S 1092 0) - 1) + (S 58 ((S 1092 0) - 1))) - 2)) = (S 64 ((400 * ((S 1092 0) - 1) + (S 58 ((S 1092 0) - 1))) - 2))) ∧ (2 ≤ a.1 → (a.2 64 ((400 * ((S 1092 0) - 1) + (S 58 ((S 1092 0) - 1))) - 2)) = (S 64 ((400 * ((S 1092 0) - 1) + (S 58 ((S 1092 0) - 1))) - 3))))) (fun a => 2 - a.1) (fun a => sv_T sm_XS sm_cs sm_L sm_sh 2 (q_under p1 p2 S) 162 8 [(0, .ref 0), (1, sv_I p1), (2, sv_I p2), (3, sv_I x2), (4, sv_I a.1)] [] (sv_sts S [63, 64] a.2)) (fun a q => (h a.1 q.1 a.2 q.2.2).1) (fun a q ih6 => ?_)
    obtain ⟨l4_5, g4⟩ := a
    obtain ⟨hl4_5, ok8, hin7i⟩ := q
    have h := (h l4_5 hl4_5 g4 hin7i).2
    show sv_T sm_XS sm_cs sm_L sm_sh 2 (q_under p1 p2 S) 162 8 [(0, .ref 0), (1, sv_I p1), (2, sv_I p2), (3, sv_I x2), (4, sv_I l4_5)] [] (sv_sts S [63, 64] g4)
    have md9 : sv_mod [63, 64, 58] S (sv_sts S [63, 64] g4) := sv_mod.sts sv_mod.rf (by decide)
    have md10 : sv_mod [63, 64] S (sv_sts S [63, 64] g4) := sv_mod.sts sv_mod.rf (by decide)
    refine sv_iload hM dX12_under_8 rfl rfl ?_
    refine sv_iconst (d := (2 : Int)) hM dX12_under_10 rfl rfl ?_
    refine sv_icmp_ge hM dX12_under_11 hl4_5 (⟨by decide, by decide⟩ : sv_R (2 : Int)) (t := 64) rfl rfl (fun hc => ?_) (fun hc => ?_)
    · have h := h.1 (hc)
      refine sv_aload_n hM dX12_under_64 rfl rfl ?_
      refine sv_getA hM dX12_under_65 sm_fl_200 (sm_a0 _) sm_k103 rfl ?_
      refine sv_iload_n hM dX12_under_68 rfl rfl ?_
      refine sv_iconst (d := (3 : Int)) hM dX12_under_69 rfl rfl ?_
      refine sv_isub hM dX12_under_70 rfl ?_
      refine sv_iload_n hM dX12_under_71 rfl rfl ?_
      obtain ⟨o11, h⟩ := h
      refine sv_iast sm_X hM dX12_under_72 (sm_a63 _) (by decide) o11.1 o11.2 rfl ?_
      have ok12 : sm_ok (sv_up (sv_sts S [63, 64] g4) 63 (x2 - (3 : Int)) p1) := sm_upI ok8 sm_r63 hp1
      have md13 : sv_mod [63, 64, 58] S (sv_up (sv_sts S [63, 64] g4) 63 (x2 - (3 : Int)) p1) := sv_mod.up md9 (by decide)
      have md14 : sv_mod [63, 64] S (sv_up (sv_sts S [63, 64] g4) 63 (x2 - (3 : Int)) p1) := sv_mod.up md10 (by decide)
      refine sv_aload_n hM dX12_under_73 rfl rfl ?_
      refine sv_getA hM dX12_under_74 sm_fl_203 (sm_a0 _) sm_k104 rfl ?_
      refine sv_iload_n hM dX12_under_77 rfl rfl ?_
      refine sv_iconst (d := (3 : Int)) hM dX12_under_78 rfl rfl ?_
      refine sv_isub hM dX12_under_79 rfl ?_
      refine sv_iload_n hM dX12_under_80 rfl rfl ?_
      refine sv_iast sm_X hM dX12_under_81 (sm_a64 _) (by decide) o11.1 o11.2 rfl ?_
      have ok15 : sm_ok (sv_up (sv_up (sv_sts S [63, 64] g4) 63 (x2 - (3 : Int)) p1) 64 (x2 - (3 : Int)) p2) := sm_upI ok12 sm_r64 hp2
      have md16 : sv_mod [63, 64, 58] S (sv_up (sv_up (sv_sts S [63, 64] g4) 63 (x2 - (3 : Int)) p1) 64 (x2 - (3 : Int)) p2) := sv_mod.up md13 (by decide)
      have md17 : sv_mod [63, 64] S (sv_up (sv_up (sv_sts S [63, 64] g4) 63 (x2 - (3 : Int)) p1) 64 (x2 - (3 : Int)) p2) := sv_mod.up md14 (by decide)
      refine sv_aload_n hM dX12_under_82 rfl rfl ?_
      refine sv_iload_n hM dX12_under_83 rfl rfl ?_
      refine sv_iload_n hM dX12_under_84 rfl rfl ?_
      obtain ⟨o18, h⟩ := h
      refine sv_callV hM dX12_under_85 sm_iv_885 (by decide) (sm_a0 _) rfl rfl (Nat.le_of_ble_eq_true rfl) sm_h152 (Nat.le_of_ble_eq_true rfl) (Nat.le_of_ble_eq_true rfl) (F' := 1) (Nat.le_of_ble_eq_true rfl) rfl (t_push p1 p2 (sv_up (sv_up (sv_sts S [63, 64] g4) 63 (x2 - (3 : Int)) p1) 64 (x2 - (3 : Int)) p2) ok15 hp1 hp2 o18) (fun v S1 hq => ?_)
      obtain ⟨rfl, ok20, md21, hpo22⟩ := hq
      obtain ⟨g19, rfl⟩ : ∃ g, S1 = sv_sts (sv_up (sv_up (sv_sts S [63, 64] g4) 63 (x2 - (3 : Int)) p1) 64 (x2 - (3 : Int)) p2) [63, 64, 58] g := ⟨_, md21.eq⟩
      show sv_T sm_XS sm_cs sm_L sm_sh 2 (q_under p1 p2 S) 162 88 [(0, .ref 0), (1, sv_I p1), (2, sv_I p2), (3, sv_I x2), (4, sv_I l4_5)] [] (sv_sts (sv_up (sv_up (sv_sts S [63, 64] g4) 63 (x2 - (3 : Int)) p1) 64 (x2 - (3 : Int)) p2) [63, 64, 58] g19)
      have md23 : sv_mod [63, 64, 58] S (sv_sts (sv_up (sv_up (sv_sts S [63, 64] g4) 63 (x2 - (3 : Int)) p1) 64 (x2 - (3 : Int)) p2) [63, 64, 58] g19) := sv_mod.sts md16 (by decide)
      have h := h g19 hpo22
      exact sv_vret hM dX12_under_88 rfl ⟨rfl, ok20, md23, h⟩
    · have h := h.2 (hc)
      refine sv_aload_n hM dX12_under_14 rfl rfl ?_
      refine sv_getA hM dX12_under_15 sm_fl_200 (sm_a0 _) sm_k103 rfl ?_
      refine sv_iload_n hM dX12_under_18 rfl rfl ?_
      refine sv_iconst (d := (1 : Int)) hM dX12_under_19 rfl rfl ?_
      refine sv_isub hM dX12_under_20 rfl ?_
      refine sv_iload hM dX12_under_21 rfl rfl ?_
      refine sv_isub hM dX12_under_23 rfl ?_
      refine sv_aload_n hM dX12_under_24 rfl rfl ?_
      refine sv_getA hM dX12_under_25 sm_fl_200 (sm_a0 _) sm_k103 rfl ?_
      refine sv_iload_n hM dX12_under_28 rfl rfl ?_
      refine sv_iconst (d := (2 : Int)) hM dX12_under_29 rfl rfl ?_
      refine sv_isub hM dX12_under_30 rfl ?_
      refine sv_iload hM dX12_under_31 rfl rfl ?_
      refine sv_isub hM dX12_under_33 rfl ?_
      obtain ⟨o24, h⟩ := h
      have k25 : sv_R (g4 63 ((x2 - (2 : Int)) - l4_5)) := sm_okI ok8 sm_r63 ((x2 - (2 : Int)) - l4_5)
      have h := h k25
      refine sv_iald hM dX12_under_34 (sm_a63 _) (by decide) o24.1 o24.2 rfl (x := (g4 63 ((x2 - (2 : Int)) - l4_5))) rfl ?_
      obtain ⟨o26, h⟩ := h
      refine sv_iast sm_X hM dX12_under_35 (sm_a63 _) (by decide) o26.1 o26.2 rfl ?_
      have ok27 : sm_ok (sv_up (sv_sts S [63, 64] g4) 63 ((x2 - (1 : Int)) - l4_5) (g4 63 ((x2 - (2 : Int)) - l4_5))) := sm_upI ok8 sm_r63 k25
      have md28 : sv_mod [63, 64, 58] S (sv_up (sv_sts S [63, 64] g4) 63 ((x2 - (1 : Int)) - l4_5) (g4 63 ((x2 - (2 : Int)) - l4_5))) := sv_mod.up md9 (by decide)
      have md29 : sv_mod [63, 64] S (sv_up (sv_sts S [63, 64] g4) 63 ((x2 - (1 : Int)) - l4_5) (g4 63 ((x2 - (2 : Int)) - l4_5))) := sv_mod.up md10 (by decide)
      refine sv_aload_n hM dX12_under_36 rfl rfl ?_
      refine sv_getA hM dX12_under_37 sm_fl_203 (sm_a0 _) sm_k104 rfl ?_
      refine sv_iload_n hM dX12_under_40 rfl rfl ?_
      refine sv_iconst (d := (1 : Int)) hM dX12_under_41 rfl rfl ?_
      refine sv_isub hM dX12_under_42 rfl ?_
      refine sv_iload hM dX12_under_43 rfl rfl ?_
      refine sv_isub hM dX12_under_45 rfl ?_
      refine sv_aload_n hM dX12_under_46 rfl rfl ?_
      refine sv_getA hM dX12_under_47 sm_fl_203 (sm_a0 _) sm_k104 rfl ?_
      refine sv_iload_n hM dX12_under_50 rfl rfl ?_
      refine sv_iconst (d := (2 : Int)) hM dX12_under_51 rfl rfl ?_
      refine sv_isub hM dX12_under_52 rfl ?_
      refine sv_iload hM dX12_under_53 rfl rfl ?_
      refine sv_isub hM dX12_under_55 rfl ?_
      have k30 : sv_R (g4 64 ((x2 - (2 : Int)) - l4_5)) := sm_okI ok27 sm_r64 ((x2 - (2 : Int)) - l4_5)
      have h := h k30
      refine sv_iald hM dX12_under_56 (sm_a64 _) (by decide) o24.1 o24.2 rfl (x := (g4 64 ((x2 - (2 : Int)) - l4_5))) rfl ?_
      refine sv_iast sm_X hM dX12_under_57 (sm_a64 _) (by decide) o26.1 o26.2 rfl ?_
      have ok31 : sm_ok (sv_up (sv_up (sv_sts S [63, 64] g4) 63 ((x2 - (1 : Int)) - l4_5) (g4 63 ((x2 - (2 : Int)) - l4_5))) 64 ((x2 - (1 : Int)) - l4_5) (g4 64 ((x2 - (2 : Int)) - l4_5))) := sm_upI ok27 sm_r64 k30
      have md32 : sv_mod [63, 64, 58] S (sv_up (sv_up (sv_sts S [63, 64] g4) 63 ((x2 - (1 : Int)) - l4_5) (g4 63 ((x2 - (2 : Int)) - l4_5))) 64 ((x2 - (1 : Int)) - l4_5) (g4 64 ((x2 - (2 : Int)) - l4_5))) := sv_mod.up md28 (by decide)
      have md33 : sv_mod [63, 64] S (sv_up (sv_up (sv_sts S [63, 64] g4) 63 ((x2 - (1 : Int)) - l4_5) (g4 63 ((x2 - (2 : Int)) - l4_5))) 64 ((x2 - (1 : Int)) - l4_5) (g4 64 ((x2 - (2 : Int)) - l4_5))) := sv_mod.up md29 (by decide)
      refine sv_iinc (d := (1 : Int)) hM dX12_under_58 rfl (by decide) rfl rfl ?_
      show sv_T sm_XS sm_cs sm_L sm_sh 2 (q_under p1 p2 S) 162 61 [(0, .ref 0), (1, sv_I p1), (2, sv_I p2), (3, sv_I x2), (4, sv_I (l4_5 + (1 : Int)))] [] (sv_up (sv_up (sv_sts S [63, 64] g4) 63 ((x2 - (1 : Int)) - l4_5) (g4 63 ((x2 - (2 : Int)) - l4_5))) 64 ((x2 - (1 : Int)) - l4_5) (g4 64 ((x2 - (2 : Int)) - l4_5)))
      refine sv_goto hM dX12_under_61 (pc' := 8) rfl ?_
      obtain ⟨o34, h⟩ := h
      have eS := sv_mod.eq md33
      have hb := ih6 ((l4_5 + (1 : Int)), (sv_up (sv_up (sv_sts S [63, 64] g4) 63 ((x2 - (1 : Int)) - l4_5) (g4 63 ((x2 - (2 : Int)) - l4_5))) 64 ((x2 - (1 : Int)) - l4_5) (g4 64 ((x2 - (2 : Int)) - l4_5)))) ⟨o34, (by rw [← eS]; exact ok31), h.1⟩ h.2
      have hb : sv_T sm_XS sm_cs sm_L sm_sh 2 (q_under p1 p2 S) 162 8 [(0, .ref 0), (1, sv_I p1), (2, sv_I p2), (3, sv_I x2), (4, sv_I (l4_5 + (1 : Int)))] [] (sv_up (sv_up (sv_sts S [63, 64] g4) 63 ((x2 - (1 : Int)) - l4_5) (g4 63 ((x2 - (2 : Int)) - l4_5))) 64 ((x2 - (1 : Int)) - l4_5) (g4 64 ((x2 - (2 : Int)) - l4_5))) := Eq.mpr (congrArg (fun Z => sv_T sm_XS sm_cs sm_L sm_sh 2 (q_under p1 p2 S) 162 8 [(0, .ref 0), (1, sv_I p1), (2, sv_I p2), (3, sv_I x2), (4, sv_I (l4_5 + (1 : Int)))] [] Z) eS) hb
      exact sv_less (lv := [(0, .ref 0), (1, sv_I p1), (2, sv_I p2), (3, sv_I x2), (4, sv_I (l4_5 + (1 : Int)))]) (sv_Sub_cons rfl (sv_Sub_cons rfl (sv_Sub_cons rfl (sv_Sub_cons rfl (sv_Sub_cons rfl sv_Sub_nil))))) hb
  have eS := sv_mod.eq (sv_mod.rf (l := [63, 64]) (S := S))
  have hb := hJ ((0 : Int), S) ⟨(⟨by decide, by decide⟩ : sv_R (0 : Int)), (by rw [← eS]; exact hok), hin7⟩
  have hb : sv_T sm_XS sm_cs sm_L sm_sh 2 (q_under p1 p2 S) 162 8 [(0, .ref 0), (1, sv_I p1), (2, sv_I p2), (3, sv_I x2), (4, sv_I (0 : Int))] [] S := Eq.mpr (congrArg (fun Z => sv_T sm_XS sm_cs sm_L sm_sh 2 (q_under p1 p2 S) 162 8 [(0, .ref 0), (1, sv_I p1), (2, sv_I p2), (3, sv_I x2), (4, sv_I (0 : Int))] [] Z) eS) hb
  exact hb
