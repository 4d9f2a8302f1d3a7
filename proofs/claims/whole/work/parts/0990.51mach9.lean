theorem dX12_callOf_0 : decode cX12_callOf 0 = .ok (.aload_n 0, 1) := by decide +kernel
theorem dX12_callOf_1 : decode cX12_callOf 1 = .ok (.iload_n 1, 1) := by decide +kernel
theorem dX12_callOf_2 : decode cX12_callOf 2 = .ok (.iload_n 2, 1) := by decide +kernel
theorem dX12_callOf_3 : decode cX12_callOf 3 = .ok (.invokevirtual 992, 3) := by decide +kernel
theorem dX12_callOf_6 : decode cX12_callOf 6 = .ok (.ifCond .ne 12, 3) := by decide +kernel
theorem dX12_callOf_9 : decode cX12_callOf 9 = .ok (.aload_n 0, 1) := by decide +kernel
theorem dX12_callOf_10 : decode cX12_callOf 10 = .ok (.bipush 6, 2) := by decide +kernel
theorem dX12_callOf_12 : decode cX12_callOf 12 = .ok (.invokevirtual 966, 3) := by decide +kernel
theorem dX12_callOf_15 : decode cX12_callOf 15 = .ok (.goto 85, 3) := by decide +kernel
theorem dX12_callOf_18 : decode cX12_callOf 18 = .ok (.iload_n 2, 1) := by decide +kernel
theorem dX12_callOf_19 : decode cX12_callOf 19 = .ok (.bipush 9, 2) := by decide +kernel
theorem dX12_callOf_21 : decode cX12_callOf 21 = .ok (.if_icmp .lt 49, 3) := by decide +kernel
theorem dX12_callOf_24 : decode cX12_callOf 24 = .ok (.iload_n 2, 1) := by decide +kernel
theorem dX12_callOf_25 : decode cX12_callOf 25 = .ok (.bipush 23, 2) := by decide +kernel
theorem dX12_callOf_27 : decode cX12_callOf 27 = .ok (.if_icmp .ge 43, 3) := by decide +kernel
theorem dX12_callOf_30 : decode cX12_callOf 30 = .ok (.aload_n 0, 1) := by decide +kernel
theorem dX12_callOf_31 : decode cX12_callOf 31 = .ok (.getfield 146, 3) := by decide +kernel
theorem dX12_callOf_34 : decode cX12_callOf 34 = .ok (.iload_n 2, 1) := by decide +kernel
theorem dX12_callOf_35 : decode cX12_callOf 35 = .ok (.iaload, 1) := by decide +kernel
theorem dX12_callOf_36 : decode cX12_callOf 36 = .ok (.ifCond .ne 34, 3) := by decide +kernel
theorem dX12_callOf_39 : decode cX12_callOf 39 = .ok (.iload_n 2, 1) := by decide +kernel
theorem dX12_callOf_40 : decode cX12_callOf 40 = .ok (.bipush 20, 2) := by decide +kernel
theorem dX12_callOf_42 : decode cX12_callOf 42 = .ok (.if_icmp .ne 15, 3) := by decide +kernel
theorem dX12_callOf_45 : decode cX12_callOf 45 = .ok (.aload_n 0, 1) := by decide +kernel
theorem dX12_callOf_46 : decode cX12_callOf 46 = .ok (.iload_n 3, 1) := by decide +kernel
theorem dX12_callOf_47 : decode cX12_callOf 47 = .ok (.iload 4, 2) := by decide +kernel
theorem dX12_callOf_49 : decode cX12_callOf 49 = .ok (.iload 5, 2) := by decide +kernel
theorem dX12_callOf_51 : decode cX12_callOf 51 = .ok (.invokevirtual 1005, 3) := by decide +kernel
theorem dX12_callOf_54 : decode cX12_callOf 54 = .ok (.goto 46, 3) := by decide +kernel
theorem dX12_callOf_57 : decode cX12_callOf 57 = .ok (.aload_n 0, 1) := by decide +kernel
theorem dX12_callOf_58 : decode cX12_callOf 58 = .ok (.iload_n 2, 1) := by decide +kernel
theorem dX12_callOf_59 : decode cX12_callOf 59 = .ok (.iload_n 3, 1) := by decide +kernel
theorem dX12_callOf_60 : decode cX12_callOf 60 = .ok (.iload 4, 2) := by decide +kernel
theorem dX12_callOf_62 : decode cX12_callOf 62 = .ok (.iload 5, 2) := by decide +kernel
theorem dX12_callOf_64 : decode cX12_callOf 64 = .ok (.invokevirtual 1008, 3) := by decide +kernel
theorem dX12_callOf_67 : decode cX12_callOf 67 = .ok (.goto 33, 3) := by decide +kernel
theorem dX12_callOf_70 : decode cX12_callOf 70 = .ok (.aload_n 0, 1) := by decide +kernel
theorem dX12_callOf_71 : decode cX12_callOf 71 = .ok (.getfield 872, 3) := by decide +kernel
theorem dX12_callOf_74 : decode cX12_callOf 74 = .ok (.bipush 24, 2) := by decide +kernel
theorem dX12_callOf_76 : decode cX12_callOf 76 = .ok (.if_icmp .ne 12, 3) := by decide +kernel
theorem dX12_callOf_79 : decode cX12_callOf 79 = .ok (.aload_n 0, 1) := by decide +kernel
theorem dX12_callOf_80 : decode cX12_callOf 80 = .ok (.bipush 8, 2) := by decide +kernel
theorem dX12_callOf_82 : decode cX12_callOf 82 = .ok (.invokevirtual 966, 3) := by decide +kernel
theorem dX12_callOf_85 : decode cX12_callOf 85 = .ok (.goto 15, 3) := by decide +kernel
theorem dX12_callOf_88 : decode cX12_callOf 88 = .ok (.aload_n 0, 1) := by decide +kernel
theorem dX12_callOf_89 : decode cX12_callOf 89 = .ok (.iload_n 2, 1) := by decide +kernel
theorem dX12_callOf_90 : decode cX12_callOf 90 = .ok (.iload_n 3, 1) := by decide +kernel
theorem dX12_callOf_91 : decode cX12_callOf 91 = .ok (.iload 4, 2) := by decide +kernel
theorem dX12_callOf_93 : decode cX12_callOf 93 = .ok (.iload 5, 2) := by decide +kernel
theorem dX12_callOf_95 : decode cX12_callOf 95 = .ok (.iload 6, 2) := by decide +kernel
theorem dX12_callOf_97 : decode cX12_callOf 97 = .ok (.invokevirtual 1011, 3) := by decide +kernel
theorem dX12_callOf_100 : decode cX12_callOf 100 = .ok (.return_, 1) := by decide +kernel
theorem dX12_callAgain_0 : decode cX12_callAgain 0 = .ok (.aload_n 0, 1) := by decide +kernel
theorem dX12_callAgain_1 : decode cX12_callAgain 1 = .ok (.iconst 0, 1) := by decide +kernel
theorem dX12_callAgain_2 : decode cX12_callAgain 2 = .ok (.invokevirtual 1014, 3) := by decide +kernel
theorem dX12_callAgain_5 : decode cX12_callAgain 5 = .ok (.istore 4, 2) := by decide +kernel
theorem dX12_callAgain_7 : decode cX12_callAgain 7 = .ok (.aload_n 0, 1) := by decide +kernel
theorem dX12_callAgain_8 : decode cX12_callAgain 8 = .ok (.iconst 0, 1) := by decide +kernel
theorem dX12_callAgain_9 : decode cX12_callAgain 9 = .ok (.invokevirtual 1017, 3) := by decide +kernel
theorem dX12_callAgain_12 : decode cX12_callAgain 12 = .ok (.istore 5, 2) := by decide +kernel
theorem dX12_callAgain_14 : decode cX12_callAgain 14 = .ok (.aload_n 0, 1) := by decide +kernel
theorem dX12_callAgain_15 : decode cX12_callAgain 15 = .ok (.getfield 995, 3) := by decide +kernel
theorem dX12_callAgain_18 : decode cX12_callAgain 18 = .ok (.ifCond .le 23, 3) := by decide +kernel
theorem dX12_callAgain_21 : decode cX12_callAgain 21 = .ok (.aload_n 0, 1) := by decide +kernel
theorem dX12_callAgain_22 : decode cX12_callAgain 22 = .ok (.dup, 1) := by decide +kernel
theorem dX12_callAgain_23 : decode cX12_callAgain 23 = .ok (.getfield 998, 3) := by decide +kernel
theorem dX12_callAgain_26 : decode cX12_callAgain 26 = .ok (.iconst 1, 1) := by decide +kernel
theorem dX12_callAgain_27 : decode cX12_callAgain 27 = .ok (.iadd, 1) := by decide +kernel
theorem dX12_callAgain_28 : decode cX12_callAgain 28 = .ok (.putfield 998, 3) := by decide +kernel
theorem dX12_callAgain_31 : decode cX12_callAgain 31 = .ok (.aload_n 0, 1) := by decide +kernel
theorem dX12_callAgain_32 : decode cX12_callAgain 32 = .ok (.dup, 1) := by decide +kernel
theorem dX12_callAgain_33 : decode cX12_callAgain 33 = .ok (.getfield 995, 3) := by decide +kernel
theorem dX12_callAgain_36 : decode cX12_callAgain 36 = .ok (.iconst 1, 1) := by decide +kernel
theorem dX12_callAgain_37 : decode cX12_callAgain 37 = .ok (.isub, 1) := by decide +kernel
theorem dX12_callAgain_38 : decode cX12_callAgain 38 = .ok (.putfield 995, 3) := by decide +kernel
theorem dX12_callAgain_41 : decode cX12_callAgain 41 = .ok (.aload_n 0, 1) := by decide +kernel
theorem dX12_callAgain_42 : decode cX12_callAgain 42 = .ok (.iload_n 1, 1) := by decide +kernel
theorem dX12_callAgain_43 : decode cX12_callAgain 43 = .ok (.iload_n 2, 1) := by decide +kernel
theorem dX12_callAgain_44 : decode cX12_callAgain 44 = .ok (.iload 4, 2) := by decide +kernel
theorem dX12_callAgain_46 : decode cX12_callAgain 46 = .ok (.iload 5, 2) := by decide +kernel
theorem dX12_callAgain_48 : decode cX12_callAgain 48 = .ok (.iload_n 3, 1) := by decide +kernel
theorem dX12_callAgain_49 : decode cX12_callAgain 49 = .ok (.iconst (-1), 1) := by decide +kernel
theorem dX12_callAgain_50 : decode cX12_callAgain 50 = .ok (.invokevirtual 1001, 3) := by decide +kernel
theorem dX12_callAgain_53 : decode cX12_callAgain 53 = .ok (.return_, 1) := by decide +kernel
def q_callOf (p1 : Int) (p2 : Int) (p3 : Int) (p4 : Int) (p5 : Int) (p6 : Int) (S : sv_S) : Option Value → sv_S → Prop := fun v S' => v = none ∧ sm_ok S' ∧ sv_mod [1076, 41, 42, 43, 44, 45, 46, 47, 1075, 1100029, 1084, 1085, 48, 1086, 51, 52, 49, 50, 1100020, 1100021, 1100022, 58, 63, 64, 57, 1092, 53, 54, 55, 56, 59, 60, 1073, 1109, 1110, 1111, 1112, 5, 1011, 3, 4, 1007, 1113, 1107, 67, 1100032, 1114, 1115] S S' ∧ (sm_PL (S' 1100020) (S' 51) (S' 52) (S' 46) (S' 47) (S' 1076 0) (S' 1086 0) ∧ sm_FR (S' 1100020) (S' 52) (S' 1100021) (S' 1100022) (3000 - (S' 1084 0)) (S' 1085 0) ∧ sm_PV (S' 1100020) (S' 48) (S' 49) (S' 50) (S' 44) (S' 1076 0) (S' 1007 0) ∧ sm_AL (S' 1100020) (S' 48) (S' 49) (S' 50) (S' 44) (S' 1076 0) (S' 1100032 0) ∧ sm_SV (S' 1100020) (S' 48) (S' 1100029) (S' 32) (S' 33) (S' 1076 0) (S' 1032 0) ∧ 0 ≤ (S' 1076 0) ∧ (S' 1076 0) ≤ 300 ∧ 0 ≤ (S' 1084 0) ∧ (S' 1084 0) ≤ 3000 ∧ 0 ≤ (S' 1086 0) ∧ sm_SC (S' 1100029) (S' 44) (S' 45) (S' 43) (S' 21) (S' 1076 0) (S' 1032 0) ∧ sm_PO (S' 42) (S' 1076 0) ∧ ((S' 1075 0) = 0 → (S' 1100032 0) = -1 ∧ sm_FO (S' 44) (S' 45) (S' 1076 0)) ∧ 23 ≤ (S' 1076 0) ∧ 31 ≤ (S' 1007 0) ∧ (S' 1007 0) ≤ 400 ∧ sm_LN (S' 4) 400 (S' 1007 0) ∧ (S' 1008 0) ≤ (S' 1007 0) ∧ ((S 1075 0) = 1 → (S' 1075 0) = 1) ∧ 0 ≤ (S' 1092 0) ∧ (S' 1092 0) ≤ 24 ∧ (S 1007 0) ≤ (S' 1007 0) ∧ (¬ (S' 1075 0) = 0 → sm_LX (S' 58) (S' 63) (S' 64) (S' 1092 0) (S' 1076 0)) ∧ ((S' 1075 0) = 0 → (S' 1073 0) = 1 → 1 ≤ (S' 1092 0) ∧ (S' 1092 0) ≤ 24 ∧ 0 ≤ (S' 57 ((S' 1092 0) - 1)) ∧ (S' 57 ((S' 1092 0) - 1)) < (S' 1046 0) ∧ (S' 29 (S' 57 ((S' 1092 0) - 1))) = (S' 53 ((S' 1092 0) - 1)) ∧ 0 ≤ (S' 53 ((S' 1092 0) - 1)) ∧ (S' 53 ((S' 1092 0) - 1)) < (S' 1032 0) ∧ (S' 60 ((S' 1092 0) - 1)) = sm_dp (S' 1100024) (S' 1100023 (S' 57 ((S' 1092 0) - 1))) ∧ sm_TC (S' 61) (S' 62) (S' 27) (S' 1100007) (S' 1100023) (S' 1100024) (40 * ((S' 1092 0) - 1)) (S' 1100023 (S' 57 ((S' 1092 0) - 1))) ∧ sm_LK (S' 1100029) (S' 1076 0) (S' 54 ((S' 1092 0) - 1)) (S' 53 ((S' 1092 0) - 1)) ∧ sm_VO (S' 44) (S' 1076 0) (S' 1007 0) ((S' 55 ((S' 1092 0) - 1))) ((S' 56 ((S' 1092 0) - 1))) ∧ sm_FW (S' 44) (S' 1076 0) (S' 59 ((S' 1092 0) - 1)) ∧ sm_FL (S' 53) (S' 54) (S' 55) (S' 56) (S' 57) (S' 58) (S' 59) (S' 60) (S' 61) (S' 62) (S' 63) (S' 64) (S' 27) (S' 29) (S' 1100007) (S' 1100023) (S' 1100024) (S' 1100025) (S' 26) (S' 1100029) (S' 44) (S' 1046 0) (S' 1032 0) (S' 1076 0) (S' 1007 0) (((S' 1092 0) - 1)) ∧ (S' 58 ((S' 1092 0) - 1)) = (S' 1100007 (S' 57 ((S' 1092 0) - 1))) ∧ sm_SK (S' 63) (S' 64) (S' 44) (S' 1100007) (S' 1100025) (S' 1076 0) (S' 1007 0) (400 * ((S' 1092 0) - 1)) ((S' 58 ((S' 1092 0) - 1))) ((S' 1100025 (S' 57 ((S' 1092 0) - 1))))) ∧ ((S' 1073 0) = 1 ∨ (S' 1092 0) = 0 ∧ (S' 1075 0) = 0 ∧ ((S' 1073 0) = 2 ∨ (S' 1073 0) = 3)) ∧ (S 1086 0) ≤ (S' 1086 0) ∧ (S' 1086 0) ≤ (S 1086 0) + 110 ∧ 0 ≤ (S' 1107 0) ∧ (S' 1107 0) ≤ 100 ∧ sm_PT (S' 67) (S' 1107 0) (S' 1007 0))
def T_callOf (d : Int) : Prop := ∀ (p1 : Int) (p2 : Int) (p3 : Int) (p4 : Int) (p5 : Int) (p6 : Int) (S : sv_S), sm_ok S → sv_R p1 → sv_R p2 → sv_R p3 → sv_R p4 → sv_R p5 → sv_R p6 → ((S 1075 0) = 0 ∧ (S 1073 0) = 1 ∧ sm_LX (S 58) (S 63) (S 64) (S 1092 0) (S 1076 0) ∧ sm_PL (S 1100020) (S 51) (S 52) (S 46) (S 47) (S 1076 0) (S 1086 0) ∧ sm_FR (S 1100020) (S 52) (S 1100021) (S 1100022) (3000 - (S 1084 0)) (S 1085 0) ∧ sm_PV (S 1100020) (S 48) (S 49) (S 50) (S 44) (S 1076 0) (S 1007 0) ∧ sm_AL (S 1100020) (S 48) (S 49) (S 50) (S 44) (S 1076 0) (S 1100032 0) ∧ sm_SV (S 1100020) (S 48) (S 1100029) (S 32) (S 33) (S 1076 0) (S 1032 0) ∧ 0 ≤ (S 1076 0) ∧ (S 1076 0) ≤ 300 ∧ 0 ≤ (S 1084 0) ∧ (S 1084 0) ≤ 3000 ∧ 0 ≤ (S 1086 0) ∧ sm_SC (S 1100029) (S 44) (S 45) (S 43) (S 21) (S 1076 0) (S 1032 0) ∧ sm_PO (S 42) (S 1076 0) ∧ (S 1100032 0) = -1 ∧ sm_FO (S 44) (S 45) (S 1076 0) ∧ 23 ≤ (S 1076 0) ∧ 31 ≤ (S 1007 0) ∧ (S 1007 0) ≤ 400 ∧ sm_LN (S 4) 400 (S 1007 0) ∧ sm_CT (S 26) (S 27) (S 28) (S 29) (S 1100007) (S 1100023) (S 1100024) (S 1100025) (S 21) (S 1046 0) (S 1032 0) (S 1008 0) (S 1055 0) ∧ sm_LS (S 26) (S 1100007) (S 1100025) (S 1046 0) ∧ sm_CL (S 1100007) (S 1100023) (S 1100025) (S 1046 0) ∧ 1 ≤ (S 1032 0) ∧ (S 1032 0) ≤ 11 ∧ 0 ≤ (S 1046 0) ∧ (S 1046 0) ≤ 600 ∧ 31 ≤ (S 1008 0) ∧ (S 1008 0) ≤ (S 1007 0) ∧ 0 ≤ (S 1055 0) ∧ (S 1055 0) ≤ 19 ∧ 1 ≤ (S 1092 0) ∧ (S 1092 0) ≤ 24 ∧ 0 ≤ (S 1100033 0) ∧ (S 1100033 0) < (S 1046 0) ∧ (S 29 (S 1100033 0)) = (S 53 ((S 1092 0) - 1)) ∧ 0 ≤ (S 53 ((S 1092 0) - 1)) ∧ (S 53 ((S 1092 0) - 1)) < (S 1032 0) ∧ (S 60 ((S 1092 0) - 1)) = sm_dp (S 1100024) (S 1100023 (S 1100033 0)) ∧ sm_TC (S 61) (S 62) (S 27) (S 1100007) (S 1100023) (S 1100024) (40 * ((S 1092 0) - 1)) (S 1100023 (S 1100033 0)) ∧ sm_LK (S 1100029) (S 1076 0) (S 54 ((S 1092 0) - 1)) (S 53 ((S 1092 0) - 1)) ∧ sm_VO (S 44) (S 1076 0) (S 1007 0) ((S 55 ((S 1092 0) - 1))) ((S 56 ((S 1092 0) - 1))) ∧ sm_FW (S 44) (S 1076 0) (S 59 ((S 1092 0) - 1)) ∧ sm_FL (S 53) (S 54) (S 55) (S 56) (S 57) (S 58) (S 59) (S 60) (S 61) (S 62) (S 63) (S 64) (S 27) (S 29) (S 1100007) (S 1100023) (S 1100024) (S 1100025) (S 26) (S 1100029) (S 44) (S 1046 0) (S 1032 0) (S 1076 0) (S 1007 0) (((S 1092 0) - 1)) ∧ (S 57 ((S 1092 0) - 1)) = (S 1100033 0) ∧ 0 ≤ (S 58 ((S 1092 0) - 1)) ∧ (S 58 ((S 1092 0) - 1)) ≤ 400 ∧ sm_SK (S 63) (S 64) (S 44) (S 1100007) (S 1100025) (S 1076 0) (S 1007 0) (400 * ((S 1092 0) - 1)) ((S 58 ((S 1092 0) - 1))) ((S 1100034 0)) ∧ -1 ≤ (S 1100034 0) ∧ (S 1100034 0) < (S 1046 0) ∧ (0 ≤ (S 1100034 0) → (S 26 (S 1100034 0)) = 29) ∧ (S 58 ((S 1092 0) - 1)) = (S 1100007 (S 1100033 0)) ∧ (S 1100034 0) = (S 1100025 (S 1100033 0)) ∧ (0 ≤ (S 1100023 (S 1100033 0)) → (S 1100007 (S 1100023 (S 1100033 0))) ≤ (S 58 ((S 1092 0) - 1))) ∧ (S 58 ((S 1092 0) - 1)) ≤ 396 ∧ 1 ≤ p5 ∧ p5 ≤ (S 58 ((S 1092 0) - 1)) ∧ (0 ≤ (S 1100034 0) → (S 1100007 (S 1100034 0)) ≤ (S 58 ((S 1092 0) - 1)) - p5) ∧ (S 1100033 0) + 1 < (S 1046 0) ∧ (S 29 ((S 1100033 0) + 1)) = (S 29 (S 1100033 0)) ∧ (S 1100007 ((S 1100033 0) + 1)) = (S 58 ((S 1092 0) - 1)) + 1 - p5 ∧ (S 1100023 ((S 1100033 0) + 1)) = (S 1100023 (S 1100033 0)) ∧ (S 1100025 ((S 1100033 0) + 1)) = (S 1100034 0) ∧ (0 ≤ (S 1100023 (S 1100033 0)) → (S 1100007 (S 1100023 (S 1100033 0))) ≤ (S 58 ((S 1092 0) - 1)) - p5) ∧ 0 ≤ (S 1115 0) ∧ (S 1115 0) ≤ p5 - 1 ∧ (S 1114 0) + (S 1115 0) = (400 * ((S 1092 0) - 1) + (S 58 ((S 1092 0) - 1))) ∧ (∀ g : Int, 0 ≤ g → g < (S 1032 0) → 0 ≤ (S 30 g) ∧ (S 30 g) < (S 1046 0) ∧ (S 1100007 (S 30 g)) = 0 ∧ (S 1100023 (S 30 g)) = -1 ∧ 0 ≤ (S 33 g) ∧ (S 33 g) ≤ 100 ∧ 0 ≤ (S 20 g) ∧ (S 20 g) ≤ 8) ∧ sm_VN (S 32) (S 33) (S 1032 0) (S 1008 0) ∧ (∀ f : Int, 0 ≤ f → f < (S 1032 0) → 0 ≤ (S 30 f) ∧ (S 30 f) < (S 1046 0) ∧ (S 29 (S 30 f)) = f ∧ (S 1100007 (S 30 f)) = 0 ∧ (S 1100023 (S 30 f)) = -1 ∧ (S 1100025 (S 30 f)) = -1) ∧ (S 1086 0) ≤ 1900000000 ∧ 0 ≤ (S 1107 0) ∧ (S 1107 0) ≤ 100 ∧ sm_PT (S 67) (S 1107 0) (S 1007 0) ∧ sm_VO (S 44) (S 1076 0) (S 1007 0) (p1) (p2) ∧ sm_VO (S 44) (S 1076 0) (S 1007 0) (p3) (p4) ∧ sm_FW (S 44) (S 1076 0) p6) → (2 * (4 * (S 1115 0) + (if p1 = 7 then 1 else 0) + (if p3 = 7 then 1 else 0))) = d → sv_T sm_XS sm_cs sm_L sm_sh (2 * (4 * (S 1115 0) + (if p1 = 7 then 1 else 0) + (if p3 = 7 then 1 else 0)) + 20).toNat (q_callOf p1 p2 p3 p4 p5 p6 S) 181 0 (lv_args 0 [.ref 0, sv_I p1, sv_I p2, sv_I p3, sv_I p4, sv_I p5, sv_I p6]) [] S
def q_callAgain (p1 : Int) (p2 : Int) (p3 : Int) (S : sv_S) : Option Value → sv_S → Prop := fun v S' => v = none ∧ sm_ok S' ∧ sv_mod [1076, 41, 42, 43, 44, 45, 46, 47, 1075, 1100029, 1084, 1085, 48, 1086, 51, 52, 49, 50, 1100020, 1100021, 1100022, 58, 63, 64, 57, 1092, 53, 54, 55, 56, 59, 60, 1073, 1109, 1110, 1111, 1112, 5, 1011, 3, 4, 1007, 1113, 1107, 67, 1100032, 1114, 1115] S S' ∧ (sm_PL (S' 1100020) (S' 51) (S' 52) (S' 46) (S' 47) (S' 1076 0) (S' 1086 0) ∧ sm_FR (S' 1100020) (S' 52) (S' 1100021) (S' 1100022) (3000 - (S' 1084 0)) (S' 1085 0) ∧ sm_PV (S' 1100020) (S' 48) (S' 49) (S' 50) (S' 44) (S' 1076 0) (S' 1007 0) ∧ sm_AL (S' 1100020) (S' 48) (S' 49) (S' 50) (S' 44) (S' 1076 0) (S' 1100032 0) ∧ sm_SV (S' 1100020) (S' 48) (S' 1100029) (S' 32) (S' 33) (S' 1076 0) (S' 1032 0) ∧ 0 ≤ (S' 1076 0) ∧ (S' 1076 0) ≤ 300 ∧ 0 ≤ (S' 1084 0) ∧ (S' 1084 0) ≤ 3000 ∧ 0 ≤ (S' 1086 0) ∧ sm_SC (S' 1100029) (S' 44) (S' 45) (S' 43) (S' 21) (S' 1076 0) (S' 1032 0) ∧ sm_PO (S' 42) (S' 1076 0) ∧ ((S' 1075 0) = 0 → (S' 1100032 0) = -1 ∧ sm_FO (S' 44) (S' 45) (S' 1076 0)) ∧ 23 ≤ (S' 1076 0) ∧ 31 ≤ (S' 1007 0) ∧ (S' 1007 0) ≤ 400 ∧ sm_LN (S' 4) 400 (S' 1007 0) ∧ (S' 1008 0) ≤ (S' 1007 0) ∧ ((S 1075 0) = 1 → (S' 1075 0) = 1) ∧ 0 ≤ (S' 1092 0) ∧ (S' 1092 0) ≤ 24 ∧ (S 1007 0) ≤ (S' 1007 0) ∧ (¬ (S' 1075 0) = 0 → sm_LX (S' 58) (S' 63) (S' 64) (S' 1092 0) (S' 1076 0)) ∧ ((S' 1075 0) = 0 → (S' 1073 0) = 1 → 1 ≤ (S' 1092 0) ∧ (S' 1092 0) ≤ 24 ∧ 0 ≤ (S' 57 ((S' 1092 0) - 1)) ∧ (S' 57 ((S' 1092 0) - 1)) < (S' 1046 0) ∧ (S' 29 (S' 57 ((S' 1092 0) - 1))) = (S' 53 ((S' 1092 0) - 1)) ∧ 0 ≤ (S' 53 ((S' 1092 0) - 1)) ∧ (S' 53 ((S' 1092 0) - 1)) < (S' 1032 0) ∧ (S' 60 ((S' 1092 0) - 1)) = sm_dp (S' 1100024) (S' 1100023 (S' 57 ((S' 1092 0) - 1))) ∧ sm_TC (S' 61) (S' 62) (S' 27) (S' 1100007) (S' 1100023) (S' 1100024) (40 * ((S' 1092 0) - 1)) (S' 1100023 (S' 57 ((S' 1092 0) - 1))) ∧ sm_LK (S' 1100029) (S' 1076 0) (S' 54 ((S' 1092 0) - 1)) (S' 53 ((S' 1092 0) - 1)) ∧ sm_VO (S' 44) (S' 1076 0) (S' 1007 0) ((S' 55 ((S' 1092 0) - 1))) ((S' 56 ((S' 1092 0) - 1))) ∧ sm_FW (S' 44) (S' 1076 0) (S' 59 ((S' 1092 0) - 1)) ∧ sm_FL (S' 53) (S' 54) (S' 55) (S' 56) (S' 57) (S' 58) (S' 59) (S' 60) (S' 61) (S' 62) (S' 63) (S' 64) (S' 27) (S' 29) (S' 1100007) (S' 1100023) (S' 1100024) (S' 1100025) (S' 26) (S' 1100029) (S' 44) (S' 1046 0) (S' 1032 0) (S' 1076 0) (S' 1007 0) (((S' 1092 0) - 1)) ∧ (S' 58 ((S' 1092 0) - 1)) = (S' 1100007 (S' 57 ((S' 1092 0) - 1))) ∧ sm_SK (S' 63) (S' 64) (S' 44) (S' 1100007) (S' 1100025) (S' 1076 0) (S' 1007 0) (400 * ((S' 1092 0) - 1)) ((S' 58 ((S' 1092 0) - 1))) ((S' 1100025 (S' 57 ((S' 1092 0) - 1))))) ∧ ((S' 1073 0) = 1 ∨ (S' 1092 0) = 0 ∧ (S' 1075 0) = 0 ∧ ((S' 1073 0) = 2 ∨ (S' 1073 0) = 3)) ∧ (S 1086 0) ≤ (S' 1086 0) ∧ (S' 1086 0) ≤ (S 1086 0) + 110 ∧ 0 ≤ (S' 1107 0) ∧ (S' 1107 0) ≤ 100 ∧ sm_PT (S' 67) (S' 1107 0) (S' 1007 0))
def T_callAgain (d : Int) : Prop := ∀ (p1 : Int) (p2 : Int) (p3 : Int) (S : sv_S), sm_ok S → sv_R p1 → sv_R p2 → sv_R p3 → ((S 1075 0) = 0 ∧ (S 1073 0) = 1 ∧ sm_LX (S 58) (S 63) (S 64) (S 1092 0) (S 1076 0) ∧ sm_PL (S 1100020) (S 51) (S 52) (S 46) (S 47) (S 1076 0) (S 1086 0) ∧ sm_FR (S 1100020) (S 52) (S 1100021) (S 1100022) (3000 - (S 1084 0)) (S 1085 0) ∧ sm_PV (S 1100020) (S 48) (S 49) (S 50) (S 44) (S 1076 0) (S 1007 0) ∧ sm_AL (S 1100020) (S 48) (S 49) (S 50) (S 44) (S 1076 0) (S 1100032 0) ∧ sm_SV (S 1100020) (S 48) (S 1100029) (S 32) (S 33) (S 1076 0) (S 1032 0) ∧ 0 ≤ (S 1076 0) ∧ (S 1076 0) ≤ 300 ∧ 0 ≤ (S 1084 0) ∧ (S 1084 0) ≤ 3000 ∧ 0 ≤ (S 1086 0) ∧ sm_SC (S 1100029) (S 44) (S 45) (S 43) (S 21) (S 1076 0) (S 1032 0) ∧ sm_PO (S 42) (S 1076 0) ∧ (S 1100032 0) = -1 ∧ sm_FO (S 44) (S 45) (S 1076 0) ∧ 23 ≤ (S 1076 0) ∧ 31 ≤ (S 1007 0) ∧ (S 1007 0) ≤ 400 ∧ sm_LN (S 4) 400 (S 1007 0) ∧ sm_CT (S 26) (S 27) (S 28) (S 29) (S 1100007) (S 1100023) (S 1100024) (S 1100025) (S 21) (S 1046 0) (S 1032 0) (S 1008 0) (S 1055 0) ∧ sm_LS (S 26) (S 1100007) (S 1100025) (S 1046 0) ∧ sm_CL (S 1100007) (S 1100023) (S 1100025) (S 1046 0) ∧ 1 ≤ (S 1032 0) ∧ (S 1032 0) ≤ 11 ∧ 0 ≤ (S 1046 0) ∧ (S 1046 0) ≤ 600 ∧ 31 ≤ (S 1008 0) ∧ (S 1008 0) ≤ (S 1007 0) ∧ 0 ≤ (S 1055 0) ∧ (S 1055 0) ≤ 19 ∧ 1 ≤ (S 1092 0) ∧ (S 1092 0) ≤ 24 ∧ 0 ≤ (S 1100033 0) ∧ (S 1100033 0) < (S 1046 0) ∧ (S 29 (S 1100033 0)) = (S 53 ((S 1092 0) - 1)) ∧ 0 ≤ (S 53 ((S 1092 0) - 1)) ∧ (S 53 ((S 1092 0) - 1)) < (S 1032 0) ∧ (S 60 ((S 1092 0) - 1)) = sm_dp (S 1100024) (S 1100023 (S 1100033 0)) ∧ sm_TC (S 61) (S 62) (S 27) (S 1100007) (S 1100023) (S 1100024) (40 * ((S 1092 0) - 1)) (S 1100023 (S 1100033 0)) ∧ sm_LK (S 1100029) (S 1076 0) (S 54 ((S 1092 0) - 1)) (S 53 ((S 1092 0) - 1)) ∧ sm_VO (S 44) (S 1076 0) (S 1007 0) ((S 55 ((S 1092 0) - 1))) ((S 56 ((S 1092 0) - 1))) ∧ sm_FW (S 44) (S 1076 0) (S 59 ((S 1092 0) - 1)) ∧ sm_FL (S 53) (S 54) (S 55) (S 56) (S 57) (S 58) (S 59) (S 60) (S 61) (S 62) (S 63) (S 64) (S 27) (S 29) (S 1100007) (S 1100023) (S 1100024) (S 1100025) (S 26) (S 1100029) (S 44) (S 1046 0) (S 1032 0) (S 1076 0) (S 1007 0) (((S 1092 0) - 1)) ∧ (S 57 ((S 1092 0) - 1)) = (S 1100033 0) ∧ 0 ≤ (S 58 ((S 1092 0) - 1)) ∧ (S 58 ((S 1092 0) - 1)) ≤ 400 ∧ sm_SK (S 63) (S 64) (S 44) (S 1100007) (S 1100025) (S 1076 0) (S 1007 0) (400 * ((S 1092 0) - 1)) ((S 58 ((S 1092 0) - 1))) ((S 1100034 0)) ∧ -1 ≤ (S 1100034 0) ∧ (S 1100034 0) < (S 1046 0) ∧ (0 ≤ (S 1100034 0) → (S 26 (S 1100034 0)) = 29) ∧ (S 58 ((S 1092 0) - 1)) = (S 1100007 (S 1100033 0)) ∧ (S 1100034 0) = (S 1100025 (S 1100033 0)) ∧ (0 ≤ (S 1100023 (S 1100033 0)) → (S 1100007 (S 1100023 (S 1100033 0))) ≤ (S 58 ((S 1092 0) - 1))) ∧ (S 58 ((S 1092 0) - 1)) ≤ 396 ∧ 1 ≤ p3 ∧ p3 ≤ (S 58 ((S 1092 0) - 1)) ∧ (0 ≤ (S 1100034 0) → (S 1100007 (S 1100034 0)) ≤ (S 58 ((S 1092 0) - 1)) - p3) ∧ (S 1100033 0) + 1 < (S 1046 0) ∧ (S 29 ((S 1100033 0) + 1)) = (S 29 (S 1100033 0)) ∧ (S 1100007 ((S 1100033 0) + 1)) = (S 58 ((S 1092 0) - 1)) + 1 - p3 ∧ (S 1100023 ((S 1100033 0) + 1)) = (S 1100023 (S 1100033 0)) ∧ (S 1100025 ((S 1100033 0) + 1)) = (S 1100034 0) ∧ (0 ≤ (S 1100023 (S 1100033 0)) → (S 1100007 (S 1100023 (S 1100033 0))) ≤ (S 58 ((S 1092 0) - 1)) - p3) ∧ 0 ≤ (S 1115 0) ∧ (S 1115 0) ≤ p3 - 1 ∧ (S 1114 0) + (S 1115 0) = (400 * ((S 1092 0) - 1) + (S 58 ((S 1092 0) - 1))) ∧ (∀ g : Int, 0 ≤ g → g < (S 1032 0) → 0 ≤ (S 30 g) ∧ (S 30 g) < (S 1046 0) ∧ (S 1100007 (S 30 g)) = 0 ∧ (S 1100023 (S 30 g)) = -1 ∧ 0 ≤ (S 33 g) ∧ (S 33 g) ≤ 100 ∧ 0 ≤ (S 20 g) ∧ (S 20 g) ≤ 8) ∧ sm_VN (S 32) (S 33) (S 1032 0) (S 1008 0) ∧ (∀ f : Int, 0 ≤ f → f < (S 1032 0) → 0 ≤ (S 30 f) ∧ (S 30 f) < (S 1046 0) ∧ (S 29 (S 30 f)) = f ∧ (S 1100007 (S 30 f)) = 0 ∧ (S 1100023 (S 30 f)) = -1 ∧ (S 1100025 (S 30 f)) = -1) ∧ (S 1086 0) ≤ 1900000000 ∧ 0 ≤ (S 1107 0) ∧ (S 1107 0) ≤ 100 ∧ sm_PT (S 67) (S 1107 0) (S 1007 0) ∧ sm_VO (S 44) (S 1076 0) (S 1007 0) (p1) (p2)) → (2 * (4 * (S 1115 0) + (if p1 = 7 then 1 else 0)) + 1) = d → sv_T sm_XS sm_cs sm_L sm_sh (2 * (4 * (S 1115 0) + (if p1 = 7 then 1 else 0)) + 21).toNat (q_callAgain p1 p2 p3 S) 182 0 (lv_args 0 [.ref 0, sv_I p1, sv_I p2, sv_I p3]) [] S
def P_C (d : Int) : Prop := T_callOf d ∧ T_callAgain d
theorem la_callOf_0 {x0 x1 x2 x3 x4 : Int} (h0 : x0 ≤ 300) (h1 : x1 ≤ 7) (h2 : x1 = 6 → 0 ≤ x2 ∧ x2 < x3) (h3 : x1 = 7 → 0 ≤ x2 ∧ x2 < x0 ∧ ¬ x4 = 3) : x1 = 7 → 0 ≤ x2 ∧ x2 < 300 := by omega
theorem la_callOf_1 {x0 x1 x2 : Int} (h0 : 0 ≤ x0) (h1 : 0 ≤ x1) (h2 : 0 ≤ x2) : 0 + 1 ≤ 2 * (4 * x0 + x2 + x1) + 20 := by omega
theorem la_callOf_2 {x0 : Int} (h0 : x0 = 1) : 0 ≤ x0 := by omega
theorem la_callOf_3 {x0 : Int} (h0 : 0 ≤ x0) (h1 : ¬ x0 = 0) : 0 < x0 := by omega
theorem la_callOf_4 {x0 : Int} (h0 : x0 = 7) : ¬ x0 = 6 := by omega
theorem la_callOf_5 {x0 : Int} (h0 : x0 = 1) : x0 ≤ 3 := by omega
theorem la_callOf_6 {x0 : Int} (h0 : x0 ≤ 3) (h1 : ¬ x0 = 3) : x0 < 3 := by omega
theorem la_callOf_7 {x0 x1 : Int} (h0 : x0 < 9) : ¬ (9 ≤ x0 ∧ x0 < 23 ∧ x1 = 0) := by omega
theorem la_callOf_8 {x0 : Int} (h0 : x0 ≤ 24) (h1 : ¬ x0 = 24) : x0 < 24 := by omega
theorem la_callOf_9 {x0 : Int} (h0 : x0 < 24) : x0 ≤ 23 := by omega
theorem la_callOf_10 {x0 x1 x2 : Int} (h0 : 0 ≤ x0) (h1 : 0 ≤ x1) (h2 : x2 = 1) : 2 + 1 ≤ 2 * (4 * x0 + x2 + x1) + 20 := by omega
theorem la_callOf_11 {x0 : Int} (h0 : x0 = 0) : ¬ x0 = 1 := by omega
theorem la_callOf_12 {x0 x1 x2 : Int} (h0 : x0 = 1) : ¬ (x1 = 0 ∧ x2 = 0 ∧ (x0 = 2 ∨ x0 = 3)) := by omega
theorem la_callOf_13 {x0 x1 : Int} (h0 : 0 ≤ x0) (h1 : x1 = x0) : 0 ≤ x1 := by omega
theorem la_callOf_14 {x0 x1 x2 : Int} (h0 : x0 = x1) (h1 : x1 + 1 < x2) : x0 < x2 := by omega
theorem la_callOf_15 {x0 x1 x2 : Int} (h0 : x0 = x1) (h1 : x2 = x0) : x2 = x1 := by omega
theorem la_callOf_16 {x0 x1 x2 : Int} (h0 : x0 = x1) (h1 : x2 = x1) : x0 = x2 := by omega
theorem la_callOf_17 {x0 x1 : Int} (h0 : x0 = x1) : x1 = x0 := by omega
theorem la_callOf_18 {x0 : Int} : x0 ≤ x0 := by omega
theorem la_callOf_19 {x0 : Int} : x0 = x0 - 1 + 1 := by omega
theorem la_callOf_20 {x0 x1 x2 : Int} (h0 : x0 = x1) (h1 : x2 = x1) : x2 = x0 := by omega
theorem la_callOf_21 {x0 x1 : Int} (h0 : 0 ≤ x0) (h1 : x0 = x1) : 0 ≤ x1 := by omega
theorem la_callOf_22 {x0 x1 x2 x3 : Int} (h0 : 1 ≤ x0) (h1 : x1 ≤ x2 - x0) (h2 : x3 = x1) : x3 ≤ x2 := by omega
theorem la_callOf_23 : (6 : Int) ≤ 8 := by omega
theorem la_callOf_24 : (8 : Int) ≤ 8 := by omega
theorem la_callOf_25 {x0 x1 x2 : Int} (h0 : 0 ≤ x0) (h1 : 0 ≤ x1) (h2 : x2 = 1) : 3 + 1 ≤ 2 * (4 * x0 + x2 + x1) + 20 := by omega
theorem la_callOf_26 {x0 : Int} : x0 ≤ x0 + 110 := by omega
theorem la_callOf_27 {x0 x1 : Int} (h0 : 23 ≤ x0) : ¬ (9 ≤ x0 ∧ x0 < 23 ∧ x1 = 0) := by omega
theorem la_callOf_28 {x0 : Int} (h0 : ¬ x0 < 9) (h1 : ¬ 23 ≤ x0) : 0 ≤ x0 ∧ x0 < 300 := by omega
theorem la_callOf_29 {x0 x1 : Int} (h0 : ¬ (9 ≤ x0 ∧ x0 < 23 ∧ x1 = 0) → 1 ≤ x1) (h1 : ¬ x1 = 0) : 1 ≤ x1 := by omega
theorem la_callOf_30 {x0 x1 : Int} (h0 : ¬ x0 < 9) (h1 : ¬ 23 ≤ x0) (h2 : ¬ ¬ x1 = 0) : ¬ ¬ (9 ≤ x0 ∧ x0 < 23 ∧ x1 = 0) := by omega
theorem la_callOf_31 {x0 : Int} (h0 : ¬ x0 < 9) : 9 ≤ x0 := by omega
theorem la_callOf_32 {x0 : Int} (h0 : ¬ 23 ≤ x0) : x0 ≤ 22 := by omega
theorem la_callOf_33 {x0 x1 x2 : Int} (h0 : 0 ≤ x0) (h1 : 0 ≤ x1) (h2 : x2 = 1) : 6 + 1 ≤ 2 * (4 * x0 + x2 + x1) + 20 := by omega
theorem la_callOf_34 {x0 x1 x2 x3 : Int} (h0 : 0 ≤ x0) (h1 : 2 * (4 * x0 + x1 + x2) = x3) (h2 : 0 ≤ x2) (h3 : x1 = 1) : 0 ≤ 2 * (4 * x0 + x2) + 1 ∧ 2 * (4 * x0 + x2) + 1 < x3 := by omega
theorem la_callOf_35 {x0 x1 x2 : Int} (h0 : 0 ≤ x0) (h1 : 0 ≤ x1) (h2 : x2 = 1) : 0 ≤ 2 * (4 * x0 + x1) + 21 ∧ 2 * (4 * x0 + x1) + 21 + 1 ≤ 2 * (4 * x0 + x2 + x1) + 20 := by omega
theorem la_callOf_36 {x0 : Int} (h0 : ¬ ¬ x0 = 0) : ¬ x0 = 1 := by omega
theorem la_callOf_37 : (6 : Int) ≤ 6 := by omega
theorem la_callOf_38 {x0 x1 x2 : Int} (h0 : 0 ≤ x0) (h1 : 0 ≤ x1) (h2 : 0 ≤ x2) : 3 + 1 ≤ 2 * (4 * x0 + x2 + x1) + 20 := by omega
set_option maxHeartbeats 8000000 in
theorem f_callOf : ∀ (d : Int) (p1 : Int) (p2 : Int) (p3 : Int) (p4 : Int) (p5 : Int) (p6 : Int) (S : sv_S), sm_ok S → sv_R p1 → sv_R p2 → sv_R p3 → sv_R p4 → sv_R p5 → sv_R p6 → ((S 1075 0) = 0 ∧ (S 1073 0) = 1 ∧ sm_LX (S 58) (S 63) (S 64) (S 1092 0) (S 1076 0) ∧ sm_PL (S 1100020) (S 51) (S 52) (S 46) (S 47) (S 1076 0) (S 1086 0) ∧ sm_FR (S 1100020) (S 52) (S 1100021) (S 1100022) (3000 - (S 1084 0)) (S 1085 0) ∧ sm_PV (S 1100020) (S 48) (S 49) (S 50) (S 44) (S 1076 0) (S 1007 0) ∧ sm_AL (S 1100020) (S 48) (S 49) (S 50) (S 44) (S 1076 0) (S 1100032 0) ∧ sm_SV (S 1100020) (S 48) (S 1100029) (S 32) (S 33) (S 1076 0) (S 1032 0) ∧ 0 ≤ (S 1076 0) ∧ (S 1076 0) ≤ 300 ∧ 0 ≤ (S 1084 0) ∧ (S 1084 0) ≤ 3000 ∧ 0 ≤ (S 1086 0) ∧ sm_SC (S 1100029) (S 44) (S 45) (S 43) (S 21) (S 1076 0) (S 1032 0) ∧ sm_PO (S 42) (S 1076 0) ∧ (S 1100032 0) = -1 ∧ sm_FO (S 44) (S 45) (S 1076 0) ∧ 23 ≤ (S 1076 0) ∧ 31 ≤ (S 1007 0) ∧ (S 1007 0) ≤ 400 ∧ sm_LN (S 4) 400 (S 1007 0) ∧ sm_CT (S 26) (S 27) (S 28) (S 29) (S 1100007) (S 1100023) (S 1100024) (S 1100025) (S 21) (S 1046 0) (S 1032 0) (S 1008 0) (S 1055 0) ∧ sm_LS (S 26) (S 1100007) (S 1100025) (S 1046 0) ∧ sm_CL (S 1100007) (S 1100023) (S 1100025) (S 1046 0) ∧ 1 ≤ (S 1032 0) ∧ (S 1032 0) ≤ 11 ∧ 0 ≤ (S 1046 0) ∧ (S 1046 0) ≤ 600 ∧ 31 ≤ (S 1008 0) ∧ (S 1008 0) ≤ (S 1007 0) ∧ 0 ≤ (S 1055 0) ∧ (S 1055 0) ≤ 19 ∧ 1 ≤ (S 1092 0) ∧ (S 1092 0) ≤ 24 ∧ 0 ≤ (S 1100033 0) ∧ (S 1100033 0) < (S 1046 0) ∧ (S 29 (S 1100033 0)) = (S 53 ((S 1092 0) - 1)) ∧ 0 ≤ (S 53 ((S 1092 0) - 1)) ∧ (S 53 ((S 1092 0) - 1)) < (S 1032 0) ∧ (S 60 ((S 1092 0) - 1)) = sm_dp (S 1100024) (S 1100023 (S 1100033 0)) ∧ sm_TC (S 61) (S 62) (S 27) (S 1100007) (S 1100023) (S 1100024) (40 * ((S 1092 0) - 1)) (S 1100023 (S 1100033 0)) ∧ sm_LK (S 1100029) (S 1076 0) (S 54 ((S 1092 0) - 1)) (S 53 ((S 1092 0) - 1)) ∧ sm_VO (S 44) (S 1076 0) (S 1007 0) ((S 55 ((S 1092 0) - 1))) ((S 56 ((S 1092 0) - 1))) ∧ sm_FW (S 44) (S 1076 0) (S 59 ((S 1092 0) - 1)) ∧ sm_FL (S 53) (S 54) (S 55) (S 56) (S 57) (S 58) (S 59) (S 60) (S 61) (S 62) (S 63) (S 64) (S 27) (S 29) (S 1100007) (S 1100023) (S 1100024) (S 1100025) (S 26) (S 1100029) (S 44) (S 1046 0) (S 1032 0) (S 1076 0) (S 1007 0) (((S 1092 0) - 1)) ∧ (S 57 ((S 1092 0) - 1)) = (S 1100033 0) ∧ 0 ≤ (S 58 ((S 1092 0) - 1)) ∧ (S 58 ((S 1092 0) - 1)) ≤ 400 ∧ sm_SK (S 63) (S 64) (S 44) (S 1100007) (S 1100025) (S 1076 0) (S 1007 0) (400 * ((S 1092 0) - 1)) ((S 58 ((S 1092 0) - 1))) ((S 1100034 0)) ∧ -1 ≤ (S 1100034 0) ∧ (S 1100034 0) < (S 1046 0) ∧ (0 ≤ (S 1100034 0) → (S 26 (S 1100034 0)) = 29) ∧ (S 58 ((S 1092 0) - 1)) = (S 1100007 (S 1100033 0)) ∧ (S 1100034 0) = (S 1100025 (S 1100033 0)) ∧ (0 ≤ (S 1100023 (S 1100033 0)) → (S 1100007 (S 1100023 (S 1100033 0))) ≤ (S 58 ((S 1092 0) - 1))) ∧ (S 58 ((S 1092 0) - 1)) ≤ 396 ∧ 1 ≤ p5 ∧ p5 ≤ (S 58 ((S 1092 0) - 1)) ∧ (0 ≤ (S 1100034 0) → (S 1100007 (S 1100034 0)) ≤ (S 58 ((S 1092 0) - 1)) - p5) ∧ (S 1100033 0) + 1 < (S 1046 0) ∧ (S 29 ((S 1100033 0) + 1)) = (S 29 (S 1100033 0)) ∧ (S 1100007 ((S 1100033 0) + 1)) = (S 58 ((S 1092 0) - 1)) + 1 - p5 ∧ (S 1100023 ((S 1100033 0) + 1)) = (S 1100023 (S 1100033 0)) ∧ (S 1100025 ((S 1100033 0) + 1)) = (S 1100034 0) ∧ (0 ≤ (S 1100023 (S 1100033 0)) → (S 1100007 (S 1100023 (S 1100033 0))) ≤ (S 58 ((S 1092 0) - 1)) - p5) ∧ 0 ≤ (S 1115 0) ∧ (S 1115 0) ≤ p5 - 1 ∧ (S 1114 0) + (S 1115 0) = (400 * ((S 1092 0) - 1) + (S 58 ((S 1092 0) - 1))) ∧ (∀ g : Int, 0 ≤ g → g < (S 1032 0) → 0 ≤ (S 30 g) ∧ (S 30 g) < (S 1046 0) ∧ (S 1100007 (S 30 g)) = 0 ∧ (S 1100023 (S 30 g)) = -1 ∧ 0 ≤ (S 33 g) ∧ (S 33 g) ≤ 100 ∧ 0 ≤ (S 20 g) ∧ (S 20 g) ≤ 8) ∧ sm_VN (S 32) (S 33) (S 1032 0) (S 1008 0) ∧ (∀ f : Int, 0 ≤ f → f < (S 1032 0) → 0 ≤ (S 30 f) ∧ (S 30 f) < (S 1046 0) ∧ (S 29 (S 30 f)) = f ∧ (S 1100007 (S 30 f)) = 0 ∧ (S 1100023 (S 30 f)) = -1 ∧ (S 1100025 (S 30 f)) = -1) ∧ (S 1086 0) ≤ 1900000000 ∧ 0 ≤ (S 1107 0) ∧ (S 1107 0) ≤ 100 ∧ sm_PT (S 67) (S 1107 0) (S 1007 0) ∧ sm_VO (S 44) (S 1076 0) (S 1007 0) (p1) (p2) ∧ sm_VO (S 44) (S 1076 0) (S 1007 0) (p3) (p4) ∧ sm_FW (S 44) (S 1076 0) p6) → (2 * (4 * (S 1115 0) + (if p1 = 7 then 1 else 0) + (if p3 = 7 then 1 else 0))) = d → (p1 = 7 → 0 ≤ p2 ∧ p2 < 300) ∧ (0 + 1 ≤ (2 * (4 * (S 1115 0) + (if p1 = 7 then 1 else 0) + (if p3 = 7 then 1 else 0)) + 20)) ∧ (∀ r7 : Int, sv_R r7 → ((r7 = 0 ∨ r7 = 1) ∧ (r7 = 1 → p1 = 7 ∧ (S 44 p2) = 1) ∧ (r7 = 0 → p1 = 7 → ¬ (S 44 p2) = 1)) → (((¬ r7 = (0 : Int)) → ((sm_FO (S 44) (S 45) (S 1076 0) → 0 ≤ p2 → p2 < (S 1076 0) → (S 44 p2) = 1 → ¬ (9 ≤ p2 ∧ p2 < 23 ∧ (S 45 p2) = 0) → 1 ≤ (S 45 p2)) → (((p2 < (9 : Int)) → (sv_R (S 1092 0) → (((¬ (S 1092 0) = (24 : Int)) → ((S 1075 0) = 0 ∧ (S 1073 0) = 1 ∧ sm_LX (S 58) (S 63) (S 64) (S 1092 0) (S 1076 0) ∧ sm_PL (S 1100020) (S 51) (S 52) (S 46) (S 47) (S 1076 0) (S 1086 0) ∧ sm_FR (S 1100020) (S 52) (S 1100021) (S 1100022) (3000 - (S 1084 0)) (S 1085 0) ∧ sm_PV (S 1100020) (S 48) (S 49) (S 50) (S 44) (S 1076 0) (S 1007 0) ∧ sm_AL (S 1100020) (S 48) (S 49) (S 50) (S 44) (S 1076 0) (S 1100032 0) ∧ sm_SV (S 1100020) (S 48) (S 1100029) (S 32) (S 33) (S 1076 0) (S 1032 0) ∧ 0 ≤ (S 1076 0) ∧ (S 1076 0) ≤ 300 ∧ 0 ≤ (S 1084 0) ∧ (S 1084 0) ≤ 3000 ∧ 0 ≤ (S 1086 0) ∧ sm_SC (S 1100029) (S 44) (S 45) (S 43) (S 21) (S 1076 0) (S 1032 0) ∧ sm_PO (S 42) (S 1076 0) ∧ (S 1100032 0) = -1 ∧ sm_FO (S 44) (S 45) (S 1076 0) ∧ 23 ≤ (S 1076 0) ∧ 31 ≤ (S 1007 0) ∧ (S 1007 0) ≤ 400 ∧ sm_LN (S 4) 400 (S 1007 0) ∧ sm_CT (S 26) (S 27) (S 28) (S 29) (S 1100007) (S 1100023) (S 1100024) (S 1100025) (S 21) (S 1046 0) (S 1032 0) (S 1008 0) (S 1055 0) ∧ sm_LS (S 26) (S 1100007) (S 1100025) (S 1046 0) ∧ sm_CL (S 1100007) (S 1100023) (S 1100025) (S 1046 0) ∧ 1 ≤ (S 1032 0) ∧ (S 1032 0) ≤ 11 ∧ 0 ≤ (S 1046 0) ∧ (S 1046 0) ≤ 600 ∧ 31 ≤ (S 1008 0) ∧ (S 1008 0) ≤ (S 1007 0) ∧ 0 ≤ (S 1055 0) ∧ (S 1055 0) ≤ 19 ∧ 1 ≤ (S 1092 0) ∧ (S 1092 0) ≤ 24 ∧ 0 ≤ (S 1100033 0) ∧ (S 1100033 0) < (S 1046 0) ∧ (S 29 (S 1100033 0)) = (S 53 ((S 1092 0) - 1)) ∧ 0 ≤ (S 53 ((S 1092 0) - 1)) ∧ (S 53 ((S 1092 0) - 1)) < (S 1032 0) ∧ (S 60 ((S 1092 0) - 1)) = sm_dp (S 1100024) (S 1100023 (S 1100033 0)) ∧ sm_TC (S 61) (S 62) (S 27) (S 1100007) (S 1100023) (S 1100024) (40 * ((S 1092 0) - 1)) (S 1100023 (S 1100033 0)) ∧ sm_LK (S 1100029) (S 1076 0) (S 54 ((S 1092 0) - 1)) (S 53 ((S 1092 0) - 1)) ∧ sm_VO (S 44) (S 1076 0) (S 1007 0) ((S 55 ((S 1092 0) - 1))) ((S 56 ((S 1092 0) - 1))) ∧ sm_FW (S 44) (S 1076 0) (S 59 ((S 1092 0) - 1)) ∧ sm_FL (S 53) (S 54) (S 55) (S 56) (S 57) (S 58) (S 59) (S 60) (S 61) (S 62) (S 63) (S 64) (S 27) (S 29) (S 1100007) (S 1100023) (S 1100024) (S 1100025) (S 26) (S 1100029) (S 44) (S 1046 0) (S 1032 0) (S 1076 0) (S 1007 0) (((S 1092 0) - 1)) ∧ (S 57 ((S 1092 0) - 1)) = (S 1100033 0) ∧ 0 ≤ (S 58 ((S 1092 0) - 1)) ∧ (S 58 ((S 1092 0) - 1)) ≤ 400 ∧ sm_SK (S 63) (S 64) (S 44) (S 1100007) (S 1100025) (S 1076 0) (S 1007 0) (400 * ((S 1092 0) - 1)) ((S 58 ((S 1092 0) - 1))) ((S 1100034 0)) ∧ -1 ≤ (S 1100034 0) ∧ (S 1100034 0) < (S 1046 0) ∧ (0 ≤ (S 1100034 0) → (S 26 (S 1100034 0)) = 29) ∧ (S 58 ((S 1092 0) - 1)) = (S 1100007 (S 1100033 0)) ∧ (S 1100034 0) = (S 1100025 (S 1100033 0)) ∧ (0 ≤ (S 1100023 (S 1100033 0)) → (S 1100007 (S 1100023 (S 1100033 0))) ≤ (S 58 ((S 1092 0) - 1))) ∧ (S 58 ((S 1092 0) - 1)) ≤ 396 ∧ 1 ≤ p5 ∧ p5 ≤ (S 58 ((S 1092 0) - 1)) ∧ (0 ≤ (S 1100034 0) → (S 1100007 (S 1100034 0)) ≤ (S 58 ((S 1092 0) - 1)) - p5) ∧ (S 1100033 0) + 1 < (S 1046 0) ∧ (S 29 ((S 1100033 0) + 1)) = (S 29 (S 1100033 0)) ∧ (S 1100007 ((S 1100033 0) + 1)) = (S 58 ((S 1092 0) - 1)) + 1 - p5 ∧ (S 1100023 ((S 1100033 0) + 1)) = (S 1100023 (S 1100033 0)) ∧ (S 1100025 ((S 1100033 0) + 1)) = (S 1100034 0) ∧ (0 ≤ (S 1100023 (S 1100033 0)) → (S 1100007 (S 1100023 (S 1100033 0))) ≤ (S 58 ((S 1092 0) - 1)) - p5) ∧ 0 ≤ (S 1115 0) ∧ (S 1115 0) ≤ p5 - 1 ∧ (S 1114 0) + (S 1115 0) = (400 * ((S 1092 0) - 1) + (S 58 ((S 1092 0) - 1))) ∧ (∀ g : Int, 0 ≤ g → g < (S 1032 0) → 0 ≤ (S 30 g) ∧ (S 30 g) < (S 1046 0) ∧ (S 1100007 (S 30 g)) = 0 ∧ (S 1100023 (S 30 g)) = -1 ∧ 0 ≤ (S 33 g) ∧ (S 33 g) ≤ 100 ∧ 0 ≤ (S 20 g) ∧ (S 20 g) ≤ 8) ∧ sm_VN (S 32) (S 33) (S 1032 0) (S 1008 0) ∧ (∀ f : Int, 0 ≤ f → f < (S 1032 0) → 0 ≤ (S 30 f) ∧ (S 30 f) < (S 1046 0) ∧ (S 29 (S 30 f)) = f ∧ (S 1100007 (S 30 f)) = 0 ∧ (S 1100023 (S 30 f)) = -1 ∧ (S 1100025 (S 30 f)) = -1) ∧ (S 1086 0) ≤ 1900000000 ∧ (S 1092 0) ≤ 23 ∧ 0 ≤ p2 ∧ p2 < (S 1076 0) ∧ (S 44 p2) = 1 ∧ 1 ≤ (S 45 p2) ∧ sm_VO (S 44) (S 1076 0) (S 1007 0) (p3) (p4) ∧ sm_FW (S 44) (S 1076 0) p6) ∧ (2 + 1 ≤ (2 * (4 * (S 1115 0) + (if p1 = 7 then 1 else 0) + (if p3 = 7 then 1 else 0)) + 20)) ∧ (∀ g12 : sv_S, (sm_PL (g12 1100020) (g12 51) (g12 52) (g12 46) (g12 47) (g12 1076 0) (g12 1086 0) ∧ sm_FR (g12 1100020) (g12 52) (g12 1100021) (g12 1100022) (3000 - (g12 1084 0)) (g12 1085 0) ∧ sm_PV (g12 1100020) (g12 48) (g12 49) (g12 50) (g12 44) (g12 1076 0) (S 1007 0) ∧ sm_AL (g12 1100020) (g12 48) (g12 49) (g12 50) (g12 44) (g12 1076 0) (S 1100032 0) ∧ sm_SV (g12 1100020) (g12 48) (g12 1100029) (S 32) (S 33) (g12 1076 0) (S 1032 0) ∧ 0 ≤ (g12 1076 0) ∧ (g12 1076 0) ≤ 300 ∧ 0 ≤ (g12 1084 0) ∧ (g12 1084 0) ≤ 3000 ∧ 0 ≤ (g12 1086 0) ∧ sm_SC (g12 1100029) (g12 44) (g12 45) (g12 43) (S 21) (g12 1076 0) (S 1032 0) ∧ sm_PO (g12 42) (g12 1076 0) ∧ ((g12 1075 0) = 0 → (S 1100032 0) = -1 ∧ sm_FO (g12 44) (g12 45) (g12 1076 0)) ∧ 23 ≤ (g12 1076 0) ∧ 31 ≤ (S 1007 0) ∧ (S 1007 0) ≤ 400 ∧ sm_LN (S 4) 400 (S 1007 0) ∧ (S 1008 0) ≤ (S 1007 0) ∧ ((S 1075 0) = 1 → (g12 1075 0) = 1) ∧ 0 ≤ (g12 1092 0) ∧ (g12 1092 0) ≤ 24 ∧ (S 1007 0) ≤ (S 1007 0) ∧ (¬ (g12 1075 0) = 0 → sm_LX (g12 58) (g12 63) (g12 64) (g12 1092 0) (g12 1076 0)) ∧ ((g12 1075 0) = 0 → (S 1073 0) = 1 → 1 ≤ (g12 1092 0) ∧ (g12 1092 0) ≤ 24 ∧ 0 ≤ (g12 57 ((g12 1092 0) - 1)) ∧ (g12 57 ((g12 1092 0) - 1)) < (S 1046 0) ∧ (S 29 (g12 57 ((g12 1092 0) - 1))) = (g12 53 ((g12 1092 0) - 1)) ∧ 0 ≤ (g12 53 ((g12 1092 0) - 1)) ∧ (g12 53 ((g12 1092 0) - 1)) < (S 1032 0) ∧ (g12 60 ((g12 1092 0) - 1)) = sm_dp (S 1100024) (S 1100023 (g12 57 ((g12 1092 0) - 1))) ∧ sm_TC (S 61) (S 62) (S 27) (S 1100007) (S 1100023) (S 1100024) (40 * ((g12 1092 0) - 1)) (S 1100023 (g12 57 ((g12 1092 0) - 1))) ∧ sm_LK (g12 1100029) (g12 1076 0) (g12 54 ((g12 1092 0) - 1)) (g12 53 ((g12 1092 0) - 1)) ∧ sm_VO (g12 44) (g12 1076 0) (S 1007 0) ((g12 55 ((g12 1092 0) - 1))) ((g12 56 ((g12 1092 0) - 1))) ∧ sm_FW (g12 44) (g12 1076 0) (g12 59 ((g12 1092 0) - 1)) ∧ sm_FL (g12 53) (g12 54) (g12 55) (g12 56) (g12 57) (g12 58) (g12 59) (g12 60) (S 61) (S 62) (g12 63) (g12 64) (S 27) (S 29) (S 1100007) (S 1100023) (S 1100024) (S 1100025) (S 26) (g12 1100029) (g12 44) (S 1046 0) (S 1032 0) (g12 1076 0) (S 1007 0) (((g12 1092 0) - 1)) ∧ (g12 58 ((g12 1092 0) - 1)) = (S 1100007 (g12 57 ((g12 1092 0) - 1))) ∧ sm_SK (g12 63) (g12 64) (g12 44) (S 1100007) (S 1100025) (g12 1076 0) (S 1007 0) (400 * ((g12 1092 0) - 1)) ((g12 58 ((g12 1092 0) - 1))) ((S 1100025 (g12 57 ((g12 1092 0) - 1))))) ∧ ((S 1073 0) = 1 ∨ (g12 1092 0) = 0 ∧ (g12 1075 0) = 0 ∧ ((S 1073 0) = 2 ∨ (S 1073 0) = 3)) ∧ (S 1086 0) ≤ (g12 1086 0) ∧ (g12 1086 0) ≤ (S 1086 0) + 110) → (sm_PL (g12 1100020) (g12 51) (g12 52) (g12 46) (g12 47) (g12 1076 0) (g12 1086 0) ∧ sm_FR (g12 1100020) (g12 52) (g12 1100021) (g12 1100022) (3000 - (g12 1084 0)) (g12 1085 0) ∧ sm_PV (g12 1100020) (g12 48) (g12 49) (g12 50) (g12 44) (g12 1076 0) (S 1007 0) ∧ sm_AL (g12 1100020) (g12 48) (g12 49) (g12 50) (g12 44) (g12 1076 0) (S 1100032 0) ∧ sm_SV (g12 1100020) (g12 48) (g12 1100029) (S 32) (S 33) (g12 1076 0) (S 1032 0) ∧ 0 ≤ (g12 1076 0) ∧ (g12 1076 0) ≤ 300 ∧ 0 ≤ (g12 1084 0) ∧ (g12 1084 0) ≤ 3000 ∧ 0 ≤ (g12 1086 0) ∧ sm_SC (g12 1100029) (g12 44) (g12 45) (g12 43) (S 21) (g12 1076 0) (S 1032 0) ∧ sm_PO (g12 42) (g12 1076 0) ∧ ((g12 1075 0) = 0 → (S 1100032 0) = -1 ∧ sm_FO (g12 44) (g12 45) (g12 1076 0)) ∧ 23 ≤ (g12 1076 0) ∧ 31 ≤ (S 1007 0) ∧ (S 1007 0) ≤ 400 ∧ sm_LN (S 4) 400 (S 1007 0) ∧ (S 1008 0) ≤ (S 1007 0) ∧ ((S 1075 0) = 1 → (g12 1075 0) = 1) ∧ 0 ≤ (g12 1092 0) ∧ (g12 1092 0) ≤ 24 ∧ (S 1007 0) ≤ (S 1007 0) ∧ (¬ (g12 1075 0) = 0 → sm_LX (g12 58) (g12 63) (g12 64) (g12 1092 0) (g12 1076 0)) ∧ ((g12 1075 0) = 0 → (S 1073 0) = 1 → 1 ≤ (g12 1092 0) ∧ (g12 1092 0) ≤ 24 ∧ 0 ≤ (g12 57 ((g12 1092 0) - 1)) ∧ (g12 57 ((g12 1092 0) - 1)) < (S 1046 0) ∧ (S 29 (g12 57 ((g12 1092 0) - 1))) = (g12 53 ((g12 1092 0) - 1)) ∧ 0 ≤ (g12 53 ((g12 1092 0) - 1)) ∧ (g12 53 ((g12 1092 0) - 1)) < (S 1032 0) ∧ (g12 60 ((g12 1092 0) - 1)) = sm_dp (S 1100024) (S 1100023 (g12 57 ((g12 1092 0) - 1))) ∧ sm_TC (S 61) (S 62) (S 27) (S 1100007) (S 1100023) (S 1100024) (40 * ((g12 1092 0) - 1)) (S 1100023 (g12 57 ((g12 1092 0) - 1))) ∧ sm_LK (g12 1100029) (g12 1076 0) (g12 54 ((g12 1092 0) - 1)) (g12 53 ((g12 1092 0) - 1)) ∧ sm_VO (g12 44) (g12 1076 0) (S 1007 0) ((g12 55 ((g12 1092 0) - 1))) ((g12 56 ((g12 1092 0) - 1))) ∧ sm_FW (g12 44) (g12 1076 0) (g12 59 ((g12 1092 0) - 1)) ∧ sm_FL (g12 53) (g12 54) (g12 55) (g12 56) (g12 57) (g12 58) (g12 59) (g12 60) (S 61) (S 62) (g12 63) (g12 64) (S 27) (S 29) (S 1100007) (S 1100023) (S 1100024) (S 1100025) (S 26) (g12 1100029) (g12 44) (S 1046 0) (S 1032 0) (g12 1076 0) (S 1007 0) (((g12 1092 0) - 1)) ∧ (g12 58 ((g12 1092 0) - 1)) = (S 1100007 (g12 57 ((g12 1092 0) - 1))) ∧ sm_SK (g12 63) (g12 64) (g12 44) (S 1100007) (S 1100025) (g12 1076 0) (S 1007 0) (400 * ((g12 1092 0) - 1)) ((g12 58 ((g12 1092 0) - 1))) ((S 1100025 (g12 57 ((g12 1092 0) - 1))))) ∧ ((S 1073 0) = 1 ∨ (g12 1092 0) = 0 ∧ (g12 1075 0) = 0 ∧ ((S 1073 0) = 2 ∨ (S 1073 0) = 3)) ∧ (S 1086 0) ≤ (g12 1086 0) ∧ (g12 1086 0) ≤ (S 1086 0) + 110 ∧ 0 ≤ (S 1107 0) ∧ (S 1107 0) ≤ 100 ∧ sm_PT (S 67) (S 1107 0) (S 1007 0)))) ∧ ((¬ (¬ (S 1092 0) = (24 : Int))) → ((S 1075 0) = 0 ∧ (S 1073 0) = 1 ∧ sm_LX (S 58) (S 63) (S 64) (S 1092 0) (S 1076 0) ∧ sm_PL (S 1100020) (S 51) (S 52) (S 46) (S 47) (S 1076 0) (S 1086 0) ∧ sm_FR (S 1100020) (S 52) (S 1100021) (S 1100022) (3000 - (S 1084 0)) (S 1085 0) ∧ sm_PV (S 1100020) (S 48) (S 49) (S 50) (S 44) (S 1076 0) (S 1007 0) ∧ sm_AL (S 1100020) (S 48) (S 49) (S 50) (S 44) (S 1076 0) (S 1100032 0) ∧ sm_SV (S 1100020) (S 48) (S 1100029) (S 32) (S 33) (S 1076 0) (S 1032 0) ∧ 0 ≤ (S 1076 0) ∧ (S 1076 0) ≤ 300 ∧ 0 ≤ (S 1084 0) ∧ (S 1084 0) ≤ 3000 ∧ 0 ≤ (S 1086 0) ∧ sm_SC (S 1100029) (S 44) (S 45) (S 43) (S 21) (S 1076 0) (S 1032 0) ∧ sm_PO (S 42) (S 1076 0) ∧ (S 1100032 0) = -1 ∧ sm_FO (S 44) (S 45) (S 1076 0) ∧ 23 ≤ (S 1076 0) ∧ 31 ≤ (S 1007 0) ∧ (S 1007 0) ≤ 400 ∧ sm_LN (S 4) 400 (S 1007 0) ∧ sm_CT (S 26) (S 27) (S 28) (S 29) (S 1100007) (S 1100023) (S 1100024) (S 1100025) (S 21) (S 1046 0) (S 1032 0) (S 1008 0) (S 1055 0) ∧ sm_LS (S 26) (S 1100007) (S 1100025) (S 1046 0) ∧ sm_CL (S 1100007) (S 1100023) (S 1100025) (S 1046 0) ∧ 1 ≤ (S 1032 0) ∧ (S 1032 0) ≤ 11 ∧ 0 ≤ (S 1046 0) ∧ (S 1046 0) ≤ 600 ∧ 31 ≤ (S 1008 0) ∧ (S 1008 0) ≤ (S 1007 0) ∧ 0 ≤ (S 1055 0) ∧ (S 1055 0) ≤ 19 ∧ 1 ≤ (S 1092 0) ∧ (S 1092 0) ≤ 24 ∧ 0 ≤ (S 57 ((S 1092 0) - 1)) ∧ (S 57 ((S 1092 0) - 1)) < (S 1046 0) ∧ (S 29 (S 57 ((S 1092 0) - 1))) = (S 53 ((S 1092 0) - 1)) ∧ 0 ≤ (S 53 ((S 1092 0) - 1)) ∧ (S 53 ((S 1092 0) - 1)) < (S 1032 0) ∧ (S 60 ((S 1092 0) - 1)) = sm_dp (S 1100024) (S 1100023 (S 57 ((S 1092 0) - 1))) ∧ sm_TC (S 61) (S 62) (S 27) (S 1100007) (S 1100023) (S 1100024) (40 * ((S 1092 0) - 1)) (S 1100023 (S 57 ((S 1092 0) - 1))) ∧ sm_LK (S 1100029) (S 1076 0) (S 54 ((S 1092 0) - 1)) (S 53 ((S 1092 0) - 1)) ∧ sm_VO (S 44) (S 1076 0) (S 1007 0) ((S 55 ((S 1092 0) - 1))) ((S 56 ((S 1092 0) - 1))) ∧ sm_FW (S 44) (S 1076 0) (S 59 ((S 1092 0) - 1)) ∧ sm_FL (S 53) (S 54) (S 55) (S 56) (S 57) (S 58) (S 59) (S 60) (S 61) (S 62) (S 63) (S 64) (S 27) (S 29) (S 1100007) (S 1100023) (S 1100024) (S 1100025) (S 26) (S 1100029) (S 44) (S 1046 0) (S 1032 0) (S 1076 0) (S 1007 0) (((S 1092 0) - 1)) ∧ (S 58 ((S 1092 0) - 1)) = (S 1100007 (S 57 ((S 1092 0) - 1))) ∧ sm_SK (S 63) (S 64) (S 44) (S 1100007) (S 1100025) (S 1076 0) (S 1007 0) (400 * ((S 1092 0) - 1)) ((S 58 ((S 1092 0) - 1))) ((S 1100025 (S 57 ((S 1092 0) - 1)))) ∧ (0 ≤ (S 1100023 (S 57 ((S 1092 0) - 1))) → (S 1100007 (S 1100023 (S 57 ((S 1092 0) - 1)))) ≤ (S 58 ((S 1092 0) - 1))) ∧ 6 ≤ (8 : Int) ∧ (8 : Int) ≤ 8) ∧ (3 + 1 ≤ (2 * (4 * (S 1115 0) + (if p1 = 7 then 1 else 0) + (if p3 = 7 then 1 else 0)) + 20)) ∧ (∀ g19 : sv_S, (sm_PL (S 1100020) (S 51) (S 52) (g19 46) (g19 47) (g19 1076 0) (S 1086 0) ∧ sm_FR (S 1100020) (S 52) (S 1100021) (S 1100022) (3000 - (S 1084 0)) (S 1085 0) ∧ sm_PV (S 1100020) (S 48) (S 49) (S 50) (g19 44) (g19 1076 0) (S 1007 0) ∧ sm_AL (S 1100020) (S 48) (S 49) (S 50) (g19 44) (g19 1076 0) (S 1100032 0) ∧ sm_SV (S 1100020) (S 48) (g19 1100029) (S 32) (S 33) (g19 1076 0) (S 1032 0) ∧ 0 ≤ (g19 1076 0) ∧ (g19 1076 0) ≤ 300 ∧ 0 ≤ (S 1084 0) ∧ (S 1084 0) ≤ 3000 ∧ 0 ≤ (S 1086 0) ∧ sm_SC (g19 1100029) (g19 44) (g19 45) (g19 43) (S 21) (g19 1076 0) (S 1032 0) ∧ sm_PO (g19 42) (g19 1076 0) ∧ ((g19 1075 0) = 0 → (S 1100032 0) = -1 ∧ sm_FO (g19 44) (g19 45) (g19 1076 0)) ∧ 23 ≤ (g19 1076 0) ∧ 31 ≤ (S 1007 0) ∧ (S 1007 0) ≤ 400 ∧ sm_LN (S 4) 400 (S 1007 0) ∧ (S 1008 0) ≤ (S 1007 0) ∧ ((S 1075 0) = 1 → (g19 1075 0) = 1) ∧ 0 ≤ (g19 1092 0) ∧ (g19 1092 0) ≤ 24 ∧ (S 1007 0) ≤ (S 1007 0) ∧ (¬ (g19 1075 0) = 0 → sm_LX (g19 58) (g19 63) (g19 64) (g19 1092 0) (g19 1076 0)) ∧ ((g19 1075 0) = 0 → (g19 1073 0) = 1 → 1 ≤ (g19 1092 0) ∧ (g19 1092 0) ≤ 24 ∧ 0 ≤ (g19 57 ((g19 1092 0) - 1)) ∧ (g19 57 ((g19 1092 0) - 1)) < (S 1046 0) ∧ (S 29 (g19 57 ((g19 1092 0) - 1))) = (S 53 ((g19 1092 0) - 1)) ∧ 0 ≤ (S 53 ((g19 1092 0) - 1)) ∧ (S 53 ((g19 1092 0) - 1)) < (S 1032 0) ∧ (g19 60 ((g19 1092 0) - 1)) = sm_dp (S 1100024) (S 1100023 (g19 57 ((g19 1092 0) - 1))) ∧ sm_TC (S 61) (S 62) (S 27) (S 1100007) (S 1100023) (S 1100024) (40 * ((g19 1092 0) - 1)) (S 1100023 (g19 57 ((g19 1092 0) - 1))) ∧ sm_LK (g19 1100029) (g19 1076 0) (S 54 ((g19 1092 0) - 1)) (S 53 ((g19 1092 0) - 1)) ∧ sm_VO (g19 44) (g19 1076 0) (S 1007 0) ((S 55 ((g19 1092 0) - 1))) ((S 56 ((g19 1092 0) - 1))) ∧ sm_FW (g19 44) (g19 1076 0) (S 59 ((g19 1092 0) - 1)) ∧ sm_FL (S 53) (S 54) (S 55) (S 56) (g19 57) (g19 58) (S 59) (g19 60) (S 61) (S 62) (g19 63) (g19 64) (S 27) (S 29) (S 1100007) (S 1100023) (S 1100024) (S 1100025) (S 26) (g19 1100029) (g19 44) (S 1046 0) (S 1032 0) (g19 1076 0) (S 1007 0) (((g19 1092 0) - 1)) ∧ (g19 58 ((g19 1092 0) - 1)) = (S 1100007 (g19 57 ((g19 1092 0) - 1))) ∧ sm_SK (g19 63) (g19 64) (g19 44) (S 1100007) (S 1100025) (g19 1076 0) (S 1007 0) (400 * ((g19 1092 0) - 1)) ((g19 58 ((g19 1092 0) - 1))) ((S 1100025 (g19 57 ((g19 1092 0) - 1))))) ∧ ((g19 1073 0) = 1 ∨ (g19 1092 0) = 0 ∧ (g19 1075 0) = 0 ∧ ((g19 1073 0) = 2 ∨ (g19 1073 0) = 3)) ∧ ((g19 1073 0) = 1 ∨ (g19 1073 0) = 3)) → (sm_PL (S 1100020) (S 51) (S 52) (g19 46) (g19 47) (g19 1076 0) (S 1086 0) ∧ sm_FR (S 1100020) (S 52) (S 1100021) (S 1100022) (3000 - (S 1084 0)) (S 1085 0) ∧ sm_PV (S 1100020) (S 48) (S 49) (S 50) (g19 44) (g19 1076 0) (S 1007 0) ∧ sm_AL (S 1100020) (S 48) (S 49) (S 50) (g19 44) (g19 1076 0) (S 1100032 0) ∧ sm_SV (S 1100020) (S 48) (g19 1100029) (S 32) (S 33) (g19 1076 0) (S 1032 0) ∧ 0 ≤ (g19 1076 0) ∧ (g19 1076 0) ≤ 300 ∧ 0 ≤ (S 1084 0) ∧ (S 1084 0) ≤ 3000 ∧ 0 ≤ (S 1086 0) ∧ sm_SC (g19 1100029) (g19 44) (g19 45) (g19 43) (S 21) (g19 1076 0) (S 1032 0) ∧ sm_PO (g19 42) (g19 1076 0) ∧ ((g19 1075 0) = 0 → (S 1100032 0) = -1 ∧ sm_FO (g19 44) (g19 45) (g19 1076 0)) ∧ 23 ≤ (g19 1076 0) ∧ 31 ≤ (S 1007 0) ∧ (S 1007 0) ≤ 400 ∧ sm_LN (S 4) 400 (S 1007 0) ∧ (S 1008 0) ≤ (S 1007 0) ∧ ((S 1075 0) = 1 → (g19 1075 0) = 1) ∧ 0 ≤ (g19 1092 0) ∧ (g19 1092 0) ≤ 24 ∧ (S 1007 0) ≤ (S 1007 0) ∧ (¬ (g19 1075 0) = 0 → sm_LX (g19 58) (g19 63) (g19 64) (g19 1092 0) (g19 1076 0)) ∧ ((g19 1075 0) = 0 → (g19 1073 0) = 1 → 1 ≤ (g19 1092 0) ∧ (g19 1092 0) ≤ 24 ∧ 0 ≤ (g19 57 ((g19 1092 0) - 1)) ∧ (g19 57 ((g19 1092 0) - 1)) < (S 1046 0) ∧ (S 29 (g19 57 ((g19 1092 0) - 1))) = (S 53 ((g19 1092 0) - 1)) ∧ 0 ≤ (S 53 ((g19 1092 0) - 1)) ∧ (S 53 ((g19 1092 0) - 1)) < (S 1032 0) ∧ (g19 60 ((g19 1092 0) - 1)) = sm_dp (S 1100024) (S 1100023 (g19 57 ((g19 1092 0) - 1))) ∧ sm_TC (S 61) (S 62) (S 27) (S 1100007) (S 1100023) (S 1100024) (40 * ((g19 1092 0) - 1)) (S 1100023 (g19 57 ((g19 1092 0) - 1))) ∧ sm_LK (g19 1100029) (g19 1076 0) (S 54 ((g19 1092 0) - 1)) (S 53 ((g19 1092 0) - 1)) ∧ sm_VO (g19 44) (g19 1076 0) (S 1007 0) ((S 55 ((g19 1092 0) - 1))) ((S 56 ((g19 1092 0) - 1))) ∧ sm_FW (g19 44) (g19 1076 0) (S 59 ((g19 1092 0) - 1)) ∧ sm_FL (S 53) (S 54) (S 55) (S 56) (g19 57) (g19 58) (S 59) (g19 60) (S 61) (S 62) (g19 63) (g19 64) (S 27) (S 29) (S 1100007) (S 1100023) (S 1100024) (S 1100025) (S 26) (g19 1100029) (g19 44) (S 1046 0) (S 1032 0) (g19 1076 0) (S 1007 0) (((g19 1092 0) - 1)) ∧ (g19 58 ((g19 1092 0) - 1)) = (S 1100007 (g19 57 ((g19 1092 0) - 1))) ∧ sm_SK (g19 63) (g19 64) (g19 44) (S 1100007) (S 1100025) (g19 1076 0) (S 1007 0) (400 * ((g19 1092 0) - 1)) ((g19 58 ((g19 1092 0) - 1))) ((S 1100025 (g19 57 ((g19 1092 0) - 1))))) ∧ ((g19 1073 0) = 1 ∨ (g19 1092 0) = 0 ∧ (g19 1075 0) = 0 ∧ ((g19 1073 0) = 2 ∨ (g19 1073 0) = 3)) ∧ (S 1086 0) ≤ (S 1086 0) ∧ (S 1086 0) ≤ (S 1086 0) + 110 ∧ 0 ≤ (S 1107 0) ∧ (S 1107 0) ≤ 100 ∧ sm_PT (S 67) (S 1107 0) (S 1007 0))))))) ∧ ((¬ (p2 < (9 : Int))) → ((((23 : Int) ≤ p2) → (sv_R (S 1092 0) → (((¬ (S 1092 0) = (24 : Int)) → ((S 1075 0) = 0 ∧ (S 1073 0) = 1 ∧ sm_LX (S 58) (S 63) (S 64) (S 1092 0) (S 1076 0) ∧ sm_PL (S 1100020) (S 51) (S 52) (S 46) (S 47) (S 1076 0) (S 1086 0) ∧ sm_FR (S 1100020) (S 52) (S 1100021) (S 1100022) (3000 - (S 1084 0)) (S 1085 0) ∧ sm_PV (S 1100020) (S 48) (S 49) (S 50) (S 44) (S 1076 0) (S 1007 0) ∧ sm_AL (S 1100020) (S 48) (S 49) (S 50) (S 44) (S 1076 0) (S 1100032 0) ∧ sm_SV (S 1100020) (S 48) (S 1100029) (S 32) (S 33) (S 1076 0) (S 1032 0) ∧ 0 ≤ (S 1076 0) ∧ (S 1076 0) ≤ 300 ∧ 0 ≤ (S 1084 0) ∧ (S 1084 0) ≤ 3000 ∧ 0 ≤ (S 1086 0) ∧ sm_SC (S 1100029) (S 44) (S 45) (S 43) (S 21) (S 1076 0) (S 1032 0) ∧ sm_PO (S 42) (S 1076 0) ∧ (S 1100032 0) = -1 ∧ sm_FO (S 44) (S 45) (S 1076 0) ∧ 23 ≤ (S 1076 0) ∧ 31 ≤ (S 1007 0) ∧ (S 1007 0) ≤ 400 ∧ sm_LN (S 4) 400 (S 1007 0) ∧ sm_CT (S 26) (S 27) (S 28) (S 29) (S 1100007) (S 1100023) (S 1100024) (S 1100025) (S 21) (S 1046 0) (S 1032 0) (S 1008 0) (S 1055 0) ∧ sm_LS (S 26) (S 1100007) (S 1100025) (S 1046 0) ∧ sm_CL (S 1100007) (S 1100023) (S 1100025) (S 1046 0) ∧ 1 ≤ (S 1032 0) ∧ (S 1032 0) ≤ 11 ∧ 0 ≤ (S 1046 0) ∧ (S 1046 0) ≤ 600 ∧ 31 ≤ (S 1008 0) ∧ (S 1008 0) ≤ (S 1007 0) ∧ 0 ≤ (S 1055 0) ∧ (S 1055 0) ≤ 19 ∧ 1 ≤ (S 1092 0) ∧ (S 1092 0) ≤ 24 ∧ 0 ≤ (S 1100033 0) ∧ (S 1100033 0) < (S 1046 0) ∧ (S 29 (S 1100033 0)) = (S 53 ((S 1092 0) - 1)) ∧ 0 ≤ (S 53 ((S 1092 0) - 1)) ∧ (S 53 ((S 1092 0) - 1)) < (S 1032 0) ∧ (S 60 ((S 1092 0) - 1)) = sm_dp (S 1100024) (S 1100023 (S 1100033 0)) ∧ sm_TC (S 61) (S 62) (S 27) (S 1100007) (S 1100023) (S 1100024) (40 * ((S 1092 0) - 1)) (S 1100023 (S 1100033 0)) ∧ sm_LK (S 1100029) (S 1076 0) (S 54 ((S 1092 0) - 1)) (S 53 ((S 1092 0) - 1)) ∧ sm_VO (S 44) (S 1076 0) (S 1007 0) ((S 55 ((S 1092 0) - 1))) ((S 56 ((S 1092 0) - 1))) ∧ sm_FW (S 44) (S 1076 0) (S 59 ((S 1092 0) - 1)) ∧ sm_FL (S 53) (S 54) (S 55) (S 56) (S 57) (S 58) (S 59) (S 60) (S 61) (S 62) (S 63) (S 64) (S 27) (S 29) (S 1100007) (S 1100023) (S 1100024) (S 1100025) (S 26) (S 1100029) (S 44) (S 1046 0) (S 1032 0) (S 1076 0) (S 1007 0) (((S 1092 0) - 1)) ∧ (S 57 ((S 1092 0) - 1)) = (S 1100033 0) ∧ 0 ≤ (S 58 ((S 1092 0) - 1)) ∧ (S 58 ((S 1092 0) - 1)) ≤ 400 ∧ sm_SK (S 63) (S 64) (S 44) (S 1100007) (S 1100025) (S 1076 0) (S 1007 0) (400 * ((S 1092 0) - 1)) ((S 58 ((S 1092 0) - 1))) ((S 1100034 0)) ∧ -1 ≤ (S 1100034 0) ∧ (S 1100034 0) < (S 1046 0) ∧ (0 ≤ (S 1100034 0) → (S 26 (S 1100034 0)) = 29) ∧ (S 58 ((S 1092 0) - 1)) = (S 1100007 (S 1100033 0)) ∧ (S 1100034 0) = (S 1100025 (S 1100033 0)) ∧ (0 ≤ (S 1100023 (S 1100033 0)) → (S 1100007 (S 1100023 (S 1100033 0))) ≤ (S 58 ((S 1092 0) - 1))) ∧ (S 58 ((S 1092 0) - 1)) ≤ 396 ∧ 1 ≤ p5 ∧ p5 ≤ (S 58 ((S 1092 0) - 1)) ∧ (0 ≤ (S 1100034 0) → (S 1100007 (S 1100034 0)) ≤ (S 58 ((S 1092 0) - 1)) - p5) ∧ (S 1100033 0) + 1 < (S 1046 0) ∧ (S 29 ((S 1100033 0) + 1)) = (S 29 (S 1100033 0)) ∧ (S 1100007 ((S 1100033 0) + 1)) = (S 58 ((S 1092 0) - 1)) + 1 - p5 ∧ (S 1100023 ((S 1100033 0) + 1)) = (S 1100023 (S 1100033 0)) ∧ (S 1100025 ((S 1100033 0) + 1)) = (S 1100034 0) ∧ (0 ≤ (S 1100023 (S 1100033 0)) → (S 1100007 (S 1100023 (S 1100033 0))) ≤ (S 58 ((S 1092 0) - 1)) - p5) ∧ 0 ≤ (S 1115 0) ∧ (S 1115 0) ≤ p5 - 1 ∧ (S 1114 0) + (S 1115 0) = (400 * ((S 1092 0) - 1) + (S 58 ((S 1092 0) - 1))) ∧ (∀ g : Int, 0 ≤ g → g < (S 1032 0) → 0 ≤ (S 30 g) ∧ (S 30 g) < (S 1046 0) ∧ (S 1100007 (S 30 g)) = 0 ∧ (S 1100023 (S 30 g)) = -1 ∧ 0 ≤ (S 33 g) ∧ (S 33 g) ≤ 100 ∧ 0 ≤ (S 20 g) ∧ (S 20 g) ≤ 8) ∧ sm_VN (S 32) (S 33) (S 1032 0) (S 1008 0) ∧ (∀ f : Int, 0 ≤ f → f < (S 1032 0) → 0 ≤ (S 30 f) ∧ (S 30 f) < (S 1046 0) ∧ (S 29 (S 30 f)) = f ∧ (S 1100007 (S 30 f)) = 0 ∧ (S 1100023 (S 30 f)) = -1 ∧ (S 1100025 (S 30 f)) = -1) ∧ (S 1086 0) ≤ 1900000000 ∧ (S 1092 0) ≤ 23 ∧ 0 ≤ p2 ∧ p2 < (S 1076 0) ∧ (S 44 p2) = 1 ∧ 1 ≤ (S 45 p2) ∧ sm_VO (S 44) (S 1076 0) (S 1007 0) (p3) (p4) ∧ sm_FW (S 44) (S 1076 0) p6) ∧ (2 + 1 ≤ (2 * (4 * (S 1115 0) + (if p1 = 7 then 1 else 0) + (if p3 = 7 then 1 else 0)) + 20)) ∧ (∀ g27 : sv_S, (sm_PL (g27 1100020) (g27 51) (g27 52) (g27 46) (g27 47) (g27 1076 0) (g27 1086 0) ∧ sm_FR (g27 1100020) (g27 52) (g27 1100021) (g27 1100022) (3000 - (g27 1084 0)) (g27 1085 0) ∧ sm_PV (g27 1100020) (g27 48) (g27 49) (g27 50) (g27 44) (g27 1076 0) (S 1007 0) ∧ sm_AL (g27 1100020) (g27 48) (g27 49) (g27 50) (g27 44) (g27 1076 0) (S 1100032 0) ∧ sm_SV (g27 1100020) (g27 48) (g27 1100029) (S 32) (S 33) (g27 1076 0) (S 1032 0) ∧ 0 ≤ (g27 1076 0) ∧ (g27 1076 0) ≤ 300 ∧ 0 ≤ (g27 1084 0) ∧ (g27 1084 0) ≤ 3000 ∧ 0 ≤ (g27 1086 0) ∧ sm_SC (g27 1100029) (g27 44) (g27 45) (g27 43) (S 21) (g27 1076 0) (S 1032 0) ∧ sm_PO (g27 42) (g27 1076 0) ∧ ((g27 1075 0) = 0 → (S 1100032 0) = -1 ∧ sm_FO (g27 44) (g27 45) (g27 1076 0)) ∧ 23 ≤ (g27 1076 0) ∧ 31 ≤ (S 1007 0) ∧ (S 1007 0) ≤ 400 ∧ sm_LN (S 4) 400 (S 1007 0) ∧ (S 1008 0) ≤ (S 1007 0) ∧ ((S 1075 0) = 1 → (g27 1075 0) = 1) ∧ 0 ≤ (g27 1092 0) ∧ (g27 1092 0) ≤ 24 ∧ (S 1007 0) ≤ (S 1007 0) ∧ (¬ (g27 1075 0) = 0 → sm_LX (g27 58) (g27 63) (g27 64) (g27 1092 0) (g27 1076 0)) ∧ ((g27 1075 0) = 0 → (S 1073 0) = 1 → 1 ≤ (g27 1092 0) ∧ (g27 1092 0) ≤ 24 ∧ 0 ≤ (g27 57 ((g27 1092 0) - 1)) ∧ (g27 57 ((g27 1092 0) - 1)) < (S 1046 0) ∧ (S 29 (g27 57 ((g27 1092 0) - 1))) = (g27 53 ((g27 1092 0) - 1)) ∧ 0 ≤ (g27 53 ((g27 1092 0) - 1)) ∧ (g27 53 ((g27 1092 0) - 1)) < (S 1032 0) ∧ (g27 60 ((g27 1092 0) - 1)) = sm_dp (S 1100024) (S 1100023 (g27 57 ((g27 1092 0) - 1))) ∧ sm_TC (S 61) (S 62) (S 27) (S 1100007) (S 1100023) (S 1100024) (40 * ((g27 1092 0) - 1)) (S 1100023 (g27 57 ((g27 1092 0) - 1))) ∧ sm_LK (g27 1100029) (g27 1076 0) (g27 54 ((g27 1092 0) - 1)) (g27 53 ((g27 1092 0) - 1)) ∧ sm_VO (g27 44) (g27 1076 0) (S 1007 0) ((g27 55 ((g27 1092 0) - 1))) ((g27 56 ((g27 1092 0) - 1))) ∧ sm_FW (g27 44) (g27 1076 0) (g27 59 ((g27 1092 0) - 1)) ∧ sm_FL (g27 53) (g27 54) (g27 55) (g27 56) (g27 57) (g27 58) (g27 59) (g27 60) (S 61) (S 62) (g27 63) (g27 64) (S 27) (S 29) (S 1100007) (S 1100023) (S 1100024) (S 1100025) (S 26) (g27 1100029) (g27 44) (S 1046 0) (S 1032 0) (g27 1076 0) (S 1007 0) (((g27 1092 0) - 1)) ∧ (g27 58 ((g27 1092 0) - 1)) = (S 1100007 (g27 57 ((g27 1092 0) - 1))) ∧ sm_SK (g27 63) (g27 64) (g27 44) (S 1100007) (S 1100025) (g27 1076 0) (S 1007 0) (400 * ((g27 1092 0) - 1)) ((g27 58 ((g27 1092 0) - 1))) ((S 1100025 (g27 57 ((g27 1092 0) - 1))))) ∧ ((S 1073 0) = 1 ∨ (g27 1092 0) = 0 ∧ (g27 1075 0) = 0 ∧ ((S 1073 0) = 2 ∨ (S 1073 0) = 3)) ∧ (S 1086 0) ≤ (g27 1086 0) ∧ (g27 1086 0) ≤ (S 1086 0) + 110) → (sm_PL (g27 1100020) (g27 51) (g27 52) (g27 46) (g27 47) (g27 1076 0) (g27 1086 0) ∧ sm_FR (g27 1100020) (g27 52) (g27 1100021) (g27 1100022) (3000 - (g27 1084 0)) (g27 1085 0) ∧ sm_PV (g27 1100020) (g27 48) (g27 49) (g27 50) (g27 44) (g27 1076 0) (S 1007 0) ∧ sm_AL (g27 1100020) (g27 48) (g27 49) (g27 50) (g27 44) (g27 1076 0) (S 1100032 0) ∧ sm_SV (g27 1100020) (g27 48) (g27 1100029) (S 32) (S 33) (g27 1076 0) (S 1032 0) ∧ 0 ≤ (g27 1076 0) ∧ (g27 1076 0) ≤ 300 ∧ 0 ≤ (g27 1084 0) ∧ (g27 1084 0) ≤ 3000 ∧ 0 ≤ (g27 1086 0) ∧ sm_SC (g27 1100029) (g27 44) (g27 45) (g27 43) (S 21) (g27 1076 0) (S 1032 0) ∧ sm_PO (g27 42) (g27 1076 0) ∧ ((g27 1075 0) = 0 → (S 1100032 0) = -1 ∧ sm_FO (g27 44) (g27 45) (g27 1076 0)) ∧ 23 ≤ (g27 1076 0) ∧ 31 ≤ (S 1007 0) ∧ (S 1007 0) ≤ 400 ∧ sm_LN (S 4) 400 (S 1007 0) ∧ (S 1008 0) ≤ (S 1007 0) ∧ ((S 1075 0) = 1 → (g27 1075 0) = 1) ∧ 0 ≤ (g27 1092 0) ∧ (g27 1092 0) ≤ 24 ∧ (S 1007 0) ≤ (S 1007 0) ∧ (¬ (g27 1075 0) = 0 → sm_LX (g27 58) (g27 63) (g27 64) (g27 1092 0) (g27 1076 0)) ∧ ((g27 1075 0) = 0 → (S 1073 0) = 1 → 1 ≤ (g27 1092 0) ∧ (g27 1092 0) ≤ 24 ∧ 0 ≤ (g27 57 ((g27 1092 0) - 1)) ∧ (g27 57 ((g27 1092 0) - 1)) < (S 1046 0) ∧ (S 29 (g27 57 ((g27 1092 0) - 1))) = (g27 53 ((g27 1092 0) - 1)) ∧ 0 ≤ (g27 53 ((g27 1092 0) - 1)) ∧ (g27 53 ((g27 1092 0) - 1)) < (S 1032 0) ∧ (g27 60 ((g27 1092 0) - 1)) = sm_dp (S 1100024) (S 1100023 (g27 57 ((g27 1092 0) - 1))) ∧ sm_TC (S 61) (S 62) (S 27) (S 1100007) (S 1100023) (S 1100024) (40 * ((g27 1092 0) - 1)) (S 1100023 (g27 57 ((g27 1092 0) - 1))) ∧ sm_LK (g27 1100029) (g27 1076 0) (g27 54 ((g27 1092 0) - 1)) (g27 53 ((g27 1092 0) - 1)) ∧ sm_VO (g27 44) (g27 1076 0) (S 1007 0) ((g27 55 ((g27 1092 0) - 1))) ((g27 56 ((g27 1092 0) - 1))) ∧ sm_FW (g27 44) (g27 1076 0) (g27 59 ((g27 1092 0) - 1)) ∧ sm_FL (g27 53) (g27 54) (g27 55) (g27 56) (g27 57) (g27 58) (g27 59) (g27 60) (S 61) (S 62) (g27 63) (g27 64) (S 27) (S 29) (S 1100007) (S 1100023) (S 1100024) (S 1100025) (S 26) (g27 1100029) (g27 44) (S 1046 0) (S 1032 0) (g27 1076 0) (S 1007 0) (((g27 1092 0) - 1)) ∧ (g27 58 ((g27 1092 0) - 1)) = (S 1100007 (g27 57 ((g27 1092 0) - 1))) ∧ sm_SK (g27 63) (g27 64) (g27 44) (S 1100007) (S 1100025) (g27 1076 0) (S 1007 0) (400 * ((g27 1092 0) - 1)) ((g27 58 ((g27 1092 0) - 1))) ((S 1100025 (g27 57 ((g27 1092 0) - 1))))) ∧ ((S 1073 0) = 1 ∨ (g27 1092 0) = 0 ∧ (g27 1075 0) = 0 ∧ ((S 1073 0) = 2 ∨ (S 1073 0) = 3)) ∧ (S 1086 0) ≤ (g27 1086 0) ∧ (g27 1086 0) ≤ (S 1086 0) + 110 ∧ 0 ≤ (S 1107 0) ∧ (S 1107 0) ≤ 100 ∧ sm_PT (S 67) (S 1107 0) (S 1007 0)))) ∧ ((¬ (¬ (S 1092 0) = (24 : Int))) → ((S 1075 0) = 0 ∧ (S 1073 0) = 1 ∧ sm_LX (S 58) (S 63) (S 64) (S 1092 0) (S 1076 0) ∧ sm_PL (S 1100020) (S 51) (S 52) (S 46) (S 47) (S 1076 0) (S 1086 0) ∧ sm_FR (S 1100020) (S 52) (S 1100021) (S 1100022) (3000 - (S 1084 0)) (S 1085 0) ∧ sm_PV (S 1100020) (S 48) (S 49) (S 50) (S 44) (S 1076 0) (S 1007 0) ∧ sm_AL (S 1100020) (S 48) (S 49) (S 50) (S 44) (S 1076 0) (S 1100032 0) ∧ sm_SV (S 1100020) (S 48) (S 1100029) (S 32) (S 33) (S 1076 0) (S 1032 0) ∧ 0 ≤ (S 1076 0) ∧ (S 1076 0) ≤ 300 ∧ 0 ≤ (S 1084 0) ∧ (S 1084 0) ≤ 3000 ∧ 0 ≤ (S 1086 0) ∧ sm_SC (S 1100029) (S 44) (S 45) (S 43) (S 21) (S 1076 0) (S 1032 0) ∧ sm_PO (S 42) (S 1076 0) ∧ (S 1100032 0) = -1 ∧ sm_FO (S 44) (S 45) (S 1076 0) ∧ 23 ≤ (S 1076 0) ∧ 31 ≤ (S 1007 0) ∧ (S 1007 0) ≤ 400 ∧ sm_LN (S 4) 400 (S 1007 0) ∧ sm_CT (S 26) (S 27) (S 28) (S 29) (S 1100007) (S 1100023) (S 1100024) (S 1100025) (S 21) (S 1046 0) (S 1032 0) (S 1008 0) (S 1055 0) ∧ sm_LS (S 26) (S 1100007) (S 1100025) (S 1046 0) ∧ sm_CL (S 1100007) (S 1100023) (S 1100025) (S 1046 0) ∧ 1 ≤ (S 1032 0) ∧ (S 1032 0) ≤ 11 ∧ 0 ≤ (S 1046 0) ∧ (S 1046 0) ≤ 600 ∧ 31 ≤ (S 1008 0) ∧ (S 1008 0) ≤ (S 1007 0) ∧ 0 ≤ (S 1055 0) ∧ (S 1055 0) ≤ 19 ∧ 1 ≤ (S 1092 0) ∧ (S 1092 0) ≤ 24 ∧ 0 ≤ (S 57 ((S 1092 0) - 1)) ∧ (S 57 ((S 1092 0) - 1)) < (S 1046 0) ∧ (S 29 (S 57 ((S 1092 0) - 1))) = (S 53 ((S 1092 0) - 1)) ∧ 0 ≤ (S 53 ((S 1092 0) - 1)) ∧ (S 53 ((S 1092 0) - 1)) < (S 1032 0) ∧ (S 60 ((S 1092 0) - 1)) = sm_dp (S 1100024) (S 1100023 (S 57 ((S 1092 0) - 1))) ∧ sm_TC (S 61) (S 62) (S 27) (S 1100007) (S 1100023) (S 1100024) (40 * ((S 1092 0) - 1)) (S 1100023 (S 57 ((S 1092 0) - 1))) ∧ sm_LK (S 1100029) (S 1076 0) (S 54 ((S 1092 0) - 1)) (S 53 ((S 1092 0) - 1)) ∧ sm_VO (S 44) (S 1076 0) (S 1007 0) ((S 55 ((S 1092 0) - 1))) ((S 56 ((S 1092 0) - 1))) ∧ sm_FW (S 44) (S 1076 0) (S 59 ((S 1092 0) - 1)) ∧ sm_FL (S 53) (S 54) (S 55) (S 56) (S 57) (S 58) (S 59) (S 60) (S 61) (S 62) (S 63) (S 64) (S 27) (S 29) (S 1100007) (S 1100023) (S 1100024) (S 1100025) (S 26) (S 1100029) (S 44) (S 1046 0) (S 1032 0) (S 1076 0) (S 1007 0) (((S 1092 0) - 1)) ∧ (S 58 ((S 1092 0) - 1)) = (S 1100007 (S 57 ((S 1092 0) - 1))) ∧ sm_SK (S 63) (S 64) (S 44) (S 1100007) (S 1100025) (S 1076 0) (S 1007 0) (400 * ((S 1092 0) - 1)) ((S 58 ((S 1092 0) - 1))) ((S 1100025 (S 57 ((S 1092 0) - 1)))) ∧ (0 ≤ (S 1100023 (S 57 ((S 1092 0) - 1))) → (S 1100007 (S 1100023 (S 57 ((S 1092 0) - 1)))) ≤ (S 58 ((S 1092 0) - 1))) ∧ 6 ≤ (8 : Int) ∧ (8 : Int) ≤ 8) ∧ (3 + 1 ≤ (2 * (4 * (S 1115 0) + (if p1 = 7 then 1 else 0) + (if p3 = 7 then 1 else 0)) + 20)) ∧ (∀ g34 : sv_S, (sm_PL (S 1100020) (S 51) (S 52) (g34 46) (g34 47) (g34 1076 0) (S 1086 0) ∧ sm_FR (S 1100020) (S 52) (S 1100021) (S 1100022) (3000 - (S 1084 0)) (S 1085 0) ∧ sm_PV (S 1100020) (S 48) (S 49) (S 50) (g34 44) (g34 1076 0) (S 1007 0) ∧ sm_AL (S 1100020) (S 48) (S 49) (S 50) (g34 44) (g34 1076 0) (S 1100032 0) ∧ sm_SV (S 1100020) (S 48) (g34 1100029) (S 32) (S 33) (g34 1076 0) (S 1032 0) ∧ 0 ≤ (g34 1076 0) ∧ (g34 1076 0) ≤ 300 ∧ 0 ≤ (S 1084 0) ∧ (S 1084 0) ≤ 3000 ∧ 0 ≤ (S 1086 0) ∧ sm_SC (g34 1100029) (g34 44) (g34 45) (g34 43) (S 21) (g34 1076 0) (S 1032 0) ∧ sm_PO (g34 42) (g34 1076 0) ∧ ((g34 1075 0) = 0 → (S 1100032 0) = -1 ∧ sm_FO (g34 44) (g34 45) (g34 1076 0)) ∧ 23 ≤ (g34 1076 0) ∧ 31 ≤ (S 1007 0) ∧ (S 1007 0) ≤ 400 ∧ sm_LN (S 4) 400 (S 1007 0) ∧ (S 1008 0) ≤ (S 1007 0) ∧ ((S 1075 0) = 1 → (g34 1075 0) = 1) ∧ 0 ≤ (g34 1092 0) ∧ (g34 1092 0) ≤ 24 ∧ (S 1007 0) ≤ (S 1007 0) ∧ (¬ (g34 1075 0) = 0 → sm_LX (g34 58) (g34 63) (g34 64) (g34 1092 0) (g34 1076 0)) ∧ ((g34 1075 0) = 0 → (g34 1073 0) = 1 → 1 ≤ (g34 1092 0) ∧ (g34 1092 0) ≤ 24 ∧ 0 ≤ (g34 57 ((g34 1092 0) - 1)) ∧ (g34 57 ((g34 1092 0) - 1)) < (S 1046 0) ∧ (S 29 (g34 57 ((g34 1092 0) - 1))) = (S 53 ((g34 1092 0) - 1)) ∧ 0 ≤ (S 53 ((g34 1092 0) - 1)) ∧ (S 53 ((g34 1092 0) - 1)) < (S 1032 0) ∧ (g34 60 ((g34 1092 0) - 1)) = sm_dp (S 1100024) (S 1100023 (g34 57 ((g34 1092 0) - 1))) ∧ sm_TC (S 61) (S 62) (S 27) (S 1100007) (S 1100023) (S 1100024) (40 * ((g34 1092 0) - 1)) (S 1100023 (g34 57 ((g34 1092 0) - 1))) ∧ sm_LK (g34 1100029) (g34 1076 0) (S 54 ((g34 1092 0) - 1)) (S 53 ((g34 1092 0) - 1)) ∧ sm_VO (g34 44) (g34 1076 0) (S 1007 0) ((S 55 ((g34 1092 0) - 1))) ((S 56 ((g34 1092 0) - 1))) ∧ sm_FW (g34 44) (g34 1076 0) (S 59 ((g34 1092 0) - 1)) ∧ sm_FL (S 53) (S 54) (S 55) (S 56) (g34 57) (g34 58) (S 59) (g34 60) (S 61) (S 62) (g34 63) (g34 64) (S 27) (S 29) (S 1100007) (S 1100023) (S 1100024) (S 1100025) (S 26) (g34 1100029) (g34 44) (S 1046 0) (S 1032 0) (g34 1076 0) (S 1007 0) (((g34 1092 0) - 1)) ∧ (g34 58 ((g34 1092 0) - 1)) = (S 1100007 (g34 57 ((g34 1092 0) - 1))) ∧ sm_SK (g34 63) (g34 64) (g34 44) (S 1100007) (S 1100025) (g34 1076 0) (S 1007 0) (400 * ((g34 1092 0) - 1)) ((g34 58 ((g34 1092 0) - 1))) ((S 1100025 (g34 57 ((g34 1092 0) - 1))))) ∧ ((g34 1073 0) = 1 ∨ (g34 1092 0) = 0 ∧ (g34 1075 0) = 0 ∧ ((g34 1073 0) = 2 ∨ (g34 1073 0) = 3)) ∧ ((g34 1073 0) = 1 ∨ (g34 1073 0) = 3)) → (sm_PL (S 1100020) (S 51) (S 52) (g34 46) (g34 47) (g34 1076 0) (S 1086 0) ∧ sm_FR (S 1100020) (S 52) (S 1100021) (S 1100022) (3000 - (S 1084 0)) (S 1085 0) ∧ sm_PV (S 1100020) (S 48) (S 49) (S 50) (g34 44) (g34 1076 0) (S 1007 0) ∧ sm_AL (S 1100020) (S 48) (S 49) (S 50) (g34 44) (g34 1076 0) (S 1100032 0) ∧ sm_SV (S 1100020) (S 48) (g34 1100029) (S 32) (S 33) (g34 1076 0) (S 1032 0) ∧ 0 ≤ (g34 1076 0) ∧ (g34 1076 0) ≤ 300 ∧ 0 ≤ (S 1084 0) ∧ (S 1084 0) ≤ 3000 ∧ 0 ≤ (S 1086 0) ∧ sm_SC (g34 1100029) (g34 44) (g34 45) (g34 43) (S 21) (g34 1076 0) (S 1032 0) ∧ sm_PO (g34 42) (g34 1076 0) ∧ ((g34 1075 0) = 0 → (S 1100032 0) = -1 ∧ sm_FO (g34 44) (g34 45) (g34 1076 0)) ∧ 23 ≤ (g34 1076 0) ∧ 31 ≤ (S 1007 0) ∧ (S 1007 0) ≤ 400 ∧ sm_LN (S 4) 400 (S 1007 0) ∧ (S 1008 0) ≤ (S 1007 0) ∧ ((S 1075 0) = 1 → (g34 1075 0) = 1) ∧ 0 ≤ (g34 1092 0) ∧ (g34 1092 0) ≤ 24 ∧ (S 1007 0) ≤ (S 1007 0) ∧ (¬ (g34 1075 0) = 0 → sm_LX (g34 58) (g34 63) (g34 64) (g34 1092 0) (g34 1076 0)) ∧ ((g34 1075 0) = 0 → (g34 1073 0) = 1 → 1 ≤ (g34 1092 0) ∧ (g34 1092 0) ≤ 24 ∧ 0 ≤ (g34 57 ((g34 1092 0) - 1)) ∧ (g34 57 ((g34 1092 0) - 1)) < (S 1046 0) ∧ (S 29 (g34 57 ((g34 1092 0) - 1))) = (S 53 ((g34 1092 0) - 1)) ∧ 0 ≤ (S 53 ((g34 1092 0) - 1)) ∧ (S 53 ((g34 1092 0) - 1)) < (S 1032 0) ∧ (g34 60 ((g34 1092 0) - 1)) = sm_dp (S 1100024) (S 1100023 (g34 57 ((g34 1092 0) - 1))) ∧ sm_TC (S 61) (S 62) (S 27) (S 1100007) (S 1100023) (S 1100024) (40 * ((g34 1092 0) - 1)) (S 1100023 (g34 57 ((g34 1092 0) - 1))) ∧ sm_LK (g34 1100029) (g34 1076 0) (S 54 ((g34 1092 0) - 1)) (S 53 ((g34 1092 0) - 1)) ∧ sm_VO (g34 44) (g34 1076 0) (S 1007 0) ((S 55 ((g34 1092 0) - 1))) ((S 56 ((g34 1092 0) - 1))) ∧ sm_FW (g34 44) (g34 1076 0) (S 59 ((g34 1092 0) - 1)) ∧ sm_FL (S 53) (S 54) (S 55) (S 56) (g34 57) (g34 58) (S 59) (g34 60) (S 61) (S 62) (g34 63) (g34 64) (S 27) (S 29) (S 1100007) (S 1100023) (S 1100024) (S 1100025) (S 26) (g34 1100029) (g34 44) (S 1046 0) (S 1032 0) (g34 1076 0) (S 1007 0) (((g34 1092 0) - 1)) ∧ (g34 58 ((g34 1092 0) - 1)) = (S 1100007 (g34 57 ((g34 1092 0) - 1))) ∧ sm_SK (g34 63) (g34 64) (g34 44) (S 1100007) (S 1100025) (g34 1076 0) (S 1007 0) (400 * ((g34 1092 0) - 1)) ((g34 58 ((g34 1092 0) - 1))) ((S 1100025 (g34 57 ((g34 1092 0) - 1))))) ∧ ((g34 1073 0) = 1 ∨ (g34 1092 0) = 0 ∧ (g34 1075 0) = 0 ∧ ((g34 1073 0) = 2 ∨ (g34 1073 0) = 3)) ∧ (S 1086 0) ≤ (S 1086 0) ∧ (S 1086 0) ≤ (S 1086 0) + 110 ∧ 0 ≤ (S 1107 0) ∧ (S 1107 0) ≤ 100 ∧ sm_PT (S 67) (S 1107 0) (S 1007 0))))))) ∧ ((¬ ((23 : Int) ≤ p2)) → (0 ≤ p2 ∧ p2 < 300) ∧ (sv_R (S 45 p2) → (((¬ (S 45 p2) = (0 : Int)) → (sv_R (S 1092 0) → (((¬ (S 1092 0) = (24 : Int)) → ((S 1075 0) = 0 ∧ (S 1073 0) = 1 ∧ sm_LX (S 58) (S 63) (S 64) (S 1092 0) (S 1076 0) ∧ sm_PL (S 1100020) (S 51) (S 52) (S 46) (S 47) (S 1076 0) (S 1086 0) ∧ sm_FR (S 1100020) (S 52) (S 1100021) (S 1100022) (3000 - (S 1084 0)) (S 1085 0) ∧ sm_PV (S 1100020) (S 48) (S 49) (S 50) (S 44) (S 1076 0) (S 1007 0) ∧ sm_AL (S 1100020) (S 48) (S 49) (S 50) (S 44) (S 1076 0) (S 1100032 0) ∧ sm_SV (S 1100020) (S 48) (S 1100029) (S 32) (S 33) (S 1076 0) (S 1032 0) ∧ 0 ≤ (S 1076 0) ∧ (S 1076 0) ≤ 300 ∧ 0 ≤ (S 1084 0) ∧ (S 1084 0) ≤ 3000 ∧ 0 ≤ (S 1086 0) ∧ sm_SC (S 1100029) (S 44) (S 45) (S 43) (S 21) (S 1076 0) (S 1032 0) ∧ sm_PO (S 42) (S 1076 0) ∧ (S 1100032 0) = -1 ∧ sm_FO (S 44) (S 45) (S 1076 0) ∧ 23 ≤ (S 1076 0) ∧ 31 ≤ (S 1007 0) ∧ (S 1007 0) ≤ 400 ∧ sm_LN (S 4) 400 (S 1007 0) ∧ sm_CT (S 26) (S 27) (S 28) (S 29) (S 1100007) (S 1100023) (S 1100024) (S 1100025) (S 21) (S 1046 0) (S 1032 0) (S 1008 0) (S 1055 0) ∧ sm_LS (S 26) (S 1100007) (S 1100025) (S 1046 0) ∧ sm_CL (S 1100007) (S 1100023) (S 1100025) (S 1046 0) ∧ 1 ≤ (S 1032 0) ∧ (S 1032 0) ≤ 11 ∧ 0 ≤ (S 1046 0) ∧ (S 1046 0) ≤ 600 ∧ 31 ≤ (S 1008 0) ∧ (S 1008 0) ≤ (S 1007 0) ∧ 0 ≤ (S 1055 0) ∧ (S 1055 0) ≤ 19 ∧ 1 ≤ (S 1092 0) ∧ (S 1092 0) ≤ 24 ∧ 0 ≤ (S 1100033 0) ∧ (S 1100033 0) < (S 1046 0) ∧ (S 29 (S 1100033 0)) = (S 53 ((S 1092 0) - 1)) ∧ 0 ≤ (S 53 ((S 1092 0) - 1)) ∧ (S 53 ((S 1092 0) - 1)) < (S 1032 0) ∧ (S 60 ((S 1092 0) - 1)) = sm_dp (S 1100024) (S 1100023 (S 1100033 0)) ∧ sm_TC (S 61) (S 62) (S 27) (S 1100007) (S 1100023) (S 1100024) (40 * ((S 1092 0) - 1)) (S 1100023 (S 1100033 0)) ∧ sm_LK (S 1100029) (S 1076 0) (S 54 ((S 1092 0) - 1)) (S 53 ((S 1092 0) - 1)) ∧ sm_VO (S 44) (S 1076 0) (S 1007 0) ((S 55 ((S 1092 0) - 1))) ((S 56 ((S 1092 0) - 1))) ∧ sm_FW (S 44) (S 1076 0) (S 59 ((S 1092 0) - 1)) ∧ sm_FL (S 53) (S 54) (S 55) (S 56) (S 57) (S 58) (S 59) (S 60) (S 61) (S 62) (S 63) (S 64) (S 27) (S 29) (S 1100007) (S 1100023) (S 1100024) (S 1100025) (S 26) (S 1100029) (S 44) (S 1046 0) (S 1032 0) (S 1076 0) (S 1007 0) (((S 1092 0) - 1)) ∧ (S 57 ((S 1092 0) - 1)) = (S 1100033 0) ∧ 0 ≤ (S 58 ((S 1092 0) - 1)) ∧ (S 58 ((S 1092 0) - 1)) ≤ 400 ∧ sm_SK (S 63) (S 64) (S 44) (S 1100007) (S 1100025) (S 1076 0) (S 1007 0) (400 * ((S 1092 0) - 1)) ((S 58 ((S 1092 0) - 1))) ((S 1100034 0)) ∧ -1 ≤ (S 1100034 0) ∧ (S 1100034 0) < (S 1046 0) ∧ (0 ≤ (S 1100034 0) → (S 26 (S 1100034 0)) = 29) ∧ (S 58 ((S 1092 0) - 1)) = (S 1100007 (S 1100033 0)) ∧ (S 1100034 0) = (S 1100025 (S 1100033 0)) ∧ (0 ≤ (S 1100023 (S 1100033 0)) → (S 1100007 (S 1100023 (S 1100033 0))) ≤ (S 58 ((S 1092 0) - 1))) ∧ (S 58 ((S 1092 0) - 1)) ≤ 396 ∧ 1 ≤ p5 ∧ p5 ≤ (S 58 ((S 1092 0) - 1)) ∧ (0 ≤ (S 1100034 0) → (S 1100007 (S 1100034 0)) ≤ (S 58 ((S 1092 0) - 1)) - p5) ∧ (S 1100033 0) + 1 < (S 1046 0) ∧ (S 29 ((S 1100033 0) + 1)) = (S 29 (S 1100033 0)) ∧ (S 1100007 ((S 1100033 0) + 1)) = (S 58 ((S 1092 0) - 1)) + 1 - p5 ∧ (S 1100023 ((S 1100033 0) + 1)) = (S 1100023 (S 1100033 0)) ∧ (S 1100025 ((S 1100033 0) + 1)) = (S 1100034 0) ∧ (0 ≤ (S 1100023 (S 1100033 0)) → (S 1100007 (S 1100023 (S 1100033 0))) ≤ (S 58 ((S 1092 0) - 1)) - p5) ∧ 0 ≤ (S 1115 0) ∧ (S 1115 0) ≤ p5 - 1 ∧ (S 1114 0) + (S 1115 0) = (400 * ((S 1092 0) - 1) + (S 58 ((S 1092 0) - 1))) ∧ (∀ g : Int, 0 ≤ g → g < (S 1032 0) → 0 ≤ (S 30 g) ∧ (S 30 g) < (S 1046 0) ∧ (S 1100007 (S 30 g)) = 0 ∧ (S 1100023 (S 30 g)) = -1 ∧ 0 ≤ (S 33 g) ∧ (S 33 g) ≤ 100 ∧ 0 ≤ (S 20 g) ∧ (S 20 g) ≤ 8) ∧ sm_VN (S 32) (S 33) (S 1032 0) (S 1008 0) ∧ (∀ f : Int, 0 ≤ f → f < (S 1032 0) → 0 ≤ (S 30 f) ∧ (S 30 f) < (S 1046 0) ∧ (S 29 (S 30 f)) = f ∧ (S 1100007 (S 30 f)) = 0 ∧ (S 1100023 (S 30 f)) = -1 ∧ (S 1100025 (S 30 f)) = -1) ∧ (S 1086 0) ≤ 1900000000 ∧ (S 1092 0) ≤ 23 ∧ 0 ≤ p2 ∧ p2 < (S 1076 0) ∧ (S 44 p2) = 1 ∧ 1 ≤ (S 45 p2) ∧ sm_VO (S 44) (S 1076 0) (S 1007 0) (p3) (p4) ∧ sm_FW (S 44) (S 1076 0) p6) ∧ (2 + 1 ≤ (2 * (4 * (S 1115 0) + (if p1 = 7 then 1 else 0) + (if p3 = 7 then 1 else 0)) + 20)) ∧ (∀ g44 : sv_S, (sm_PL (g44 1100020) (g44 51) (g44 52) (g44 46) (g44 47) (g44 1076 0) (g44 1086 0) ∧ sm_FR (g44 1100020) (g44 52) (g44 1100021) (g44 1100022) (3000 - (g44 1084 0)) (g44 1085 0) ∧ sm_PV (g44 1100020) (g44 48) (g44 49) (g44 50) (g44 44) (g44 1076 0) (S 1007 0) ∧ sm_AL (g44 1100020) (g44 48) (g44 49) (g44 50) (g44 44) (g44 1076 0) (S 1100032 0) ∧ sm_SV (g44 1100020) (g44 48) (g44 1100029) (S 32) (S 33) (g44 1076 0) (S 1032 0) ∧ 0 ≤ (g44 1076 0) ∧ (g44 1076 0) ≤ 300 ∧ 0 ≤ (g44 1084 0) ∧ (g44 1084 0) ≤ 3000 ∧ 0 ≤ (g44 1086 0) ∧ sm_SC (g44 1100029) (g44 44) (g44 45) (g44 43) (S 21) (g44 1076 0) (S 1032 0) ∧ sm_PO (g44 42) (g44 1076 0) ∧ ((g44 1075 0) = 0 → (S 1100032 0) = -1 ∧ sm_FO (g44 44) (g44 45) (g44 1076 0)) ∧ 23 ≤ (g44 1076 0) ∧ 31 ≤ (S 1007 0) ∧ (S 1007 0) ≤ 400 ∧ sm_LN (S 4) 400 (S 1007 0) ∧ (S 1008 0) ≤ (S 1007 0) ∧ ((S 1075 0) = 1 → (g44 1075 0) = 1) ∧ 0 ≤ (g44 1092 0) ∧ (g44 1092 0) ≤ 24 ∧ (S 1007 0) ≤ (S 1007 0) ∧ (¬ (g44 1075 0) = 0 → sm_LX (g44 58) (g44 63) (g44 64) (g44 1092 0) (g44 1076 0)) ∧ ((g44 1075 0) = 0 → (S 1073 0) = 1 → 1 ≤ (g44 1092 0) ∧ (g44 1092 0) ≤ 24 ∧ 0 ≤ (g44 57 ((g44 1092 0) - 1)) ∧ (g44 57 ((g44 1092 0) - 1)) < (S 1046 0) ∧ (S 29 (g44 57 ((g44 1092 0) - 1))) = (g44 53 ((g44 1092 0) - 1)) ∧ 0 ≤ (g44 53 ((g44 1092 0) - 1)) ∧ (g44 53 ((g44 1092 0) - 1)) < (S 1032 0) ∧ (g44 60 ((g44 1092 0) - 1)) = sm_dp (S 1100024) (S 1100023 (g44 57 ((g44 1092 0) - 1))) ∧ sm_TC (S 61) (S 62) (S 27) (S 1100007) (S 1100023) (S 1100024) (40 * ((g44 1092 0) - 1)) (S 1100023 (g44 57 ((g44 1092 0) - 1))) ∧ sm_LK (g44 1100029) (g44 1076 0) (g44 54 ((g44 1092 0) - 1)) (g44 53 ((g44 1092 0) - 1)) ∧ sm_VO (g44 44) (g44 1076 0) (S 1007 0) ((g44 55 ((g44 1092 0) - 1))) ((g44 56 ((g44 1092 0) - 1))) ∧ sm_FW (g44 44) (g44 1076 0) (g44 59 ((g44 1092 0) - 1)) ∧ sm_FL (g44 53) (g44 54) (g44 55) (g44 56) (g44 57) (g44 58) (g44 59) (g44 60) (S 61) (S 62) (g44 63) (g44 64) (S 27) (S 29) (S 1100007) (S 1100023) (S 1100024) (S 1100025) (S 26) (g44 1100029) (g44 44) (S 1046 0) (S 1032 0) (g44 1076 0) (S 1007 0) (((g44 1092 0) - 1)) ∧ (g44 58 ((g44 1092 0) - 1)) = (S 1100007 (g44 57 ((g44 1092 0) - 1))) ∧ sm_SK (g44 63) (g44 64) (g44 44) (S 1100007) (S 1100025) (g44 1076 0) (S 1007 0) (400 * ((g44 1092 0) - 1)) ((g44 58 ((g44 1092 0) - 1))) ((S 1100025 (g44 57 ((g44 1092 0) - 1))))) ∧ ((S 1073 0) = 1 ∨ (g44 1092 0) = 0 ∧ (g44 1075 0) = 0 ∧ ((S 1073 0) = 2 ∨ (S 1073 0) = 3)) ∧ (S 1086 0) ≤ (g44 1086 0) ∧ (g44 1086 0) ≤ (S 1086 0) + 110) → (sm_PL (g44 1100020) (g44 51) (g44 52) (g44 46) (g44 47) (g44 1076 0) (g44 1086 0) ∧ sm_FR (g44 1100020) (g44 52) (g44 1100021) (g44 1100022) (3000 - (g44 1084 0)) (g44 1085 0) ∧ sm_PV (g44 1100020) (g44 48) (g44 49) (g44 50) (g44 44) (g44 1076 0) (S 1007 0) ∧ sm_AL (g44 1100020) (g44 48) (g44 49) (g44 50) (g44 44) (g44 1076 0) (S 1100032 0) ∧ sm_SV (g44 1100020) (g44 48) (g44 1100029) (S 32) (S 33) (g44 1076 0) (S 1032 0) ∧ 0 ≤ (g44 1076 0) ∧ (g44 1076 0) ≤ 300 ∧ 0 ≤ (g44 1084 0) ∧ (g44 1084 0) ≤ 3000 ∧ 0 ≤ (g44 1086 0) ∧ sm_SC (g44 1100029) (g44 44) (g44 45) (g44 43) (S 21) (g44 1076 0) (S 1032 0) ∧ sm_PO (g44 42) (g44 1076 0) ∧ ((g44 1075 0) = 0 → (S 1100032 0) = -1 ∧ sm_FO (g44 44) (g44 45) (g44 1076 0)) ∧ 23 ≤ (g44 1076 0) ∧ 31 ≤ (S 1007 0) ∧ (S 1007 0) ≤ 400 ∧ sm_LN (S 4) 400 (S 1007 0) ∧ (S 1008 0) ≤ (S 1007 0) ∧ ((S 1075 0) = 1 → (g44 1075 0) = 1) ∧ 0 ≤ (g44 1092 0) ∧ (g44 1092 0) ≤ 24 ∧ (S 1007 0) ≤ (S 1007 0) ∧ (¬ (g44 1075 0) = 0 → sm_LX (g44 58) (g44 63) (g44 64) (g44 1092 0) (g44 1076 0)) ∧ ((g44 1075 0) = 0 → (S 1073 0) = 1 → 1 ≤ (g44 1092 0) ∧ (g44 1092 0) ≤ 24 ∧ 0 ≤ (g44 57 ((g44 1092 0) - 1)) ∧ (g44 57 ((g44 1092 0) - 1)) < (S 1046 0) ∧ (S 29 (g44 57 ((g44 1092 0) - 1))) = (g44 53 ((g44 1092 0) - 1)) ∧ 0 ≤ (g44 53 ((g44 1092 0) - 1)) ∧ (g44 53 ((g44 1092 0) - 1)) < (S 1032 0) ∧ (g44 60 ((g44 1092 0) - 1)) = sm_dp (S 1100024) (S 1100023 (g44 57 ((g44 1092 0) - 1))) ∧ sm_TC (S 61) (S 62) (S 27) (S 1100007) (S 1100023) (S 1100024) (40 * ((g44 1092 0) - 1)) (S 1100023 (g44 57 ((g44 1092 0) - 1))) ∧ sm_LK (g44 1100029) (g44 1076 0) (g44 54 ((g44 1092 0) - 1)) (g44 53 ((g44 1092 0) - 1)) ∧ sm_VO (g44 44) (g44 1076 0) (S 1007 0) ((g44 55 ((g44 1092 0) - 1))) ((g44 56 ((g44 1092 0) - 1))) ∧ sm_FW (g44 44) (g44 1076 0) (g44 59 ((g44 1092 0) - 1)) ∧ sm_FL (g44 53) (g44 54) (g44 55) (g44 56) (g44 57) (g44 58) (g44 59) (g44 60) (S 61) (S 62) (g44 63) (g44 64) (S 27) (S 29) (S 1100007) (S 1100023) (S 1100024) (S 1100025) (S 26) (g44 1100029) (g44 44) (S 1046 0) (S 1032 0) (g44 1076 0) (S 1007 0) (((g44 1092 0) - 1)) ∧ (g44 58 ((g44 1092 0) - 1)) = (S 1100007 (g44 57 ((g44 1092 0) - 1))) ∧ sm_SK (g44 63) (g44 64) (g44 44) (S 1100007) (S 1100025) (g44 1076 0) (S 1007 0) (400 * ((g44 1092 0) - 1)) ((g44 58 ((g44 1092 0) - 1))) ((S 1100025 (g44 57 ((g44 1092 0) - 1))))) ∧ ((S 1073 0) = 1 ∨ (g44 1092 0) = 0 ∧ (g44 1075 0) = 0 ∧ ((S 1073 0) = 2 ∨ (S 1073 0) = 3)) ∧ (S 1086 0) ≤ (g44 1086 0) ∧ (g44 1086 0) ≤ (S 1086 0) + 110 ∧ 0 ≤ (S 1107 0) ∧ (S 1107 0) ≤ 100 ∧ sm_PT (S 67) (S 1107 0) (S 1007 0)))) ∧ ((¬ (¬ (S 1092 0) = (24 : Int))) → ((S 1075 0) = 0 ∧ (S 1073 0) = 1 ∧ sm_LX (S 58) (S 63) (S 64) (S 1092 0) (S 1076 0) ∧ sm_PL (S 1100020) (S 51) (S 52) (S 46) (S 47) (S 1076 0) (S 1086 0) ∧ sm_FR (S 1100020) (S 52) (S 1100021) (S 1100022) (3000 - (S 1084 0)) (S 1085 0) ∧ sm_PV (S 1100020) (S 48) (S 49) (S 50) (S 44) (S 1076 0) (S 1007 0) ∧ sm_AL (S 1100020) (S 48) (S 49) (S 50) (S 44) (S 1076 0) (S 1100032 0) ∧ sm_SV (S 1100020) (S 48) (S 1100029) (S 32) (S 33) (S 1076 0) (S 1032 0) ∧ 0 ≤ (S 1076 0) ∧ (S 1076 0) ≤ 300 ∧ 0 ≤ (S 1084 0) ∧ (S 1084 0) ≤ 3000 ∧ 0 ≤ (S 1086 0) ∧ sm_SC (S 1100029) (S 44) (S 45) (S 43) (S 21) (S 1076 0) (S 1032 0) ∧ sm_PO (S 42) (S 1076 0) ∧ (S 1100032 0) = -1 ∧ sm_FO (S 44) (S 45) (S 1076 0) ∧ 23 ≤ (S 1076 0) ∧ 31 ≤ (S 1007 0) ∧ (S 1007 0) ≤ 400 ∧ sm_LN (S 4) 400 (S 1007 0) ∧ sm_CT (S 26) (S 27) (S 28) (S 29) (S 1100007) (S 1100023) (S 1100024) (S 1100025) (S 21) (S 1046 0) (S 1032 0) (S 1008 0) (S 1055 0) ∧ sm_LS (S 26) (S 1100007) (S 1100025) (S 1046 0) ∧ sm_CL (S 1100007) (S 1100023) (S 1100025) (S 1046 0) ∧ 1 ≤ (S 1032 0) ∧ (S 1032 0) ≤ 11 ∧ 0 ≤ (S 1046 0) ∧ (S 1046 0) ≤ 600 ∧ 31 ≤ (S 1008 0) ∧ (S 1008 0) ≤ (S 1007 0) ∧ 0 ≤ (S 1055 0) ∧ (S 1055 0) ≤ 19 ∧ 1 ≤ (S 1092 0) ∧ (S 1092 0) ≤ 24 ∧ 0 ≤ (S 57 ((S 1092 0) - 1)) ∧ (S 57 ((S 1092 0) - 1)) < (S 1046 0) ∧ (S 29 (S 57 ((S 1092 0) - 1))) = (S 53 ((S 1092 0) - 1)) ∧ 0 ≤ (S 53 ((S 1092 0) - 1)) ∧ (S 53 ((S 1092 0) - 1)) < (S 1032 0) ∧ (S 60 ((S 1092 0) - 1)) = sm_dp (S 1100024) (S 1100023 (S 57 ((S 1092 0) - 1))) ∧ sm_TC (S 61) (S 62) (S 27) (S 1100007) (S 1100023) (S 1100024) (40 * ((S 1092 0) - 1)) (S 1100023 (S 57 ((S 1092 0) - 1))) ∧ sm_LK (S 1100029) (S 1076 0) (S 54 ((S 1092 0) - 1)) (S 53 ((S 1092 0) - 1)) ∧ sm_VO (S 44) (S 1076 0) (S 1007 0) ((S 55 ((S 1092 0) - 1))) ((S 56 ((S 1092 0) - 1))) ∧ sm_FW (S 44) (S 1076 0) (S 59 ((S 1092 0) - 1)) ∧ sm_FL (S 53) (S 54) (S 55) (S 56) (S 57) (S 58) (S 59) (S 60) (S 61) (S 62) (S 63) (S 64) (S 27) (S 29) (S 1100007) (S 1100023) (S 1100024) (S 1100025) (S 26) (S 1100029) (S 44) (S 1046 0) (S 1032 0) (S 1076 0) (S 1007 0) (((S 1092 0) - 1)) ∧ (S 58 ((S 1092 0) - 1)) = (S 1100007 (S 57 ((S 1092 0) - 1))) ∧ sm_SK (S 63) (S 64) (S 44) (S 1100007) (S 1100025) (S 1076 0) (S 1007 0) (400 * ((S 1092 0) - 1)) ((S 58 ((S 1092 0) - 1))) ((S 1100025 (S 57 ((S 1092 0) - 1)))) ∧ (0 ≤ (S 1100023 (S 57 ((S 1092 0) - 1))) → (S 1100007 (S 1100023 (S 57 ((S 1092 0) - 1)))) ≤ (S 58 ((S 1092 0) - 1))) ∧ 6 ≤ (8 : Int) ∧ (8 : Int) ≤ 8) ∧ (3 + 1 ≤ (2 * (4 * (S 1115 0) + (if p1 = 7 then 1 else 0) + (if p3 = 7 then 1 else 0)) + 20)) ∧ (∀ g51 : sv_S, (sm_PL (S 1100020) (S 51) (S 52) (g51 46) (g51 47) (g51 1076 0) (S 1086 0) ∧ sm_FR (S 1100020) (S 52) (S 1100021) (S 1100022) (3000 - (S 1084 0)) (S 1085 0) ∧ sm_PV (S 1100020) (S 48) (S 49) (S 50) (g51 44) (g51 1076 0) (S 1007 0) ∧ sm_AL (S 1100020) (S 48) (S 49) (S 50) (g51 44) (g51 1076 0) (S 1100032 0) ∧ sm_SV (S 1100020) (S 48) (g51 1100029) (S 32) (S 33) (g51 1076 0) (S 1032 0) ∧ 0 ≤ (g51 1076 0) ∧ (g51 1076 0) ≤ 300 ∧ 0 ≤ (S 1084 0) ∧ (S 1084 0) ≤ 3000 ∧ 0 ≤ (S 1086 0) ∧ sm_SC (g51 1100029) (g51 44) (g51 45) (g51 43) (S 21) (g51 1076 0) (S 1032 0) ∧ sm_PO (g51 42) (g51 1076 0) ∧ ((g51 1075 0) = 0 → (S 1100032 0) = -1 ∧ sm_FO (g51 44) (g51 45) (g51 1076 0)) ∧ 23 ≤ (g51 1076 0) ∧ 31 ≤ (S 1007 0) ∧ (S 1007 0) ≤ 400 ∧ sm_LN (S 4) 400 (S 1007 0) ∧ (S 1008 0) ≤ (S 1007 0) ∧ ((S 1075 0) = 1 → (g51 1075 0) = 1) ∧ 0 ≤ (g51 1092 0) ∧ (g51 1092 0) ≤ 24 ∧ (S 1007 0) ≤ (S 1007 0) ∧ (¬ (g51 1075 0) = 0 → sm_LX (g51 58) (g51 63) (g51 64) (g51 1092 0) (g51 1076 0)) ∧ ((g51 1075 0) = 0 → (g51 1073 0) = 1 → 1 ≤ (g51 1092 0) ∧ (g51 1092 0) ≤ 24 ∧ 0 ≤ (g51 57 ((g51 1092 0) - 1)) ∧ (g51 57 ((g51 1092 0) - 1)) < (S 1046 0) ∧ (S 29 (g51 57 ((g51 1092 0) - 1))) = (S 53 ((g51 1092 0) - 1)) ∧ 0 ≤ (S 53 ((g51 1092 0) - 1)) ∧ (S 53 ((g51 1092 0) - 1)) < (S 1032 0) ∧ (g51 60 ((g51 1092 0) - 1)) = sm_dp (S 1100024) (S 1100023 (g51 57 ((g51 1092 0) - 1))) ∧ sm_TC (S 61) (S 62) (S 27) (S 1100007) (S 1100023) (S 1100024) (40 * ((g51 1092 0) - 1)) (S 1100023 (g51 57 ((g51 1092 0) - 1))) ∧ sm_LK (g51 1100029) (g51 1076 0) (S 54 ((g51 1092 0) - 1)) (S 53 ((g51 1092 0) - 1)) ∧ sm_VO (g51 44) (g51 1076 0) (S 1007 0) ((S 55 ((g51 1092 0) - 1))) ((S 56 ((g51 1092 0) - 1))) ∧ sm_FW (g51 44) (g51 1076 0) (S 59 ((g51 1092 0) - 1)) ∧ sm_FL (S 53) (S 54) (S 55) (S 56) (g51 57) (g51 58) (S 59) (g51 60) (S 61) (S 62) (g51 63) (g51 64) (S 27) (S 29) (S 1100007) (S 1100023) (S 1100024) (S 1100025) (S 26) (g51 1100029) (g51 44) (S 1046 0) (S 1032 0) (g51 1076 0) (S 1007 0) (((g51 1092 0) - 1)) ∧ (g51 58 ((g51 1092 0) - 1)) = (S 1100007 (g51 57 ((g51 1092 0) - 1))) ∧ sm_SK (g51 63) (g51 64) (g51 44) (S 1100007) (S 1100025) (g51 1076 0) (S 1007 0) (400 * ((g51 1092 0) - 1)) ((g51 58 ((g51 1092 0) - 1))) ((S 1100025 (g51 57 ((g51 1092 0) - 1))))) ∧ ((g51 1073 0) = 1 ∨ (g51 1092 0) = 0 ∧ (g51 1075 0) = 0 ∧ ((g51 1073 0) = 2 ∨ (g51 1073 0) = 3)) ∧ ((g51 1073 0) = 1 ∨ (g51 1073 0) = 3)) → (sm_PL (S 1100020) (S 51) (S 52) (g51 46) (g51 47) (g51 1076 0) (S 1086 0) ∧ sm_FR (S 1100020) (S 52) (S 1100021) (S 1100022) (3000 - (S 1084 0)) (S 1085 0) ∧ sm_PV (S 1100020) (S 48) (S 49) (S 50) (g51 44) (g51 1076 0) (S 1007 0) ∧ sm_AL (S 1100020) (S 48) (S 49) (S 50) (g51 44) (g51 1076 0) (S 1100032 0) ∧ sm_SV (S 1100020) (S 48) (g51 1100029) (S 32) (S 33) (g51 1076 0) (S 1032 0) ∧ 0 ≤ (g51 1076 0) ∧ (g51 1076 0) ≤ 300 ∧ 0 ≤ (S 1084 0) ∧ (S 1084 0) ≤ 3000 ∧ 0 ≤ (S 1086 0) ∧ sm_SC (g51 1100029) (g51 44) (g51 45) (g51 43) (S 21) (g51 1076 0) (S 1032 0) ∧ sm_PO (g51 42) (g51 1076 0) ∧ ((g51 1075 0) = 0 → (S 1100032 0) = -1 ∧ sm_FO (g51 44) (g51 45) (g51 1076 0)) ∧ 23 ≤ (g51 1076 0) ∧ 31 ≤ (S 1007 0) ∧ (S 1007 0) ≤ 400 ∧ sm_LN (S 4) 400 (S 1007 0) ∧ (S 1008 0) ≤ (S 1007 0) ∧ ((S 1075 0) = 1 → (g51 1075 0) = 1) ∧ 0 ≤ (g51 1092 0) ∧ (g51 1092 0) ≤ 24 ∧ (S 1007 0) ≤ (S 1007 0) ∧ (¬ (g51 1075 0) = 0 → sm_LX (g51 58) (g51 63) (g51 64) (g51 1092 0) (g51 1076 0)) ∧ ((g51 1075 0) = 0 → (g51 1073 0) = 1 → 1 ≤ (g51 1092 0) ∧ (g51 1092 0) ≤ 24 ∧ 0 ≤ (g51 57 ((g51 1092 0) - 1)) ∧ (g51 57 ((g51 1092 0) - 1)) < (S 1046 0) ∧ (S 29 (g51 57 ((g51 1092 0) - 1))) = (S 53 ((g51 1092 0) - 1)) ∧ 0 ≤ (S 53 ((g51 1092 0) - 1)) ∧ (S 53 ((g51 1092 0) - 1)) < (S 1032 0) ∧ (g51 60 ((g51 1092 0) - 1)) = sm_dp (S 1100024) (S 1100023 (g51 57 ((g51 1092 0) - 1))) ∧ sm_TC (S 61) (S 62) (S 27) (S 1100007) (S 1100023) (S 1100024) (40 * ((g51 1092 0) - 1)) (S 1100023 (g51 57 ((g51 1092 0) - 1))) ∧ sm_LK (g51 1100029) (g51 1076 0) (S 54 ((g51 1092 0) - 1)) (S 53 ((g51 1092 0) - 1)) ∧ sm_VO (g51 44) (g51 1076 0) (S 1007 0) ((S 55 ((g51 1092 0) - 1))) ((S 56 ((g51 1092 0) - 1))) ∧ sm_FW (g51 44) (g51 1076 0) (S 59 ((g51 1092 0) - 1)) ∧ sm_FL (S 53) (S 54) (S 55) (S 56) (g51 57) (g51 58) (S 59) (g51 60) (S 61) (S 62) (g51 63) (g51 64) (S 27) (S 29) (S 1100007) (S 1100023) (S 1100024) (S 1100025) (S 26) (g51 1100029) (g51 44) (S 1046 0) (S 1032 0) (g51 1076 0) (S 1007 0) (((g51 1092 0) - 1)) ∧ (g51 58 ((g51 1092 0) - 1)) = (S 1100007 (g51 57 ((g51 1092 0) - 1))) ∧ sm_SK (g51 63) (g51 64) (g51 44) (S 1100007) (S 1100025) (g51 1076 0) (S 1007 0) (400 * ((g51 1092 0) - 1)) ((g51 58 ((g51 1092 0) - 1))) ((S 1100025 (g51 57 ((g51 1092 0) - 1))))) ∧ ((g51 1073 0) = 1 ∨ (g51 1092 0) = 0 ∧ (g51 1075 0) = 0 ∧ ((g51 1073 0) = 2 ∨ (g51 1073 0) = 3)) ∧ (S 1086 0) ≤ (S 1086 0) ∧ (S 1086 0) ≤ (S 1086 0) + 110 ∧ 0 ≤ (S 1107 0) ∧ (S 1107 0) ≤ 100 ∧ sm_PT (S 67) (S 1107 0) (S 1007 0))))))) ∧ ((¬ (¬ (S 45 p2) = (0 : Int))) → (((¬ p2 = (20 : Int)) → ((S 1075 0) = 0 ∧ (S 1073 0) = 1 ∧ sm_LX (S 58) (S 63) (S 64) (S 1092 0) (S 1076 0) ∧ sm_PL (S 1100020) (S 51) (S 52) (S 46) (S 47) (S 1076 0) (S 1086 0) ∧ sm_FR (S 1100020) (S 52) (S 1100021) (S 1100022) (3000 - (S 1084 0)) (S 1085 0) ∧ sm_PV (S 1100020) (S 48) (S 49) (S 50) (S 44) (S 1076 0) (S 1007 0) ∧ sm_AL (S 1100020) (S 48) (S 49) (S 50) (S 44) (S 1076 0) (S 1100032 0) ∧ sm_SV (S 1100020) (S 48) (S 1100029) (S 32) (S 33) (S 1076 0) (S 1032 0) ∧ 0 ≤ (S 1076 0) ∧ (S 1076 0) ≤ 300 ∧ 0 ≤ (S 1084 0) ∧ (S 1084 0) ≤ 3000 ∧ 0 ≤ (S 1086 0) ∧ sm_SC (S 1100029) (S 44) (S 45) (S 43) (S 21) (S 1076 0) (S 1032 0) ∧ sm_PO (S 42) (S 1076 0) ∧ (S 1100032 0) = -1 ∧ sm_FO (S 44) (S 45) (S 1076 0) ∧ 23 ≤ (S 1076 0) ∧ 31 ≤ (S 1007 0) ∧ (S 1007 0) ≤ 400 ∧ sm_LN (S 4) 400 (S 1007 0) ∧ sm_CT (S 26) (S 27) (S 28) (S 29) (S 1100007) (S 1100023) (S 1100024) (S 1100025) (S 21) (S 1046 0) (S 1032 0) (S 1008 0) (S 1055 0) ∧ sm_LS (S 26) (S 1100007) (S 1100025) (S 1046 0) ∧ sm_CL (S 1100007) (S 1100023) (S 1100025) (S 1046 0) ∧ 1 ≤ (S 1032 0) ∧ (S 1032 0) ≤ 11 ∧ 0 ≤ (S 1046 0) ∧ (S 1046 0) ≤ 600 ∧ 31 ≤ (S 1008 0) ∧ (S 1008 0) ≤ (S 1007 0) ∧ 0 ≤ (S 1055 0) ∧ (S 1055 0) ≤ 19 ∧ 1 ≤ (S 1092 0) ∧ (S 1092 0) ≤ 24 ∧ 0 ≤ (S 1100033 0) ∧ (S 1100033 0) < (S 1046 0) ∧ (S 29 (S 1100033 0)) = (S 53 ((S 1092 0) - 1)) ∧ 0 ≤ (S 53 ((S 1092 0) - 1)) ∧ (S 53 ((S 1092 0) - 1)) < (S 1032 0) ∧ (S 60 ((S 1092 0) - 1)) = sm_dp (S 1100024) (S 1100023 (S 1100033 0)) ∧ sm_TC (S 61) (S 62) (S 27) (S 1100007) (S 1100023) (S 1100024) (40 * ((S 1092 0) - 1)) (S 1100023 (S 1100033 0)) ∧ sm_LK (S 1100029) (S 1076 0) (S 54 ((S 1092 0) - 1)) (S 53 ((S 1092 0) - 1)) ∧ sm_VO (S 44) (S 1076 0) (S 1007 0) ((S 55 ((S 1092 0) - 1))) ((S 56 ((S 1092 0) - 1))) ∧ sm_FW (S 44) (S 1076 0) (S 59 ((S 1092 0) - 1)) ∧ sm_FL (S 53) (S 54) (S 55) (S 56) (S 57) (S 58) (S 59) (S 60) (S 61) (S 62) (S 63) (S 64) (S 27) (S 29) (S 1100007) (S 1100023) (S 1100024) (S 1100025) (S 26) (S 1100029) (S 44) (S 1046 0) (S 1032 0) (S 1076 0) (S 1007 0) (((S 1092 0) - 1)) ∧ (S 57 ((S 1092 0) - 1)) = (S 1100033 0) ∧ 0 ≤ (S 58 ((S 1092 0) - 1)) ∧ (S 58 ((S 1092 0) - 1)) ≤ 400 ∧ sm_SK (S 63) (S 64) (S 44) (S 1100007) (S 1100025) (S 1076 0) (S 1007 0) (400 * ((S 1092 0) - 1)) ((S 58 ((S 1092 0) - 1))) ((S 1100034 0)) ∧ -1 ≤ (S 1100034 0) ∧ (S 1100034 0) < (S 1046 0) ∧ (0 ≤ (S 1100034 0) → (S 26 (S 1100034 0)) = 29) ∧ (S 58 ((S 1092 0) - 1)) = (S 1100007 (S 1100033 0)) ∧ (S 1100034 0) = (S 1100025 (S 1100033 0)) ∧ (0 ≤ (S 1100023 (S 1100033 0)) → (S 1100007 (S 1100023 (S 1100033 0))) ≤ (S 58 ((S 1092 0) - 1))) ∧ (S 58 ((S 1092 0) - 1)) ≤ 396 ∧ 1 ≤ p5 ∧ p5 ≤ (S 58 ((S 1092 0) - 1)) ∧ (0 ≤ (S 1100034 0) → (S 1100007 (S 1100034 0)) ≤ (S 58 ((S 1092 0) - 1)) - p5) ∧ (S 1100033 0) + 1 < (S 1046 0) ∧ (S 29 ((S 1100033 0) + 1)) = (S 29 (S 1100033 0)) ∧ (S 1100007 ((S 1100033 0) + 1)) = (S 58 ((S 1092 0) - 1)) + 1 - p5 ∧ (S 1100023 ((S 1100033 0) + 1)) = (S 1100023 (S 1100033 0)) ∧ (S 1100025 ((S 1100033 0) + 1)) = (S 1100034 0) ∧ (0 ≤ (S 1100023 (S 1100033 0)) → (S 1100007 (S 1100023 (S 1100033 0))) ≤ (S 58 ((S 1092 0) - 1)) - p5) ∧ 0 ≤ (S 1115 0) ∧ (S 1115 0) ≤ p5 - 1 ∧ (S 1114 0) + (S 1115 0) = (400 * ((S 1092 0) - 1) + (S 58 ((S 1092 0) - 1))) ∧ (∀ g : Int, 0 ≤ g → g < (S 1032 0) → 0 ≤ (S 30 g) ∧ (S 30 g) < (S 1046 0) ∧ (S 1100007 (S 30 g)) = 0 ∧ (S 1100023 (S 30 g)) = -1 ∧ 0 ≤ (S 33 g) ∧ (S 33 g) ≤ 100 ∧ 0 ≤ (S 20 g) ∧ (S 20 g) ≤ 8) ∧ sm_VN (S 32) (S 33) (S 1032 0) (S 1008 0) ∧ (∀ f : Int, 0 ≤ f → f < (S 1032 0) → 0 ≤ (S 30 f) ∧ (S 30 f) < (S 1046 0) ∧ (S 29 (S 30 f)) = f ∧ (S 1100007 (S 30 f)) = 0 ∧ (S 1100023 (S 30 f)) = -1 ∧ (S 1100025 (S 30 f)) = -1) ∧ (S 1086 0) ≤ 1900000000 ∧ sm_VO (S 44) (S 1076 0) (S 1007 0) (p3) (p4) ∧ 9 ≤ p2 ∧ p2 ≤ 22 ∧ ¬ p2 = 20 ∧ 0 ≤ (S 1107 0) ∧ (S 1107 0) ≤ 100 ∧ sm_PT (S 67) (S 1107 0) (S 1007 0)) ∧ (6 + 1 ≤ (2 * (4 * (S 1115 0) + (if p1 = 7 then 1 else 0) + (if p3 = 7 then 1 else 0)) + 20)) ∧ (∀ g58 : sv_S, (sm_PL (g58 1100020) (g58 51) (g58 52) (g58 46) (g58 47) (g58 1076 0) (g58 1086 0) ∧ sm_FR (g58 1100020) (g58 52) (g58 1100021) (g58 1100022) (3000 - (g58 1084 0)) (g58 1085 0) ∧ sm_PV (g58 1100020) (g58 48) (g58 49) (g58 50) (g58 44) (g58 1076 0) (g58 1007 0) ∧ sm_AL (g58 1100020) (g58 48) (g58 49) (g58 50) (g58 44) (g58 1076 0) (g58 1100032 0) ∧ sm_SV (g58 1100020) (g58 48) (g58 1100029) (S 32) (S 33) (g58 1076 0) (S 1032 0) ∧ 0 ≤ (g58 1076 0) ∧ (g58 1076 0) ≤ 300 ∧ 0 ≤ (g58 1084 0) ∧ (g58 1084 0) ≤ 3000 ∧ 0 ≤ (g58 1086 0) ∧ sm_SC (g58 1100029) (g58 44) (g58 45) (g58 43) (S 21) (g58 1076 0) (S 1032 0) ∧ sm_PO (g58 42) (g58 1076 0) ∧ ((g58 1075 0) = 0 → (g58 1100032 0) = -1 ∧ sm_FO (g58 44) (g58 45) (g58 1076 0)) ∧ 23 ≤ (g58 1076 0) ∧ 31 ≤ (g58 1007 0) ∧ (g58 1007 0) ≤ 400 ∧ sm_LN (g58 4) 400 (g58 1007 0) ∧ (S 1008 0) ≤ (g58 1007 0) ∧ ((S 1075 0) = 1 → (g58 1075 0) = 1) ∧ 0 ≤ (g58 1092 0) ∧ (g58 1092 0) ≤ 24 ∧ (S 1007 0) ≤ (g58 1007 0) ∧ (¬ (g58 1075 0) = 0 → sm_LX (g58 58) (g58 63) (g58 64) (g58 1092 0) (g58 1076 0)) ∧ ((g58 1075 0) = 0 → (g58 1073 0) = 1 → 1 ≤ (g58 1092 0) ∧ (g58 1092 0) ≤ 24 ∧ 0 ≤ (g58 57 ((g58 1092 0) - 1)) ∧ (g58 57 ((g58 1092 0) - 1)) < (S 1046 0) ∧ (S 29 (g58 57 ((g58 1092 0) - 1))) = (S 53 ((g58 1092 0) - 1)) ∧ 0 ≤ (S 53 ((g58 1092 0) - 1)) ∧ (S 53 ((g58 1092 0) - 1)) < (S 1032 0) ∧ (g58 60 ((g58 1092 0) - 1)) = sm_dp (S 1100024) (S 1100023 (g58 57 ((g58 1092 0) - 1))) ∧ sm_TC (S 61) (S 62) (S 27) (S 1100007) (S 1100023) (S 1100024) (40 * ((g58 1092 0) - 1)) (S 1100023 (g58 57 ((g58 1092 0) - 1))) ∧ sm_LK (g58 1100029) (g58 1076 0) (S 54 ((g58 1092 0) - 1)) (S 53 ((g58 1092 0) - 1)) ∧ sm_VO (g58 44) (g58 1076 0) (g58 1007 0) ((S 55 ((g58 1092 0) - 1))) ((S 56 ((g58 1092 0) - 1))) ∧ sm_FW (g58 44) (g58 1076 0) (S 59 ((g58 1092 0) - 1)) ∧ sm_FL (S 53) (S 54) (S 55) (S 56) (g58 57) (g58 58) (S 59) (g58 60) (S 61) (S 62) (g58 63) (g58 64) (S 27) (S 29) (S 1100007) (S 1100023) (S 1100024) (S 1100025) (S 26) (g58 1100029) (g58 44) (S 1046 0) (S 1032 0) (g58 1076 0) (g58 1007 0) (((g58 1092 0) - 1)) ∧ (g58 58 ((g58 1092 0) - 1)) = (S 1100007 (g58 57 ((g58 1092 0) - 1))) ∧ sm_SK (g58 63) (g58 64) (g58 44) (S 1100007) (S 1100025) (g58 1076 0) (g58 1007 0) (400 * ((g58 1092 0) - 1)) ((g58 58 ((g58 1092 0) - 1))) ((S 1100025 (g58 57 ((g58 1092 0) - 1))))) ∧ ((g58 1073 0) = 1 ∨ (g58 1092 0) = 0 ∧ (g58 1075 0) = 0 ∧ ((g58 1073 0) = 2 ∨ (g58 1073 0) = 3)) ∧ (S 1086 0) ≤ (g58 1086 0) ∧ (g58 1086 0) ≤ (S 1086 0) + 110 ∧ 0 ≤ (g58 1107 0) ∧ (g58 1107 0) ≤ 100 ∧ sm_PT (g58 67) (g58 1107 0) (g58 1007 0)) → (sm_PL (g58 1100020) (g58 51) (g58 52) (g58 46) (g58 47) (g58 1076 0) (g58 1086 0) ∧ sm_FR (g58 1100020) (g58 52) (g58 1100021) (g58 1100022) (3000 - (g58 1084 0)) (g58 1085 0) ∧ sm_PV (g58 1100020) (g58 48) (g58 49) (g58 50) (g58 44) (g58 1076 0) (g58 1007 0) ∧ sm_AL (g58 1100020) (g58 48) (g58 49) (g58 50) (g58 44) (g58 1076 0) (g58 1100032 0) ∧ sm_SV (g58 1100020) (g58 48) (g58 1100029) (S 32) (S 33) (g58 1076 0) (S 1032 0) ∧ 0 ≤ (g58 1076 0) ∧ (g58 1076 0) ≤ 300 ∧ 0 ≤ (g58 1084 0) ∧ (g58 1084 0) ≤ 3000 ∧ 0 ≤ (g58 1086 0) ∧ sm_SC (g58 1100029) (g58 44) (g58 45) (g58 43) (S 21) (g58 1076 0) (S 1032 0) ∧ sm_PO (g58 42) (g58 1076 0) ∧ ((g58 1075 0) = 0 → (g58 1100032 0) = -1 ∧ sm_FO (g58 44) (g58 45) (g58 1076 0)) ∧ 23 ≤ (g58 1076 0) ∧ 31 ≤ (g58 1007 0) ∧ (g58 1007 0) ≤ 400 ∧ sm_LN (g58 4) 400 (g58 1007 0) ∧ (S 1008 0) ≤ (g58 1007 0) ∧ ((S 1075 0) = 1 → (g58 1075 0) = 1) ∧ 0 ≤ (g58 1092 0) ∧ (g58 1092 0) ≤ 24 ∧ (S 1007 0) ≤ (g58 1007 0) ∧ (¬ (g58 1075 0) = 0 → sm_LX (g58 58) (g58 63) (g58 64) (g58 1092 0) (g58 1076 0)) ∧ ((g58 1075 0) = 0 → (g58 1073 0) = 1 → 1 ≤ (g58 1092 0) ∧ (g58 1092 0) ≤ 24 ∧ 0 ≤ (g58 57 ((g58 1092 0) - 1)) ∧ (g58 57 ((g58 1092 0) - 1)) < (S 1046 0) ∧ (S 29 (g58 57 ((g58 1092 0) - 1))) = (S 53 ((g58 1092 0) - 1)) ∧ 0 ≤ (S 53 ((g58 1092 0) - 1)) ∧ (S 53 ((g58 1092 0) - 1)) < (S 1032 0) ∧ (g58 60 ((g58 1092 0) - 1)) = sm_dp (S 1100024) (S 1100023 (g58 57 ((g58 1092 0) - 1))) ∧ sm_TC (S 61) (S 62) (S 27) (S 1100007) (S 1100023) (S 1100024) (40 * ((g58 1092 0) - 1)) (S 1100023 (g58 57 ((g58 1092 0) - 1))) ∧ sm_LK (g58 1100029) (g58 1076 0) (S 54 ((g58 1092 0) - 1)) (S 53 ((g58 1092 0) - 1)) ∧ sm_VO (g58 44) (g58 1076 0) (g58 1007 0) ((S 55 ((g58 1092 0) - 1))) ((S 56 ((g58 1092 0) - 1))) ∧ sm_FW (g58 44) (g58 1076 0) (S 59 ((g58 1092 0) - 1)) ∧ sm_FL (S 53) (S 54) (S 55) (S 56) (g58 57) (g58 58) (S 59) (g58 60) (S 61) (S 62) (g58 63) (g58 64) (S 27) (S 29) (S 1100007) (S 1100023) (S 1100024) (S 1100025) (S 26) (g58 1100029) (g58 44) (S 1046 0) (S 1032 0) (g58 1076 0) (g58 1007 0) (((g58 1092 0) - 1)) ∧ (g58 58 ((g58 1092 0) - 1)) = (S 1100007 (g58 57 ((g58 1092 0) - 1))) ∧ sm_SK (g58 63) (g58 64) (g58 44) (S 1100007) (S 1100025) (g58 1076 0) (g58 1007 0) (400 * ((g58 1092 0) - 1)) ((g58 58 ((g58 1092 0) - 1))) ((S 1100025 (g58 57 ((g58 1092 0) - 1))))) ∧ ((g58 1073 0) = 1 ∨ (g58 1092 0) = 0 ∧ (g58 1075 0) = 0 ∧ ((g58 1073 0) = 2 ∨ (g58 1073 0) = 3)) ∧ (S 1086 0) ≤ (g58 1086 0) ∧ (g58 1086 0) ≤ (S 1086 0) + 110 ∧ 0 ≤ (g58 1107 0) ∧ (g58 1107 0) ≤ 100 ∧ sm_PT (g58 67) (g58 1107 0) (g58 1007 0)))) ∧ ((¬ (¬ p2 = (20 : Int))) → ((S 1075 0) = 0 ∧ (S 1073 0) = 1 ∧ sm_LX (S 58) (S 63) (S 64) (S 1092 0) (S 1076 0) ∧ sm_PL (S 1100020) (S 51) (S 52) (S 46) (S 47) (S 1076 0) (S 1086 0) ∧ sm_FR (S 1100020) (S 52) (S 1100021) (S 1100022) (3000 - (S 1084 0)) (S 1085 0) ∧ sm_PV (S 1100020) (S 48) (S 49) (S 50) (S 44) (S 1076 0) (S 1007 0) ∧ sm_AL (S 1100020) (S 48) (S 49) (S 50) (S 44) (S 1076 0) (S 1100032 0) ∧ sm_SV (S 1100020) (S 48) (S 1100029) (S 32) (S 33) (S 1076 0) (S 1032 0) ∧ 0 ≤ (S 1076 0) ∧ (S 1076 0) ≤ 300 ∧ 0 ≤ (S 1084 0) ∧ (S 1084 0) ≤ 3000 ∧ 0 ≤ (S 1086 0) ∧ sm_SC (S 1100029) (S 44) (S 45) (S 43) (S 21) (S 1076 0) (S 1032 0) ∧ sm_PO (S 42) (S 1076 0) ∧ (S 1100032 0) = -1 ∧ sm_FO (S 44) (S 45) (S 1076 0) ∧ 23 ≤ (S 1076 0) ∧ 31 ≤ (S 1007 0) ∧ (S 1007 0) ≤ 400 ∧ sm_LN (S 4) 400 (S 1007 0) ∧ sm_CT (S 26) (S 27) (S 28) (S 29) (S 1100007) (S 1100023) (S 1100024) (S 1100025) (S 21) (S 1046 0) (S 1032 0) (S 1008 0) (S 1055 0) ∧ sm_LS (S 26) (S 1100007) (S 1100025) (S 1046 0) ∧ sm_CL (S 1100007) (S 1100023) (S 1100025) (S 1046 0) ∧ 1 ≤ (S 1032 0) ∧ (S 1032 0) ≤ 11 ∧ 0 ≤ (S 1046 0) ∧ (S 1046 0) ≤ 600 ∧ 31 ≤ (S 1008 0) ∧ (S 1008 0) ≤ (S 1007 0) ∧ 0 ≤ (S 1055 0) ∧ (S 1055 0) ≤ 19 ∧ 1 ≤ (S 1092 0) ∧ (S 1092 0) ≤ 24 ∧ 0 ≤ (S 1100033 0) ∧ (S 1100033 0) < (S 1046 0) ∧ (S 29 (S 1100033 0)) = (S 53 ((S 1092 0) - 1)) ∧ 0 ≤ (S 53 ((S 1092 0) - 1)) ∧ (S 53 ((S 1092 0) - 1)) < (S 1032 0) ∧ (S 60 ((S 1092 0) - 1)) = sm_dp (S 1100024) (S 1100023 (S 1100033 0)) ∧ sm_TC (S 61) (S 62) (S 27) (S 1100007) (S 1100023) (S 1100024) (40 * ((S 1092 0) - 1)) (S 1100023 (S 1100033 0)) ∧ sm_LK (S 1100029) (S 1076 0) (S 54 ((S 1092 0) - 1)) (S 53 ((S 1092 0) - 1)) ∧ sm_VO (S 44) (S 1076 0) (S 1007 0) ((S 55 ((S 1092 0) - 1))) ((S 56 ((S 1092 0) - 1))) ∧ sm_FW (S 44) (S 1076 0) (S 59 ((S 1092 0) - 1)) ∧ sm_FL (S 53) (S 54) (S 55) (S 56) (S 57) (S 58) (S 59) (S 60) (S 61) (S 62) (S 63) (S 64) (S 27) (S 29) (S 1100007) (S 1100023) (S 1100024) (S 1100025) (S 26) (S 1100029) (S 44) (S 1046 0) (S 1032 0) (S 1076 0) (S 1007 0) (((S 1092 0) - 1)) ∧ (S 57 ((S 1092 0) - 1)) = (S 1100033 0) ∧ 0 ≤ (S 58 ((S 1092 0) - 1)) ∧ (S 58 ((S 1092 0) - 1)) ≤ 400 ∧ sm_SK (S 63) (S 64) (S 44) (S 1100007) (S 1100025) (S 1076 0) (S 1007 0) (400 * ((S 1092 0) - 1)) ((S 58 ((S 1092 0) - 1))) ((S 1100034 0)) ∧ -1 ≤ (S 1100034 0) ∧ (S 1100034 0) < (S 1046 0) ∧ (0 ≤ (S 1100034 0) → (S 26 (S 1100034 0)) = 29) ∧ (S 58 ((S 1092 0) - 1)) = (S 1100007 (S 1100033 0)) ∧ (S 1100034 0) = (S 1100025 (S 1100033 0)) ∧ (0 ≤ (S 1100023 (S 1100033 0)) → (S 1100007 (S 1100023 (S 1100033 0))) ≤ (S 58 ((S 1092 0) - 1))) ∧ (S 58 ((S 1092 0) - 1)) ≤ 396 ∧ 1 ≤ p5 ∧ p5 ≤ (S 58 ((S 1092 0) - 1)) ∧ (0 ≤ (S 1100034 0) → (S 1100007 (S 1100034 0)) ≤ (S 58 ((S 1092 0) - 1)) - p5) ∧ (S 1100033 0) + 1 < (S 1046 0) ∧ (S 29 ((S 1100033 0) + 1)) = (S 29 (S 1100033 0)) ∧ (S 1100007 ((S 1100033 0) + 1)) = (S 58 ((S 1092 0) - 1)) + 1 - p5 ∧ (S 1100023 ((S 1100033 0) + 1)) = (S 1100023 (S 1100033 0)) ∧ (S 1100025 ((S 1100033 0) + 1)) = (S 1100034 0) ∧ (0 ≤ (S 1100023 (S 1100033 0)) → (S 1100007 (S 1100023 (S 1100033 0))) ≤ (S 58 ((S 1092 0) - 1)) - p5) ∧ 0 ≤ (S 1115 0) ∧ (S 1115 0) ≤ p5 - 1 ∧ (S 1114 0) + (S 1115 0) = (400 * ((S 1092 0) - 1) + (S 58 ((S 1092 0) - 1))) ∧ (∀ g : Int, 0 ≤ g → g < (S 1032 0) → 0 ≤ (S 30 g) ∧ (S 30 g) < (S 1046 0) ∧ (S 1100007 (S 30 g)) = 0 ∧ (S 1100023 (S 30 g)) = -1 ∧ 0 ≤ (S 33 g) ∧ (S 33 g) ≤ 100 ∧ 0 ≤ (S 20 g) ∧ (S 20 g) ≤ 8) ∧ sm_VN (S 32) (S 33) (S 1032 0) (S 1008 0) ∧ (∀ f : Int, 0 ≤ f → f < (S 1032 0) → 0 ≤ (S 30 f) ∧ (S 30 f) < (S 1046 0) ∧ (S 29 (S 30 f)) = f ∧ (S 1100007 (S 30 f)) = 0 ∧ (S 1100023 (S 30 f)) = -1 ∧ (S 1100025 (S 30 f)) = -1) ∧ (S 1086 0) ≤ 1900000000 ∧ 0 ≤ (S 1107 0) ∧ (S 1107 0) ≤ 100 ∧ sm_PT (S 67) (S 1107 0) (S 1007 0) ∧ sm_VO (S 44) (S 1076 0) (S 1007 0) (p3) (p4)) ∧ (0 ≤ (2 * (4 * (S 1115 0) + (if p3 = 7 then 1 else 0)) + 1) ∧ (2 * (4 * (S 1115 0) + (if p3 = 7 then 1 else 0)) + 1) < d) ∧ (0 ≤ (2 * (4 * (S 1115 0) + (if p3 = 7 then 1 else 0)) + 21) ∧ (2 * (4 * (S 1115 0) + (if p3 = 7 then 1 else 0)) + 21) + 1 ≤ (2 * (4 * (S 1115 0) + (if p1 = 7 then 1 else 0) + (if p3 = 7 then 1 else 0)) + 20)) ∧ (∀ g66 : sv_S, (sm_PL (g66 1100020) (g66 51) (g66 52) (g66 46) (g66 47) (g66 1076 0) (g66 1086 0) ∧ sm_FR (g66 1100020) (g66 52) (g66 1100021) (g66 1100022) (3000 - (g66 1084 0)) (g66 1085 0) ∧ sm_PV (g66 1100020) (g66 48) (g66 49) (g66 50) (g66 44) (g66 1076 0) (g66 1007 0) ∧ sm_AL (g66 1100020) (g66 48) (g66 49) (g66 50) (g66 44) (g66 1076 0) (g66 1100032 0) ∧ sm_SV (g66 1100020) (g66 48) (g66 1100029) (S 32) (S 33) (g66 1076 0) (S 1032 0) ∧ 0 ≤ (g66 1076 0) ∧ (g66 1076 0) ≤ 300 ∧ 0 ≤ (g66 1084 0) ∧ (g66 1084 0) ≤ 3000 ∧ 0 ≤ (g66 1086 0) ∧ sm_SC (g66 1100029) (g66 44) (g66 45) (g66 43) (S 21) (g66 1076 0) (S 1032 0) ∧ sm_PO (g66 42) (g66 1076 0) ∧ ((g66 1075 0) = 0 → (g66 1100032 0) = -1 ∧ sm_FO (g66 44) (g66 45) (g66 1076 0)) ∧ 23 ≤ (g66 1076 0) ∧ 31 ≤ (g66 1007 0) ∧ (g66 1007 0) ≤ 400 ∧ sm_LN (g66 4) 400 (g66 1007 0) ∧ (S 1008 0) ≤ (g66 1007 0) ∧ ((S 1075 0) = 1 → (g66 1075 0) = 1) ∧ 0 ≤ (g66 1092 0) ∧ (g66 1092 0) ≤ 24 ∧ (S 1007 0) ≤ (g66 1007 0) ∧ (¬ (g66 1075 0) = 0 → sm_LX (g66 58) (g66 63) (g66 64) (g66 1092 0) (g66 1076 0)) ∧ ((g66 1075 0) = 0 → (g66 1073 0) = 1 → 1 ≤ (g66 1092 0) ∧ (g66 1092 0) ≤ 24 ∧ 0 ≤ (g66 57 ((g66 1092 0) - 1)) ∧ (g66 57 ((g66 1092 0) - 1)) < (S 1046 0) ∧ (S 29 (g66 57 ((g66 1092 0) - 1))) = (g66 53 ((g66 1092 0) - 1)) ∧ 0 ≤ (g66 53 ((g66 1092 0) - 1)) ∧ (g66 53 ((g66 1092 0) - 1)) < (S 1032 0) ∧ (g66 60 ((g66 1092 0) - 1)) = sm_dp (S 1100024) (S 1100023 (g66 57 ((g66 1092 0) - 1))) ∧ sm_TC (S 61) (S 62) (S 27) (S 1100007) (S 1100023) (S 1100024) (40 * ((g66 1092 0) - 1)) (S 1100023 (g66 57 ((g66 1092 0) - 1))) ∧ sm_LK (g66 1100029) (g66 1076 0) (g66 54 ((g66 1092 0) - 1)) (g66 53 ((g66 1092 0) - 1)) ∧ sm_VO (g66 44) (g66 1076 0) (g66 1007 0) ((g66 55 ((g66 1092 0) - 1))) ((g66 56 ((g66 1092 0) - 1))) ∧ sm_FW (g66 44) (g66 1076 0) (g66 59 ((g66 1092 0) - 1)) ∧ sm_FL (g66 53) (g66 54) (g66 55) (g66 56) (g66 57) (g66 58) (g66 59) (g66 60) (S 61) (S 62) (g66 63) (g66 64) (S 27) (S 29) (S 1100007) (S 1100023) (S 1100024) (S 1100025) (S 26) (g66 1100029) (g66 44) (S 1046 0) (S 1032 0) (g66 1076 0) (g66 1007 0) (((g66 1092 0) - 1)) ∧ (g66 58 ((g66 1092 0) - 1)) = (S 1100007 (g66 57 ((g66 1092 0) - 1))) ∧ sm_SK (g66 63) (g66 64) (g66 44) (S 1100007) (S 1100025) (g66 1076 0) (g66 1007 0) (400 * ((g66 1092 0) - 1)) ((g66 58 ((g66 1092 0) - 1))) ((S 1100025 (g66 57 ((g66 1092 0) - 1))))) ∧ ((g66 1073 0) = 1 ∨ (g66 1092 0) = 0 ∧ (g66 1075 0) = 0 ∧ ((g66 1073 0) = 2 ∨ (g66 1073 0) = 3)) ∧ (S 1086 0) ≤ (g66 1086 0) ∧ (g66 1086 0) ≤ (S 1086 0) + 110 ∧ 0 ≤ (g66 1107 0) ∧ (g66 1107 0) ≤ 100 ∧ sm_PT (g66 67) (g66 1107 0) (g66 1007 0)) → (sm_PL (g66 1100020) (g66 51) (g66 52) (g66 46) (g66 47) (g66 1076 0) (g66 1086 0) ∧ sm_FR (g66 1100020) (g66 52) (g66 1100021) (g66 1100022) (3000 - (g66 1084 0)) (g66 1085 0) ∧ sm_PV (g66 1100020) (g66 48) (g66 49) (g66 50) (g66 44) (g66 1076 0) (g66 1007 0) ∧ sm_AL (g66 1100020) (g66 48) (g66 49) (g66 50) (g66 44) (g66 1076 0) (g66 1100032 0) ∧ sm_SV (g66 1100020) (g66 48) (g66 1100029) (S 32) (S 33) (g66 1076 0) (S 1032 0) ∧ 0 ≤ (g66 1076 0) ∧ (g66 1076 0) ≤ 300 ∧ 0 ≤ (g66 1084 0) ∧ (g66 1084 0) ≤ 3000 ∧ 0 ≤ (g66 1086 0) ∧ sm_SC (g66 1100029) (g66 44) (g66 45) (g66 43) (S 21) (g66 1076 0) (S 1032 0) ∧ sm_PO (g66 42) (g66 1076 0) ∧ ((g66 1075 0) = 0 → (g66 1100032 0) = -1 ∧ sm_FO (g66 44) (g66 45) (g66 1076 0)) ∧ 23 ≤ (g66 1076 0) ∧ 31 ≤ (g66 1007 0) ∧ (g66 1007 0) ≤ 400 ∧ sm_LN (g66 4) 400 (g66 1007 0) ∧ (S 1008 0) ≤ (g66 1007 0) ∧ ((S 1075 0) = 1 → (g66 1075 0) = 1) ∧ 0 ≤ (g66 1092 0) ∧ (g66 1092 0) ≤ 24 ∧ (S 1007 0) ≤ (g66 1007 0) ∧ (¬ (g66 1075 0) = 0 → sm_LX (g66 58) (g66 63) (g66 64) (g66 1092 0) (g66 1076 0)) ∧ ((g66 1075 0) = 0 → (g66 1073 0) = 1 → 1 ≤ (g66 1092 0) ∧ (g66 1092 0) ≤ 24 ∧ 0 ≤ (g66 57 ((g66 1092 0) - 1)) ∧ (g66 57 ((g66 1092 0) - 1)) < (S 1046 0) ∧ (S 29 (g66 57 ((g66 1092 0) - 1))) = (g66 53 ((g66 1092 0) - 1)) ∧ 0 ≤ (g66 53 ((g66 1092 0) - 1)) ∧ (g66 53 ((g66 1092 0) - 1)) < (S 1032 0) ∧ (g66 60 ((g66 1092 0) - 1)) = sm_dp (S 1100024) (S 1100023 (g66 57 ((g66 1092 0) - 1))) ∧ sm_TC (S 61) (S 62) (S 27) (S 1100007) (S 1100023) (S 1100024) (40 * ((g66 1092 0) - 1)) (S 1100023 (g66 57 ((g66 1092 0) - 1))) ∧ sm_LK (g66 1100029) (g66 1076 0) (g66 54 ((g66 1092 0) - 1)) (g66 53 ((g66 1092 0) - 1)) ∧ sm_VO (g66 44) (g66 1076 0) (g66 1007 0) ((g66 55 ((g66 1092 0) - 1))) ((g66 56 ((g66 1092 0) - 1))) ∧ sm_FW (g66 44) (g66 1076 0) (g66 59 ((g66 1092 0) - 1)) ∧ sm_FL (g66 53) (g66 54) (g66 55) (g66 56) (g66 57) (g66 58) (g66 59) (g66 60) (S 61) (S 62) (g66 63) (g66 64) (S 27) (S 29) (S 1100007) (S 1100023) (S 1100024) (S 1100025) (S 26) (g66 1100029) (g66 44) (S 1046 0) (S 1032 0) (g66 1076 0) (g66 1007 0) (((g66 1092 0) - 1)) ∧ (g66 58 ((g66 1092 0) - 1)) = (S 1100007 (g66 57 ((g66 1092 0) - 1))) ∧ sm_SK (g66 63) (g66 64) (g66 44) (S 1100007) (S 1100025) (g66 1076 0) (g66 1007 0) (400 * ((g66 1092 0) - 1)) ((g66 58 ((g66 1092 0) - 1))) ((S 1100025 (g66 57 ((g66 1092 0) - 1))))) ∧ ((g66 1073 0) = 1 ∨ (g66 1092 0) = 0 ∧ (g66 1075 0) = 0 ∧ ((g66 1073 0) = 2 ∨ (g66 1073 0) = 3)) ∧ (S 1086 0) ≤ (g66 1086 0) ∧ (g66 1086 0) ≤ (S 1086 0) + 110 ∧ 0 ≤ (g66 1107 0) ∧ (g66 1107 0) ≤ 100 ∧ sm_PT (g66 67) (g66 1107 0) (g66 1007 0)))))))))))))) ∧ ((¬ (¬ r7 = (0 : Int))) → ((S 1075 0) = 0 ∧ (S 1073 0) = 1 ∧ sm_LX (S 58) (S 63) (S 64) (S 1092 0) (S 1076 0) ∧ sm_PL (S 1100020) (S 51) (S 52) (S 46) (S 47) (S 1076 0) (S 1086 0) ∧ sm_FR (S 1100020) (S 52) (S 1100021) (S 1100022) (3000 - (S 1084 0)) (S 1085 0) ∧ sm_PV (S 1100020) (S 48) (S 49) (S 50) (S 44) (S 1076 0) (S 1007 0) ∧ sm_AL (S 1100020) (S 48) (S 49) (S 50) (S 44) (S 1076 0) (S 1100032 0) ∧ sm_SV (S 1100020) (S 48) (S 1100029) (S 32) (S 33) (S 1076 0) (S 1032 0) ∧ 0 ≤ (S 1076 0) ∧ (S 1076 0) ≤ 300 ∧ 0 ≤ (S 1084 0) ∧ (S 1084 0) ≤ 3000 ∧ 0 ≤ (S 1086 0) ∧ sm_SC (S 1100029) (S 44) (S 45) (S 43) (S 21) (S 1076 0) (S 1032 0) ∧ sm_PO (S 42) (S 1076 0) ∧ (S 1100032 0) = -1 ∧ sm_FO (S 44) (S 45) (S 1076 0) ∧ 23 ≤ (S 1076 0) ∧ 31 ≤ (S 1007 0) ∧ (S 1007 0) ≤ 400 ∧ sm_LN (S 4) 400 (S 1007 0) ∧ sm_CT (S 26) (S 27) (S 28) (S 29) (S 1100007) (S 1100023) (S 1100024) (S 1100025) (S 21) (S 1046 0) (S 1032 0) (S 1008 0) (S 1055 0) ∧ sm_LS (S 26) (S 1100007) (S 1100025) (S 1046 0) ∧ sm_CL (S 1100007) (S 1100023) (S 1100025) (S 1046 0) ∧ 1 ≤ (S 1032 0) ∧ (S 1032 0) ≤ 11 ∧ 0 ≤ (S 1046 0) ∧ (S 1046 0) ≤ 600 ∧ 31 ≤ (S 1008 0) ∧ (S 1008 0) ≤ (S 1007 0) ∧ 0 ≤ (S 1055 0) ∧ (S 1055 0) ≤ 19 ∧ 1 ≤ (S 1092 0) ∧ (S 1092 0) ≤ 24 ∧ 0 ≤ (S 57 ((S 1092 0) - 1)) ∧ (S 57 ((S 1092 0) - 1)) < (S 1046 0) ∧ (S 29 (S 57 ((S 1092 0) - 1))) = (S 53 ((S 1092 0) - 1)) ∧ 0 ≤ (S 53 ((S 1092 0) - 1)) ∧ (S 53 ((S 1092 0) - 1)) < (S 1032 0) ∧ (S 60 ((S 1092 0) - 1)) = sm_dp (S 1100024) (S 1100023 (S 57 ((S 1092 0) - 1))) ∧ sm_TC (S 61) (S 62) (S 27) (S 1100007) (S 1100023) (S 1100024) (40 * ((S 1092 0) - 1)) (S 1100023 (S 57 ((S 1092 0) - 1))) ∧ sm_LK (S 1100029) (S 1076 0) (S 54 ((S 1092 0) - 1)) (S 53 ((S 1092 0) - 1)) ∧ sm_VO (S 44) (S 1076 0) (S 1007 0) ((S 55 ((S 1092 0) - 1))) ((S 56 ((S 1092 0) - 1))) ∧ sm_FW (S 44) (S 1076 0) (S 59 ((S 1092 0) - 1)) ∧ sm_FL (S 53) (S 54) (S 55) (S 56) (S 57) (S 58) (S 59) (S 60) (S 61) (S 62) (S 63) (S 64) (S 27) (S 29) (S 1100007) (S 1100023) (S 1100024) (S 1100025) (S 26) (S 1100029) (S 44) (S 1046 0) (S 1032 0) (S 1076 0) (S 1007 0) (((S 1092 0) - 1)) ∧ (S 58 ((S 1092 0) - 1)) = (S 1100007 (S 57 ((S 1092 0) - 1))) ∧ sm_SK (S 63) (S 64) (S 44) (S 1100007) (S 1100025) (S 1076 0) (S 1007 0) (400 * ((S 1092 0) - 1)) ((S 58 ((S 1092 0) - 1))) ((S 1100025 (S 57 ((S 1092 0) - 1)))) ∧ (0 ≤ (S 1100023 (S 57 ((S 1092 0) - 1))) → (S 1100007 (S 1100023 (S 57 ((S 1092 0) - 1)))) ≤ (S 58 ((S 1092 0) - 1))) ∧ 6 ≤ (6 : Int) ∧ (6 : Int) ≤ 8) ∧ (3 + 1 ≤ (2 * (4 * (S 1115 0) + (if p1 = 7 then 1 else 0) + (if p3 = 7 then 1 else 0)) + 20)) ∧ (∀ g73 : sv_S, (sm_PL (S 1100020) (S 51) (S 52) (g73 46) (g73 47) (g73 1076 0) (S 1086 0) ∧ sm_FR (S 1100020) (S 52) (S 1100021) (S 1100022) (3000 - (S 1084 0)) (S 1085 0) ∧ sm_PV (S 1100020) (S 48) (S 49) (S 50) (g73 44) (g73 1076 0) (S 1007 0) ∧ sm_AL (S 1100020) (S 48) (S 49) (S 50) (g73 44) (g73 1076 0) (S 1100032 0) ∧ sm_SV (S 1100020) (S 48) (g73 1100029) (S 32) (S 33) (g73 1076 0) (S 1032 0) ∧ 0 ≤ (g73 1076 0) ∧ (g73 1076 0) ≤ 300 ∧ 0 ≤ (S 1084 0) ∧ (S 1084 0) ≤ 3000 ∧ 0 ≤ (S 1086 0) ∧ sm_SC (g73 1100029) (g73 44) (g73 45) (g73 43) (S 21) (g73 1076 0) (S 1032 0) ∧ sm_PO (g73 42) (g73 1076 0) ∧ ((g73 1075 0) = 0 → (S 1100032 0) = -1 ∧ sm_FO (g73 44) (g73 45) (g73 1076 0)) ∧ 23 ≤ (g73 1076 0) ∧ 31 ≤ (S 1007 0) ∧ (S 1007 0) ≤ 400 ∧ sm_LN (S 4) 400 (S 1007 0) ∧ (S 1008 0) ≤ (S 1007 0) ∧ ((S 1075 0) = 1 → (g73 1075 0) = 1) ∧ 0 ≤ (g73 1092 0) ∧ (g73 1092 0) ≤ 24 ∧ (S 1007 0) ≤ (S 1007 0) ∧ (¬ (g73 1075 0) = 0 → sm_LX (g73 58) (g73 63) (g73 64) (g73 1092 0) (g73 1076 0)) ∧ ((g73 1075 0) = 0 → (g73 1073 0) = 1 → 1 ≤ (g73 1092 0) ∧ (g73 1092 0) ≤ 24 ∧ 0 ≤ (g73 57 ((g73 1092 0) - 1)) ∧ (g73 57 ((g73 1092 0) - 1)) < (S 1046 0) ∧ (S 29 (g73 57 ((g73 1092 0) - 1))) = (S 53 ((g73 1092 0) - 1)) ∧ 0 ≤ (S 53 ((g73 1092 0) - 1)) ∧ (S 53 ((g73 1092 0) - 1)) < (S 1032 0) ∧ (g73 60 ((g73 1092 0) - 1)) = sm_dp (S 1100024) (S 1100023 (g73 57 ((g73 1092 0) - 1))) ∧ sm_TC (S 61) (S 62) (S 27) (S 1100007) (S 1100023) (S 1100024) (40 * ((g73 1092 0) - 1)) (S 1100023 (g73 57 ((g73 1092 0) - 1))) ∧ sm_LK (g73 1100029) (g73 1076 0) (S 54 ((g73 1092 0) - 1)) (S 53 ((g73 1092 0) - 1)) ∧ sm_VO (g73 44) (g73 1076 0) (S 1007 0) ((S 55 ((g73 1092 0) - 1))) ((S 56 ((g73 1092 0) - 1))) ∧ sm_FW (g73 44) (g73 1076 0) (S 59 ((g73 1092 0) - 1)) ∧ sm_FL (S 53) (S 54) (S 55) (S 56) (g73 57) (g73 58) (S 59) (g73 60) (S 61) (S 62) (g73 63) (g73 64) (S 27) (S 29) (S 1100007) (S 1100023) (S 1100024) (S 1100025) (S 26) (g73 1100029) (g73 44) (S 1046 0) (S 1032 0) (g73 1076 0) (S 1007 0) (((g73 1092 0) - 1)) ∧ (g73 58 ((g73 1092 0) - 1)) = (S 1100007 (g73 57 ((g73 1092 0) - 1))) ∧ sm_SK (g73 63) (g73 64) (g73 44) (S 1100007) (S 1100025) (g73 1076 0) (S 1007 0) (400 * ((g73 1092 0) - 1)) ((g73 58 ((g73 1092 0) - 1))) ((S 1100025 (g73 57 ((g73 1092 0) - 1))))) ∧ ((g73 1073 0) = 1 ∨ (g73 1092 0) = 0 ∧ (g73 1075 0) = 0 ∧ ((g73 1073 0) = 2 ∨ (g73 1073 0) = 3)) ∧ ((g73 1073 0) = 1 ∨ (g73 1073 0) = 3)) → (sm_PL (S 1100020) (S 51) (S 52) (g73 46) (g73 47) (g73 1076 0) (S 1086 0) ∧ sm_FR (S 1100020) (S 52) (S 1100021) (S 1100022) (3000 - (S 1084 0)) (S 1085 0) ∧ sm_PV (S 1100020) (S 48) (S 49) (S 50) (g73 44) (g73 1076 0) (S 1007 0) ∧ sm_AL (S 1100020) (S 48) (S 49) (S 50) (g73 44) (g73 1076 0) (S 1100032 0) ∧ sm_SV (S 1100020) (S 48) (g73 1100029) (S 32) (S 33) (g73 1076 0) (S 1032 0) ∧ 0 ≤ (g73 1076 0) ∧ (g73 1076 0) ≤ 300 ∧ 0 ≤ (S 1084 0) ∧ (S 1084 0) ≤ 3000 ∧ 0 ≤ (S 1086 0) ∧ sm_SC (g73 1100029) (g73 44) (g73 45) (g73 43) (S 21) (g73 1076 0) (S 1032 0) ∧ sm_PO (g73 42) (g73 1076 0) ∧ ((g73 1075 0) = 0 → (S 1100032 0) = -1 ∧ sm_FO (g73 44) (g73 45) (g73 1076 0)) ∧ 23 ≤ (g73 1076 0) ∧ 31 ≤ (S 1007 0) ∧ (S 1007 0) ≤ 400 ∧ sm_LN (S 4) 400 (S 1007 0) ∧ (S 1008 0) ≤ (S 1007 0) ∧ ((S 1075 0) = 1 → (g73 1075 0) = 1) ∧ 0 ≤ (g73 1092 0) ∧ (g73 1092 0) ≤ 24 ∧ (S 1007 0) ≤ (S 1007 0) ∧ (¬ (g73 1075 0) = 0 → sm_LX (g73 58) (g73 63) (g73 64) (g73 1092 0) (g73 1076 0)) ∧ ((g73 1075 0) = 0 → (g73 1073 0) = 1 → 1 ≤ (g73 1092 0) ∧ (g73 1092 0) ≤ 24 ∧ 0 ≤ (g73 57 ((g73 1092 0) - 1)) ∧ (g73 57 ((g73 1092 0) - 1)) < (S 1046 0) ∧ (S 29 (g73 57 ((g73 1092 0) - 1))) = (S 53 ((g73 1092 0) - 1)) ∧ 0 ≤ (S 53 ((g73 1092 0) - 1)) ∧ (S 53 ((g73 1092 0) - 1)) < (S 1032 0) ∧ (g73 60 ((g73 1092 0) - 1)) = sm_dp (S 1100024) (S 1100023 (g73 57 ((g73 1092 0) - 1))) ∧ sm_TC (S 61) (S 62) (S 27) (S 1100007) (S 1100023) (S 1100024) (40 * ((g73 1092 0) - 1)) (S 1100023 (g73 57 ((g73 1092 0) - 1))) ∧ sm_LK (g73 1100029) (g73 1076 0) (S 54 ((g73 1092 0) - 1)) (S 53 ((g73 1092 0) - 1)) ∧ sm_VO (g73 44) (g73 1076 0) (S 1007 0) ((S 55 ((g73 1092 0) - 1))) ((S 56 ((g73 1092 0) - 1))) ∧ sm_FW (g73 44) (g73 1076 0) (S 59 ((g73 1092 0) - 1)) ∧ sm_FL (S 53) (S 54) (S 55) (S 56) (g73 57) (g73 58) (S 59) (g73 60) (S 61) (S 62) (g73 63) (g73 64) (S 27) (S 29) (S 1100007) (S 1100023) (S 1100024) (S 1100025) (S 26) (g73 1100029) (g73 44) (S 1046 0) (S 1032 0) (g73 1076 0) (S 1007 0) (((g73 1092 0) - 1)) ∧ (g73 58 ((g73 1092 0) - 1)) = (S 1100007 (g73 57 ((g73 1092 0) - 1))) ∧ sm_SK (g73 63) (g73 64) (g73 44) (S 1100007) (S 1100025) (g73 1076 0) (S 1007 0) (400 * ((g73 1092 0) - 1)) ((g73 58 ((g73 1092 0) - 1))) ((S 1100025 (g73 57 ((g73 1092 0) - 1))))) ∧ ((g73 1073 0) = 1 ∨ (g73 1092 0) = 0 ∧ (g73 1075 0) = 0 ∧ ((g73 1073 0) = 2 ∨ (g73 1073 0) = 3)) ∧ (S 1086 0) ≤ (S 1086 0) ∧ (S 1086 0) ≤ (S 1086 0) + 110 ∧ 0 ≤ (S 1107 0) ∧ (S 1107 0) ≤ 100 ∧ sm_PT (S 67) (S 1107 0) (S 1007 0)))))) := by
  intro d
  intro p1
  intro p2
  intro p3
  intro p4
  intro p5
  intro p6
  intro S
  intro h1_
  intro h2_
  intro h3_
  intro h4_
  intro h5_
  intro h6_
  intro h7_
  rintro ⟨h8_, ⟨h9_, ⟨h10_, ⟨h11_, ⟨h12_, ⟨h13_, ⟨h14_, ⟨h15_, ⟨h16_, ⟨h17_, ⟨h18_, ⟨h19_, ⟨h20_, ⟨h21_, ⟨h22_, ⟨h23_, ⟨h24_, ⟨h25_, ⟨h26_, ⟨h27_, ⟨h28_, ⟨h29_, ⟨h30_, ⟨h31_, ⟨h32_, ⟨h33_, ⟨h34_, ⟨h35_, ⟨h36_, ⟨h37_, ⟨h38_, ⟨h39_, ⟨h40_, ⟨h41_, ⟨h42_, ⟨h43_, ⟨h44_, ⟨h45_, ⟨h46_, ⟨h47_, ⟨h48_, ⟨h49_, ⟨h50_, ⟨h51_, ⟨h52_, ⟨h53_, ⟨h54_, ⟨h55_, ⟨h56_, ⟨h57_, ⟨h58_, ⟨h59_, ⟨h60_, ⟨h61_, ⟨h62_, ⟨h63_, ⟨h64_, ⟨h65_, ⟨h66_, ⟨h67_, ⟨h68_, ⟨h69_, ⟨h70_, ⟨h71_, ⟨h72_, ⟨h73_, ⟨h74_, ⟨h75_, ⟨h76_, ⟨h77_, ⟨h78_, ⟨h79_, ⟨h80_, ⟨h81_, ⟨h82_, ⟨h83_, ⟨h84_, h85_⟩⟩⟩⟩⟩⟩⟩⟩⟩⟩⟩⟩⟩⟩⟩⟩⟩⟩⟩⟩⟩⟩⟩⟩⟩⟩⟩⟩⟩⟩⟩⟩⟩⟩⟩⟩⟩⟩⟩⟩⟩⟩⟩⟩⟩⟩⟩⟩⟩⟩⟩⟩⟩⟩⟩⟩⟩⟩⟩⟩⟩⟩⟩⟩⟩⟩⟩⟩⟩⟩⟩⟩⟩⟩⟩⟩⟩
  intro h86_
  refine ⟨(la_callOf_0 h17_ (sm_VO_e h83_).2.1 (sm_VO_e h83_).2.2.1 (sm_VO_e h83_).2.2.2), ?_⟩
  refine ⟨(la_callOf_1 h73_ (sv_i01 (p := p3 = 7)).1 (sv_i01 (p := p1 = 7)).1), ?_⟩
  intro r7
  intro h87_
  rintro ⟨h88_, ⟨h89_, h90_⟩⟩
  refine ⟨?_, ?_⟩
  · skip
    intro h91_
    have h92_ := (h88_.resolve_left h91_)
    obtain ⟨h93_, h94_⟩ := (h89_ h92_)
    have e95_ : (if p1 = 7 then 1 else 0 : Int) = 1 := if_pos h93_
    obtain ⟨h96_, ⟨h97_, h98_⟩⟩ := ((sm_VO_e h83_).2.2.2 h93_)
    intro h99_
    have h100_ := (h99_ h24_)
    have h101_ := (h100_ h96_)
    have h102_ := (h101_ h97_)
    have h103_ := (h102_ h94_)
    refine ⟨?_, ?_⟩
    · skip
      intro h104_
      have h105_ := (h103_ (la_callOf_7 h104_))
      intro h106_
      refine ⟨?_, ?_⟩
      · skip
        intro h107_
        refine ⟨⟨h8_, ⟨h9_, ⟨h10_, ⟨h11_, ⟨h12_, ⟨h13_, ⟨h14_, ⟨h15_, ⟨h16_, ⟨h17_, ⟨h18_, ⟨h19_, ⟨h20_, ⟨h21_, ⟨h22_, ⟨h23_, ⟨h24_, ⟨h25_, ⟨h26_, ⟨h27_, ⟨h28_, ⟨h29_, ⟨h30_, ⟨h31_, ⟨h32_, ⟨h33_, ⟨h34_, ⟨h35_, ⟨h36_, ⟨h37_, ⟨h38_, ⟨h39_, ⟨h40_, ⟨h41_, ⟨h42_, ⟨h43_, ⟨h44_, ⟨h45_, ⟨h46_, ⟨h47_, ⟨h48_, ⟨h49_, ⟨h50_, ⟨h51_, ⟨h52_, ⟨h53_, ⟨h54_, ⟨h55_, ⟨h56_, ⟨h57_, ⟨h58_, ⟨h59_, ⟨h60_, ⟨h61_, ⟨h62_, ⟨h63_, ⟨h64_, ⟨h65_, ⟨h66_, ⟨h67_, ⟨h68_, ⟨h69_, ⟨h70_, ⟨h71_, ⟨h72_, ⟨h73_, ⟨h74_, ⟨h75_, ⟨h76_, ⟨h77_, ⟨h78_, ⟨h79_, ⟨(la_callOf_9 (la_callOf_8 h41_ h107_)), ⟨h96_, ⟨h97_, ⟨h94_, ⟨h105_, ⟨h84_, h85_⟩⟩⟩⟩⟩⟩⟩⟩⟩⟩⟩⟩⟩⟩⟩⟩⟩⟩⟩⟩⟩⟩⟩⟩⟩⟩⟩⟩⟩⟩⟩⟩⟩⟩⟩⟩⟩⟩⟩⟩⟩⟩⟩⟩⟩⟩⟩⟩⟩⟩⟩⟩⟩⟩⟩⟩⟩⟩⟩⟩⟩⟩⟩⟩⟩⟩⟩⟩⟩⟩⟩⟩⟩⟩⟩⟩⟩⟩, ?_⟩
        refine ⟨(la_callOf_10 h73_ (sv_i01 (p := p3 = 7)).1 e95_), ?_⟩
        intro g12
        rintro ⟨h108_, ⟨h109_, ⟨h110_, ⟨h111_, ⟨h112_, ⟨h113_, ⟨h114_, ⟨h115_, ⟨h116_, ⟨h117_, ⟨h118_, ⟨h119_, ⟨h120_, ⟨h121_, ⟨h122_, ⟨h123_, ⟨h124_, ⟨h125_, ⟨h126_, ⟨h127_, ⟨h128_, ⟨h129_, ⟨h130_, ⟨h131_, ⟨h132_, ⟨h133_, h134_⟩⟩⟩⟩⟩⟩⟩⟩⟩⟩⟩⟩⟩⟩⟩⟩⟩⟩⟩⟩⟩⟩⟩⟩⟩⟩
        have h135_ := (h132_.resolve_right (la_callOf_12 h9_))
        refine ⟨h108_, ?_⟩
        refine ⟨h109_, ?_⟩
        refine ⟨h110_, ?_⟩
        refine ⟨h111_, ?_⟩
        refine ⟨h112_, ?_⟩
        refine ⟨h113_, ?_⟩
        refine ⟨h114_, ?_⟩
        refine ⟨h115_, ?_⟩
        refine ⟨h116_, ?_⟩
        refine ⟨h117_, ?_⟩
        refine ⟨h118_, ?_⟩
        refine ⟨h119_, ?_⟩
        refine ⟨h120_, ?_⟩
        refine ⟨h121_, ?_⟩
        refine ⟨h26_, ?_⟩
        refine ⟨h27_, ?_⟩
        refine ⟨h28_, ?_⟩
        refine ⟨h37_, ?_⟩
        refine ⟨h126_, ?_⟩
        refine ⟨h127_, ?_⟩
        refine ⟨h128_, ?_⟩
        refine ⟨h129_, ?_⟩
        refine ⟨h130_, ?_⟩
        refine ⟨h131_, ?_⟩
        refine ⟨h132_, ?_⟩
        refine ⟨h133_, ?_⟩
        refine ⟨h134_, ?_⟩
        refine ⟨h80_, ?_⟩
        refine ⟨h81_, ?_⟩
        exact h82_
      intro h136_
      refine ⟨?_, ?_⟩
      · skip
        refine ⟨h8_, ?_⟩
        refine ⟨h9_, ?_⟩
        refine ⟨h10_, ?_⟩
        refine ⟨h11_, ?_⟩
        refine ⟨h12_, ?_⟩
        refine ⟨h13_, ?_⟩
        refine ⟨h14_, ?_⟩
        refine ⟨h15_, ?_⟩
        refine ⟨h16_, ?_⟩
        refine ⟨h17_, ?_⟩
        refine ⟨h18_, ?_⟩
        refine ⟨h19_, ?_⟩
        refine ⟨h20_, ?_⟩
        refine ⟨h21_, ?_⟩
        refine ⟨h22_, ?_⟩
        refine ⟨h23_, ?_⟩
        refine ⟨h24_, ?_⟩
        refine ⟨h25_, ?_⟩
        refine ⟨h26_, ?_⟩
        refine ⟨h27_, ?_⟩
        refine ⟨h28_, ?_⟩
        refine ⟨h29_, ?_⟩
        refine ⟨h30_, ?_⟩
        refine ⟨h31_, ?_⟩
        refine ⟨h32_, ?_⟩
        refine ⟨h33_, ?_⟩
        refine ⟨h34_, ?_⟩
        refine ⟨h35_, ?_⟩
        refine ⟨h36_, ?_⟩
        refine ⟨h37_, ?_⟩
        refine ⟨h38_, ?_⟩
        refine ⟨h39_, ?_⟩
        refine ⟨h40_, ?_⟩
        refine ⟨h41_, ?_⟩
        refine ⟨(la_callOf_13 h42_ h53_), ?_⟩
        refine ⟨(la_callOf_14 h53_ h67_), ?_⟩
        refine ⟨?_, ?_⟩
        · skip
          have e137_ : S 29 (S 57 (S 1092 0 - 1)) = S 29 (S 1100033 0) := congrArg ((S 29)) h53_
          exact (la_callOf_15 h44_ e137_)
        refine ⟨h45_, ?_⟩
        refine ⟨h46_, ?_⟩
        refine ⟨?_, ?_⟩
        · skip
          have e138_ : S 1100023 (S 57 (S 1092 0 - 1)) = S 1100023 (S 1100033 0) := congrArg ((S 1100023)) h53_
          have e139_ : sm_dp (S 1100024) (S 1100023 (S 57 (S 1092 0 - 1))) = sm_dp (S 1100024) (S 1100023 (S 1100033 0)) := congrArg ((sm_dp (S 1100024))) e138_
          exact (la_callOf_16 h47_ e139_)
        refine ⟨?_, ?_⟩
        · skip
          have e140_ : S 1100023 (S 57 (S 1092 0 - 1)) = S 1100023 (S 1100033 0) := congrArg ((S 1100023)) h53_
          exact (sm_TC_t h48_ (la_callOf_17 e140_))
        refine ⟨h49_, ?_⟩
        refine ⟨h50_, ?_⟩
        refine ⟨h51_, ?_⟩
        refine ⟨h52_, ?_⟩
        refine ⟨?_, ?_⟩
        · skip
          have e141_ : S 1100007 (S 57 (S 1092 0 - 1)) = S 1100007 (S 1100033 0) := congrArg ((S 1100007)) h53_
          exact (la_callOf_16 h60_ e141_)
        refine ⟨?_, ?_⟩
        · skip
          have e142_ : S 1100025 (S 57 (S 1092 0 - 1)) = S 1100025 (S 1100033 0) := congrArg ((S 1100025)) h53_
          exact (sm_SK_q h56_ (la_callOf_20 h61_ e142_) rfl rfl)
        refine ⟨?_, ?_⟩
        · skip
          intro h143_
          have e144_ : S 1100023 (S 57 (S 1092 0 - 1)) = S 1100023 (S 1100033 0) := congrArg ((S 1100023)) h53_
          have h145_ := (h62_ (la_callOf_21 h143_ e144_))
          have h146_ := (h72_ (la_callOf_21 h143_ e144_))
          have e147_ : S 1100007 (S 1100023 (S 57 (S 1092 0 - 1))) = S 1100007 (S 1100023 (S 1100033 0)) := congrArg ((S 1100007)) e144_
          exact (la_callOf_22 h64_ h146_ e147_)
        refine ⟨la_callOf_23, ?_⟩
        exact la_callOf_24
      refine ⟨(la_callOf_25 h73_ (sv_i01 (p := p3 = 7)).1 e95_), ?_⟩
      intro g19
      rintro ⟨h148_, ⟨h149_, ⟨h150_, ⟨h151_, ⟨h152_, ⟨h153_, ⟨h154_, ⟨h155_, ⟨h156_, ⟨h157_, ⟨h158_, ⟨h159_, ⟨h160_, ⟨h161_, ⟨h162_, ⟨h163_, ⟨h164_, ⟨h165_, ⟨h166_, ⟨h167_, ⟨h168_, ⟨h169_, ⟨h170_, ⟨h171_, ⟨h172_, h173_⟩⟩⟩⟩⟩⟩⟩⟩⟩⟩⟩⟩⟩⟩⟩⟩⟩⟩⟩⟩⟩⟩⟩⟩⟩
      refine ⟨h148_, ?_⟩
      refine ⟨h12_, ?_⟩
      refine ⟨h150_, ?_⟩
      refine ⟨h151_, ?_⟩
      refine ⟨h152_, ?_⟩
      refine ⟨h153_, ?_⟩
      refine ⟨h154_, ?_⟩
      refine ⟨h18_, ?_⟩
      refine ⟨h19_, ?_⟩
      refine ⟨h20_, ?_⟩
      refine ⟨h158_, ?_⟩
      refine ⟨h159_, ?_⟩
      refine ⟨h160_, ?_⟩
      refine ⟨h161_, ?_⟩
      refine ⟨h26_, ?_⟩
      refine ⟨h27_, ?_⟩
      refine ⟨h28_, ?_⟩
      refine ⟨h37_, ?_⟩
      refine ⟨h166_, ?_⟩
      refine ⟨h167_, ?_⟩
      refine ⟨h168_, ?_⟩
      refine ⟨h169_, ?_⟩
      refine ⟨h170_, ?_⟩
      refine ⟨h171_, ?_⟩
      refine ⟨h172_, ?_⟩
      refine ⟨la_callOf_18, ?_⟩
      refine ⟨la_callOf_26, ?_⟩
      refine ⟨h80_, ?_⟩
      refine ⟨h81_, ?_⟩
      exact h82_
    intro h174_
    refine ⟨?_, ?_⟩
    · skip
      intro h175_
      have h176_ := (h103_ (la_callOf_27 h175_))
      intro h177_
      refine ⟨?_, ?_⟩
      · skip
        intro h178_
        refine ⟨⟨h8_, ⟨h9_, ⟨h10_, ⟨h11_, ⟨h12_, ⟨h13_, ⟨h14_, ⟨h15_, ⟨h16_, ⟨h17_, ⟨h18_, ⟨h19_, ⟨h20_, ⟨h21_, ⟨h22_, ⟨h23_, ⟨h24_, ⟨h25_, ⟨h26_, ⟨h27_, ⟨h28_, ⟨h29_, ⟨h30_, ⟨h31_, ⟨h32_, ⟨h33_, ⟨h34_, ⟨h35_, ⟨h36_, ⟨h37_, ⟨h38_, ⟨h39_, ⟨h40_, ⟨h41_, ⟨h42_, ⟨h43_, ⟨h44_, ⟨h45_, ⟨h46_, ⟨h47_, ⟨h48_, ⟨h49_, ⟨h50_, ⟨h51_, ⟨h52_, ⟨h53_, ⟨h54_, ⟨h55_, ⟨h56_, ⟨h57_, ⟨h58_, ⟨h59_, ⟨h60_, ⟨h61_, ⟨h62_, ⟨h63_, ⟨h64_, ⟨h65_, ⟨h66_, ⟨h67_, ⟨h68_, ⟨h69_, ⟨h70_, ⟨h71_, ⟨h72_, ⟨h73_, ⟨h74_, ⟨h75_, ⟨h76_, ⟨h77_, ⟨h78_, ⟨h79_, ⟨(la_callOf_9 (la_callOf_8 h41_ h178_)), ⟨h96_, ⟨h97_, ⟨h94_, ⟨h176_, ⟨h84_, h85_⟩⟩⟩⟩⟩⟩⟩⟩⟩⟩⟩⟩⟩⟩⟩⟩⟩⟩⟩⟩⟩⟩⟩⟩⟩⟩⟩⟩⟩⟩⟩⟩⟩⟩⟩⟩⟩⟩⟩⟩⟩⟩⟩⟩⟩⟩⟩⟩⟩⟩⟩⟩⟩⟩⟩⟩⟩⟩⟩⟩⟩⟩⟩⟩⟩⟩⟩⟩⟩⟩⟩⟩⟩⟩⟩⟩⟩⟩, ?_⟩
        refine ⟨(la_callOf_10 h73_ (sv_i01 (p := p3 = 7)).1 e95_), ?_⟩
        intro g27
        rintro ⟨h179_, ⟨h180_, ⟨h181_, ⟨h182_, ⟨h183_, ⟨h184_, ⟨h185_, ⟨h186_, ⟨h187_, ⟨h188_, ⟨h189_, ⟨h190_, ⟨h191_, ⟨h192_, ⟨h193_, ⟨h194_, ⟨h195_, ⟨h196_, ⟨h197_, ⟨h198_, ⟨h199_, ⟨h200_, ⟨h201_, ⟨h202_, ⟨h203_, ⟨h204_, h205_⟩⟩⟩⟩⟩⟩⟩⟩⟩⟩⟩⟩⟩⟩⟩⟩⟩⟩⟩⟩⟩⟩⟩⟩⟩⟩
        have h206_ := (h203_.resolve_right (la_callOf_12 h9_))
        refine ⟨h179_, ?_⟩
        refine ⟨h180_, ?_⟩
        refine ⟨h181_, ?_⟩
        refine ⟨h182_, ?_⟩
        refine ⟨h183_, ?_⟩
        refine ⟨h184_, ?_⟩
        refine ⟨h185_, ?_⟩
        refine ⟨h186_, ?_⟩
        refine ⟨h187_, ?_⟩
        refine ⟨h188_, ?_⟩
        refine ⟨h189_, ?_⟩
        refine ⟨h190_, ?_⟩
        refine ⟨h191_, ?_⟩
        refine ⟨h192_, ?_⟩
        refine ⟨h26_, ?_⟩
        refine ⟨h27_, ?_⟩
        refine ⟨h28_, ?_⟩
        refine ⟨h37_, ?_⟩
        refine ⟨h197_, ?_⟩
        refine ⟨h198_, ?_⟩
        refine ⟨h199_, ?_⟩
        refine ⟨h200_, ?_⟩
        refine ⟨h201_, ?_⟩
        refine ⟨h202_, ?_⟩
        refine ⟨h203_, ?_⟩
        refine ⟨h204_, ?_⟩
        refine ⟨h205_, ?_⟩
        refine ⟨h80_, ?_⟩
        refine ⟨h81_, ?_⟩
        exact h82_
      intro h207_
      refine ⟨?_, ?_⟩
      · skip
        refine ⟨h8_, ?_⟩
        refine ⟨h9_, ?_⟩
        refine ⟨h10_, ?_⟩
        refine ⟨h11_, ?_⟩
        refine ⟨h12_, ?_⟩
        refine ⟨h13_, ?_⟩
        refine ⟨h14_, ?_⟩
        refine ⟨h15_, ?_⟩
        refine ⟨h16_, ?_⟩
        refine ⟨h17_, ?_⟩
        refine ⟨h18_, ?_⟩
        refine ⟨h19_, ?_⟩
        refine ⟨h20_, ?_⟩
        refine ⟨h21_, ?_⟩
        refine ⟨h22_, ?_⟩
        refine ⟨h23_, ?_⟩
        refine ⟨h24_, ?_⟩
        refine ⟨h25_, ?_⟩
        refine ⟨h26_, ?_⟩
        refine ⟨h27_, ?_⟩
        refine ⟨h28_, ?_⟩
        refine ⟨h29_, ?_⟩
        refine ⟨h30_, ?_⟩
        refine ⟨h31_, ?_⟩
        refine ⟨h32_, ?_⟩
        refine ⟨h33_, ?_⟩
        refine ⟨h34_, ?_⟩
        refine ⟨h35_, ?_⟩
        refine ⟨h36_, ?_⟩
        refine ⟨h37_, ?_⟩
        refine ⟨h38_, ?_⟩
        refine ⟨h39_, ?_⟩
        refine ⟨h40_, ?_⟩
        refine ⟨h41_, ?_⟩
        refine ⟨(la_callOf_13 h42_ h53_), ?_⟩
        refine ⟨(la_callOf_14 h53_ h67_), ?_⟩
        refine ⟨?_, ?_⟩
        · skip
          have e208_ : S 29 (S 57 (S 1092 0 - 1)) = S 29 (S 1100033 0) := congrArg ((S 29)) h53_
          exact (la_callOf_15 h44_ e208_)
        refine ⟨h45_, ?_⟩
        refine ⟨h46_, ?_⟩
        refine ⟨?_, ?_⟩
        · skip
          have e209_ : S 1100023 (S 57 (S 1092 0 - 1)) = S 1100023 (S 1100033 0) := congrArg ((S 1100023)) h53_
          have e210_ : sm_dp (S 1100024) (S 1100023 (S 57 (S 1092 0 - 1))) = sm_dp (S 1100024) (S 1100023 (S 1100033 0)) := congrArg ((sm_dp (S 1100024))) e209_
          exact (la_callOf_16 h47_ e210_)
        refine ⟨?_, ?_⟩
        · skip
          have e211_ : S 1100023 (S 57 (S 1092 0 - 1)) = S 1100023 (S 1100033 0) := congrArg ((S 1100023)) h53_
          exact (sm_TC_t h48_ (la_callOf_17 e211_))
        refine ⟨h49_, ?_⟩
        refine ⟨h50_, ?_⟩
        refine ⟨h51_, ?_⟩
        refine ⟨h52_, ?_⟩
        refine ⟨?_, ?_⟩
        · skip
          have e212_ : S 1100007 (S 57 (S 1092 0 - 1)) = S 1100007 (S 1100033 0) := congrArg ((S 1100007)) h53_
          exact (la_callOf_16 h60_ e212_)
        refine ⟨?_, ?_⟩
        · skip
          have e213_ : S 1100025 (S 57 (S 1092 0 - 1)) = S 1100025 (S 1100033 0) := congrArg ((S 1100025)) h53_
          exact (sm_SK_q h56_ (la_callOf_20 h61_ e213_) rfl rfl)
        refine ⟨?_, ?_⟩
        · skip
          intro h214_
          have e215_ : S 1100023 (S 57 (S 1092 0 - 1)) = S 1100023 (S 1100033 0) := congrArg ((S 1100023)) h53_
          have h216_ := (h62_ (la_callOf_21 h214_ e215_))
          have h217_ := (h72_ (la_callOf_21 h214_ e215_))
          have e218_ : S 1100007 (S 1100023 (S 57 (S 1092 0 - 1))) = S 1100007 (S 1100023 (S 1100033 0)) := congrArg ((S 1100007)) e215_
          exact (la_callOf_22 h64_ h217_ e218_)
        refine ⟨la_callOf_23, ?_⟩
        exact la_callOf_24
      refine ⟨(la_callOf_25 h73_ (sv_i01 (p := p3 = 7)).1 e95_), ?_⟩
      intro g34
      rintro ⟨h219_, ⟨h220_, ⟨h221_, ⟨h222_, ⟨h223_, ⟨h224_, ⟨h225_, ⟨h226_, ⟨h227_, ⟨h228_, ⟨h229_, ⟨h230_, ⟨h231_, ⟨h232_, ⟨h233_, ⟨h234_, ⟨h235_, ⟨h236_, ⟨h237_, ⟨h238_, ⟨h239_, ⟨h240_, ⟨h241_, ⟨h242_, ⟨h243_, h244_⟩⟩⟩⟩⟩⟩⟩⟩⟩⟩⟩⟩⟩⟩⟩⟩⟩⟩⟩⟩⟩⟩⟩⟩⟩
      refine ⟨h219_, ?_⟩
      refine ⟨h12_, ?_⟩
      refine ⟨h221_, ?_⟩
      refine ⟨h222_, ?_⟩
      refine ⟨h223_, ?_⟩
      refine ⟨h224_, ?_⟩
      refine ⟨h225_, ?_⟩
      refine ⟨h18_, ?_⟩
      refine ⟨h19_, ?_⟩
      refine ⟨h20_, ?_⟩
      refine ⟨h229_, ?_⟩
      refine ⟨h230_, ?_⟩
      refine ⟨h231_, ?_⟩
      refine ⟨h232_, ?_⟩
      refine ⟨h26_, ?_⟩
      refine ⟨h27_, ?_⟩
      refine ⟨h28_, ?_⟩
      refine ⟨h37_, ?_⟩
      refine ⟨h237_, ?_⟩
      refine ⟨h238_, ?_⟩
      refine ⟨h239_, ?_⟩
      refine ⟨h240_, ?_⟩
      refine ⟨h241_, ?_⟩
      refine ⟨h242_, ?_⟩
      refine ⟨h243_, ?_⟩
      refine ⟨la_callOf_18, ?_⟩
      refine ⟨la_callOf_26, ?_⟩
      refine ⟨h80_, ?_⟩
      refine ⟨h81_, ?_⟩
      exact h82_
    intro h245_
    refine ⟨(la_callOf_28 h174_ h245_), ?_⟩
    intro h246_
    refine ⟨?_, ?_⟩
    · skip
      intro h247_
      intro h248_
      refine ⟨?_, ?_⟩
      · skip
        intro h249_
        refine ⟨⟨h8_, ⟨h9_, ⟨h10_, ⟨h11_, ⟨h12_, ⟨h13_, ⟨h14_, ⟨h15_, ⟨h16_, ⟨h17_, ⟨h18_, ⟨h19_, ⟨h20_, ⟨h21_, ⟨h22_, ⟨h23_, ⟨h24_, ⟨h25_, ⟨h26_, ⟨h27_, ⟨h28_, ⟨h29_, ⟨h30_, ⟨h31_, ⟨h32_, ⟨h33_, ⟨h34_, ⟨h35_, ⟨h36_, ⟨h37_, ⟨h38_, ⟨h39_, ⟨h40_, ⟨h41_, ⟨h42_, ⟨h43_, ⟨h44_, ⟨h45_, ⟨h46_, ⟨h47_, ⟨h48_, ⟨h49_, ⟨h50_, ⟨h51_, ⟨h52_, ⟨h53_, ⟨h54_, ⟨h55_, ⟨h56_, ⟨h57_, ⟨h58_, ⟨h59_, ⟨h60_, ⟨h61_, ⟨h62_, ⟨h63_, ⟨h64_, ⟨h65_, ⟨h66_, ⟨h67_, ⟨h68_, ⟨h69_, ⟨h70_, ⟨h71_, ⟨h72_, ⟨h73_, ⟨h74_, ⟨h75_, ⟨h76_, ⟨h77_, ⟨h78_, ⟨h79_, ⟨(la_callOf_9 (la_callOf_8 h41_ h249_)), ⟨h96_, ⟨h97_, ⟨h94_, ⟨(la_callOf_29 h103_ h247_), ⟨h84_, h85_⟩⟩⟩⟩⟩⟩⟩⟩⟩⟩⟩⟩⟩⟩⟩⟩⟩⟩⟩⟩⟩⟩⟩⟩⟩⟩⟩⟩⟩⟩⟩⟩⟩⟩⟩⟩⟩⟩⟩⟩⟩⟩⟩⟩⟩⟩⟩⟩⟩⟩⟩⟩⟩⟩⟩⟩⟩⟩⟩⟩⟩⟩⟩⟩⟩⟩⟩⟩⟩⟩⟩⟩⟩⟩⟩⟩⟩⟩, ?_⟩
        refine ⟨(la_callOf_10 h73_ (sv_i01 (p := p3 = 7)).1 e95_), ?_⟩
        intro g44
        rintro ⟨h250_, ⟨h251_, ⟨h252_, ⟨h253_, ⟨h254_, ⟨h255_, ⟨h256_, ⟨h257_, ⟨h258_, ⟨h259_, ⟨h260_, ⟨h261_, ⟨h262_, ⟨h263_, ⟨h264_, ⟨h265_, ⟨h266_, ⟨h267_, ⟨h268_, ⟨h269_, ⟨h270_, ⟨h271_, ⟨h272_, ⟨h273_, ⟨h274_, ⟨h275_, h276_⟩⟩⟩⟩⟩⟩⟩⟩⟩⟩⟩⟩⟩⟩⟩⟩⟩⟩⟩⟩⟩⟩⟩⟩⟩⟩
        have h277_ := (h274_.resolve_right (la_callOf_12 h9_))
        refine ⟨h250_, ?_⟩
        refine ⟨h251_, ?_⟩
        refine ⟨h252_, ?_⟩
        refine ⟨h253_, ?_⟩
        refine ⟨h254_, ?_⟩
        refine ⟨h255_, ?_⟩
        refine ⟨h256_, ?_⟩
        refine ⟨h257_, ?_⟩
        refine ⟨h258_, ?_⟩
        refine ⟨h259_, ?_⟩
        refine ⟨h260_, ?_⟩
        refine ⟨h261_, ?_⟩
        refine ⟨h262_, ?_⟩
        refine ⟨h263_, ?_⟩
        refine ⟨h26_, ?_⟩
        refine ⟨h27_, ?_⟩
        refine ⟨h28_, ?_⟩
        refine ⟨h37_, ?_⟩
        refine ⟨h268_, ?_⟩
        refine ⟨h269_, ?_⟩
        refine ⟨h270_, ?_⟩
        refine ⟨h271_, ?_⟩
        refine ⟨h272_, ?_⟩
        refine ⟨h273_, ?_⟩
        refine ⟨h274_, ?_⟩
        refine ⟨h275_, ?_⟩
        refine ⟨h276_, ?_⟩
        refine ⟨h80_, ?_⟩
        refine ⟨h81_, ?_⟩
        exact h82_
      intro h278_
      refine ⟨?_, ?_⟩
      · skip
        refine ⟨h8_, ?_⟩
        refine ⟨h9_, ?_⟩
        refine ⟨h10_, ?_⟩
        refine ⟨h11_, ?_⟩
        refine ⟨h12_, ?_⟩
        refine ⟨h13_, ?_⟩
        refine ⟨h14_, ?_⟩
        refine ⟨h15_, ?_⟩
        refine ⟨h16_, ?_⟩
        refine ⟨h17_, ?_⟩
        refine ⟨h18_, ?_⟩
        refine ⟨h19_, ?_⟩
        refine ⟨h20_, ?_⟩
        refine ⟨h21_, ?_⟩
        refine ⟨h22_, ?_⟩
        refine ⟨h23_, ?_⟩
        refine ⟨h24_, ?_⟩
        refine ⟨h25_, ?_⟩
        refine ⟨h26_, ?_⟩
        refine ⟨h27_, ?_⟩
        refine ⟨h28_, ?_⟩
        refine ⟨h29_, ?_⟩
        refine ⟨h30_, ?_⟩
        refine ⟨h31_, ?_⟩
        refine ⟨h32_, ?_⟩
        refine ⟨h33_, ?_⟩
        refine ⟨h34_, ?_⟩
        refine ⟨h35_, ?_⟩
        refine ⟨h36_, ?_⟩
        refine ⟨h37_, ?_⟩
        refine ⟨h38_, ?_⟩
        refine ⟨h39_, ?_⟩
        refine ⟨h40_, ?_⟩
        refine ⟨h41_, ?_⟩
        refine ⟨(la_callOf_13 h42_ h53_), ?_⟩
        refine ⟨(la_callOf_14 h53_ h67_), ?_⟩
        refine ⟨?_, ?_⟩
        · skip
          have e279_ : S 29 (S 57 (S 1092 0 - 1)) = S 29 (S 1100033 0) := congrArg ((S 29)) h53_
          exact (la_callOf_15 h44_ e279_)
        refine ⟨h45_, ?_⟩
        refine ⟨h46_, ?_⟩
        refine ⟨?_, ?_⟩
        · skip
          have e280_ : S 1100023 (S 57 (S 1092 0 - 1)) = S 1100023 (S 1100033 0) := congrArg ((S 1100023)) h53_
          have e281_ : sm_dp (S 1100024) (S 1100023 (S 57 (S 1092 0 - 1))) = sm_dp (S 1100024) (S 1100023 (S 1100033 0)) := congrArg ((sm_dp (S 1100024))) e280_
          exact (la_callOf_16 h47_ e281_)
        refine ⟨?_, ?_⟩
        · skip
          have e282_ : S 1100023 (S 57 (S 1092 0 - 1)) = S 1100023 (S 1100033 0) := congrArg ((S 1100023)) h53_
          exact (sm_TC_t h48_ (la_callOf_17 e282_))
        refine ⟨h49_, ?_⟩
        refine ⟨h50_, ?_⟩
        refine ⟨h51_, ?_⟩
        refine ⟨h52_, ?_⟩
        refine ⟨?_, ?_⟩
        · skip
          have e283_ : S 1100007 (S 57 (S 1092 0 - 1)) = S 1100007 (S 1100033 0) := congrArg ((S 1100007)) h53_
          exact (la_callOf_16 h60_ e283_)
        refine ⟨?_, ?_⟩
        · skip
          have e284_ : S 1100025 (S 57 (S 1092 0 - 1)) = S 1100025 (S 1100033 0) := congrArg ((S 1100025)) h53_
          exact (sm_SK_q h56_ (la_callOf_20 h61_ e284_) rfl rfl)
        refine ⟨?_, ?_⟩
        · skip
          intro h285_
          have e286_ : S 1100023 (S 57 (S 1092 0 - 1)) = S 1100023 (S 1100033 0) := congrArg ((S 1100023)) h53_
          have h287_ := (h62_ (la_callOf_21 h285_ e286_))
          have h288_ := (h72_ (la_callOf_21 h285_ e286_))
          have e289_ : S 1100007 (S 1100023 (S 57 (S 1092 0 - 1))) = S 1100007 (S 1100023 (S 1100033 0)) := congrArg ((S 1100007)) e286_
          exact (la_callOf_22 h64_ h288_ e289_)
        refine ⟨la_callOf_23, ?_⟩
        exact la_callOf_24
      refine ⟨(la_callOf_25 h73_ (sv_i01 (p := p3 = 7)).1 e95_), ?_⟩
      intro g51
      rintro ⟨h290_, ⟨h291_, ⟨h292_, ⟨h293_, ⟨h294_, ⟨h295_, ⟨h296_, ⟨h297_, ⟨h298_, ⟨h299_, ⟨h300_, ⟨h301_, ⟨h302_, ⟨h303_, ⟨h304_, ⟨h305_, ⟨h306_, ⟨h307_, ⟨h308_, ⟨h309_, ⟨h310_, ⟨h311_, ⟨h312_, ⟨h313_, ⟨h314_, h315_⟩⟩⟩⟩⟩⟩⟩⟩⟩⟩⟩⟩⟩⟩⟩⟩⟩⟩⟩⟩⟩⟩⟩⟩⟩
      refine ⟨h290_, ?_⟩
      refine ⟨h12_, ?_⟩
      refine ⟨h292_, ?_⟩
      refine ⟨h293_, ?_⟩
      refine ⟨h294_, ?_⟩
      refine ⟨h295_, ?_⟩
      refine ⟨h296_, ?_⟩
      refine ⟨h18_, ?_⟩
      refine ⟨h19_, ?_⟩
      refine ⟨h20_, ?_⟩
      refine ⟨h300_, ?_⟩
      refine ⟨h301_, ?_⟩
      refine ⟨h302_, ?_⟩
      refine ⟨h303_, ?_⟩
      refine ⟨h26_, ?_⟩
      refine ⟨h27_, ?_⟩
      refine ⟨h28_, ?_⟩
      refine ⟨h37_, ?_⟩
      refine ⟨h308_, ?_⟩
      refine ⟨h309_, ?_⟩
      refine ⟨h310_, ?_⟩
      refine ⟨h311_, ?_⟩
      refine ⟨h312_, ?_⟩
      refine ⟨h313_, ?_⟩
      refine ⟨h314_, ?_⟩
      refine ⟨la_callOf_18, ?_⟩
      refine ⟨la_callOf_26, ?_⟩
      refine ⟨h80_, ?_⟩
      refine ⟨h81_, ?_⟩
      exact h82_
    intro h316_
    refine ⟨?_, ?_⟩
    · skip
      intro h317_
      refine ⟨⟨h8_, ⟨h9_, ⟨h10_, ⟨h11_, ⟨h12_, ⟨h13_, ⟨h14_, ⟨h15_, ⟨h16_, ⟨h17_, ⟨h18_, ⟨h19_, ⟨h20_, ⟨h21_, ⟨h22_, ⟨h23_, ⟨h24_, ⟨h25_, ⟨h26_, ⟨h27_, ⟨h28_, ⟨h29_, ⟨h30_, ⟨h31_, ⟨h32_, ⟨h33_, ⟨h34_, ⟨h35_, ⟨h36_, ⟨h37_, ⟨h38_, ⟨h39_, ⟨h40_, ⟨h41_, ⟨h42_, ⟨h43_, ⟨h44_, ⟨h45_, ⟨h46_, ⟨h47_, ⟨h48_, ⟨h49_, ⟨h50_, ⟨h51_, ⟨h52_, ⟨h53_, ⟨h54_, ⟨h55_, ⟨h56_, ⟨h57_, ⟨h58_, ⟨h59_, ⟨h60_, ⟨h61_, ⟨h62_, ⟨h63_, ⟨h64_, ⟨h65_, ⟨h66_, ⟨h67_, ⟨h68_, ⟨h69_, ⟨h70_, ⟨h71_, ⟨h72_, ⟨h73_, ⟨h74_, ⟨h75_, ⟨h76_, ⟨h77_, ⟨h78_, ⟨h79_, ⟨h84_, ⟨(la_callOf_31 h174_), ⟨(la_callOf_32 h245_), ⟨h317_, ⟨h80_, ⟨h81_, h82_⟩⟩⟩⟩⟩⟩⟩⟩⟩⟩⟩⟩⟩⟩⟩⟩⟩⟩⟩⟩⟩⟩⟩⟩⟩⟩⟩⟩⟩⟩⟩⟩⟩⟩⟩⟩⟩⟩⟩⟩⟩⟩⟩⟩⟩⟩⟩⟩⟩⟩⟩⟩⟩⟩⟩⟩⟩⟩⟩⟩⟩⟩⟩⟩⟩⟩⟩⟩⟩⟩⟩⟩⟩⟩⟩⟩⟩⟩, ?_⟩
      refine ⟨(la_callOf_33 h73_ (sv_i01 (p := p3 = 7)).1 e95_), ?_⟩
      intro g58
      rintro ⟨h318_, ⟨h319_, ⟨h320_, ⟨h321_, ⟨h322_, ⟨h323_, ⟨h324_, ⟨h325_, ⟨h326_, ⟨h327_, ⟨h328_, ⟨h329_, ⟨h330_, ⟨h331_, ⟨h332_, ⟨h333_, ⟨h334_, ⟨h335_, ⟨h336_, ⟨h337_, ⟨h338_, ⟨h339_, ⟨h340_, ⟨h341_, ⟨h342_, ⟨h343_, ⟨h344_, ⟨h345_, ⟨h346_, h347_⟩⟩⟩⟩⟩⟩⟩⟩⟩⟩⟩⟩⟩⟩⟩⟩⟩⟩⟩⟩⟩⟩⟩⟩⟩⟩⟩⟩⟩
      refine ⟨h318_, ?_⟩
      refine ⟨h319_, ?_⟩
      refine ⟨h320_, ?_⟩
      refine ⟨h321_, ?_⟩
      refine ⟨h322_, ?_⟩
      refine ⟨h323_, ?_⟩
      refine ⟨h324_, ?_⟩
      refine ⟨h325_, ?_⟩
      refine ⟨h326_, ?_⟩
      refine ⟨h327_, ?_⟩
      refine ⟨h328_, ?_⟩
      refine ⟨h329_, ?_⟩
      refine ⟨h330_, ?_⟩
      refine ⟨h331_, ?_⟩
      refine ⟨h332_, ?_⟩
      refine ⟨h333_, ?_⟩
      refine ⟨h334_, ?_⟩
      refine ⟨h335_, ?_⟩
      refine ⟨h336_, ?_⟩
      refine ⟨h337_, ?_⟩
      refine ⟨h338_, ?_⟩
      refine ⟨h339_, ?_⟩
      refine ⟨h340_, ?_⟩
      refine ⟨h341_, ?_⟩
      refine ⟨h342_, ?_⟩
      refine ⟨h343_, ?_⟩
      refine ⟨h344_, ?_⟩
      refine ⟨h345_, ?_⟩
      refine ⟨h346_, ?_⟩
      exact h347_
    intro h348_
    refine ⟨⟨h8_, ⟨h9_, ⟨h10_, ⟨h11_, ⟨h12_, ⟨h13_, ⟨h14_, ⟨h15_, ⟨h16_, ⟨h17_, ⟨h18_, ⟨h19_, ⟨h20_, ⟨h21_, ⟨h22_, ⟨h23_, ⟨h24_, ⟨h25_, ⟨h26_, ⟨h27_, ⟨h28_, ⟨h29_, ⟨h30_, ⟨h31_, ⟨h32_, ⟨h33_, ⟨h34_, ⟨h35_, ⟨h36_, ⟨h37_, ⟨h38_, ⟨h39_, ⟨h40_, ⟨h41_, ⟨h42_, ⟨h43_, ⟨h44_, ⟨h45_, ⟨h46_, ⟨h47_, ⟨h48_, ⟨h49_, ⟨h50_, ⟨h51_, ⟨h52_, ⟨h53_, ⟨h54_, ⟨h55_, ⟨h56_, ⟨h57_, ⟨h58_, ⟨h59_, ⟨h60_, ⟨h61_, ⟨h62_, ⟨h63_, ⟨h64_, ⟨h65_, ⟨h66_, ⟨h67_, ⟨h68_, ⟨h69_, ⟨h70_, ⟨h71_, ⟨h72_, ⟨h73_, ⟨h74_, ⟨h75_, ⟨h76_, ⟨h77_, ⟨h78_, ⟨h79_, ⟨h80_, ⟨h81_, ⟨h82_, h84_⟩⟩⟩⟩⟩⟩⟩⟩⟩⟩⟩⟩⟩⟩⟩⟩⟩⟩⟩⟩⟩⟩⟩⟩⟩⟩⟩⟩⟩⟩⟩⟩⟩⟩⟩⟩⟩⟩⟩⟩⟩⟩⟩⟩⟩⟩⟩⟩⟩⟩⟩⟩⟩⟩⟩⟩⟩⟩⟩⟩⟩⟩⟩⟩⟩⟩⟩⟩⟩⟩⟩⟩⟩⟩⟩, ?_⟩
    refine ⟨(la_callOf_34 h73_ h86_ (sv_i01 (p := p3 = 7)).1 e95_), ?_⟩
    refine ⟨(la_callOf_35 h73_ (sv_i01 (p := p3 = 7)).1 e95_), ?_⟩
    intro g66
    rintro ⟨h349_, ⟨h350_, ⟨h351_, ⟨h352_, ⟨h353_, ⟨h354_, ⟨h355_, ⟨h356_, ⟨h357_, ⟨h358_, ⟨h359_, ⟨h360_, ⟨h361_, ⟨h362_, ⟨h363_, ⟨h364_, ⟨h365_, ⟨h366_, ⟨h367_, ⟨h368_, ⟨h369_, ⟨h370_, ⟨h371_, ⟨h372_, ⟨h373_, ⟨h374_, ⟨h375_, ⟨h376_, ⟨h377_, h378_⟩⟩⟩⟩⟩⟩⟩⟩⟩⟩⟩⟩⟩⟩⟩⟩⟩⟩⟩⟩⟩⟩⟩⟩⟩⟩⟩⟩⟩
    refine ⟨h349_, ?_⟩
    refine ⟨h350_, ?_⟩
    refine ⟨h351_, ?_⟩
    refine ⟨h352_, ?_⟩
    refine ⟨h353_, ?_⟩
    refine ⟨h354_, ?_⟩
    refine ⟨h355_, ?_⟩
    refine ⟨h356_, ?_⟩
    refine ⟨h357_, ?_⟩
    refine ⟨h358_, ?_⟩
    refine ⟨h359_, ?_⟩
    refine ⟨h360_, ?_⟩
    refine ⟨h361_, ?_⟩
    refine ⟨h362_, ?_⟩
    refine ⟨h363_, ?_⟩
    refine ⟨h364_, ?_⟩
    refine ⟨h365_, ?_⟩
    refine ⟨h366_, ?_⟩
    refine ⟨h367_, ?_⟩
    refine ⟨h368_, ?_⟩
    refine ⟨h369_, ?_⟩
    refine ⟨h370_, ?_⟩
    refine ⟨h371_, ?_⟩
    refine ⟨h372_, ?_⟩
    refine ⟨h373_, ?_⟩
    refine ⟨h374_, ?_⟩
    refine ⟨h375_, ?_⟩
    refine ⟨h376_, ?_⟩
    refine ⟨h377_, ?_⟩
    exact h378_
  intro h379_
  have h380_ := (h88_.resolve_right (la_callOf_36 h379_))
  have h381_ := (h90_ h380_)
  refine ⟨?_, ?_⟩
  · skip
    refine ⟨h8_, ?_⟩
    refine ⟨h9_, ?_⟩
    refine ⟨h10_, ?_⟩
    refine ⟨h11_, ?_⟩
    refine ⟨h12_, ?_⟩
    refine ⟨h13_, ?_⟩
    refine ⟨h14_, ?_⟩
    refine ⟨h15_, ?_⟩
    refine ⟨h16_, ?_⟩
    refine ⟨h17_, ?_⟩
    refine ⟨h18_, ?_⟩
    refine ⟨h19_, ?_⟩
    refine ⟨h20_, ?_⟩
    refine ⟨h21_, ?_⟩
    refine ⟨h22_, ?_⟩
    refine ⟨h23_, ?_⟩
    refine ⟨h24_, ?_⟩
    refine ⟨h25_, ?_⟩
    refine ⟨h26_, ?_⟩
    refine ⟨h27_, ?_⟩
    refine ⟨h28_, ?_⟩
    refine ⟨h29_, ?_⟩
    refine ⟨h30_, ?_⟩
    refine ⟨h31_, ?_⟩
    refine ⟨h32_, ?_⟩
    refine ⟨h33_, ?_⟩
    refine ⟨h34_, ?_⟩
    refine ⟨h35_, ?_⟩
    refine ⟨h36_, ?_⟩
    refine ⟨h37_, ?_⟩
    refine ⟨h38_, ?_⟩
    refine ⟨h39_, ?_⟩
    refine ⟨h40_, ?_⟩
    refine ⟨h41_, ?_⟩
    refine ⟨(la_callOf_13 h42_ h53_), ?_⟩
    refine ⟨(la_callOf_14 h53_ h67_), ?_⟩
    refine ⟨?_, ?_⟩
    · skip
      have e382_ : S 29 (S 57 (S 1092 0 - 1)) = S 29 (S 1100033 0) := congrArg ((S 29)) h53_
      exact (la_callOf_15 h44_ e382_)
    refine ⟨h45_, ?_⟩
    refine ⟨h46_, ?_⟩
    refine ⟨?_, ?_⟩
    · skip
      have e383_ : S 1100023 (S 57 (S 1092 0 - 1)) = S 1100023 (S 1100033 0) := congrArg ((S 1100023)) h53_
      have e384_ : sm_dp (S 1100024) (S 1100023 (S 57 (S 1092 0 - 1))) = sm_dp (S 1100024) (S 1100023 (S 1100033 0)) := congrArg ((sm_dp (S 1100024))) e383_
      exact (la_callOf_16 h47_ e384_)
    refine ⟨?_, ?_⟩
    · skip
      have e385_ : S 1100023 (S 57 (S 1092 0 - 1)) = S 1100023 (S 1100033 0) := congrArg ((S 1100023)) h53_
      exact (sm_TC_t h48_ (la_callOf_17 e385_))
    refine ⟨h49_, ?_⟩
    refine ⟨h50_, ?_⟩
    refine ⟨h51_, ?_⟩
    refine ⟨h52_, ?_⟩
    refine ⟨?_, ?_⟩
    · skip
      have e386_ : S 1100007 (S 57 (S 1092 0 - 1)) = S 1100007 (S 1100033 0) := congrArg ((S 1100007)) h53_
      exact (la_callOf_16 h60_ e386_)
    refine ⟨?_, ?_⟩
    · skip
      have e387_ : S 1100025 (S 57 (S 1092 0 - 1)) = S 1100025 (S 1100033 0) := congrArg ((S 1100025)) h53_
      exact (sm_SK_q h56_ (la_callOf_20 h61_ e387_) rfl rfl)
    refine ⟨?_, ?_⟩
    · skip
      intro h388_
      have e389_ : S 1100023 (S 57 (S 1092 0 - 1)) = S 1100023 (S 1100033 0) := congrArg ((S 1100023)) h53_
      have h390_ := (h62_ (la_callOf_21 h388_ e389_))
      have h391_ := (h72_ (la_callOf_21 h388_ e389_))
      have e392_ : S 1100007 (S 1100023 (S 57 (S 1092 0 - 1))) = S 1100007 (S 1100023 (S 1100033 0)) := congrArg ((S 1100007)) e389_
      exact (la_callOf_22 h64_ h391_ e392_)
    refine ⟨la_callOf_37, ?_⟩
    exact la_callOf_23
  refine ⟨(la_callOf_38 h73_ (sv_i01 (p := p3 = 7)).1 (sv_i01 (p := p1 = 7)).1), ?_⟩
  intro g73
  rintro ⟨h393_, ⟨h394_, ⟨h395_, ⟨h396_, ⟨h397_, ⟨h398_, ⟨h399_, ⟨h400_, ⟨h401_, ⟨h402_, ⟨h403_, ⟨h404_, ⟨h405_, ⟨h406_, ⟨h407_, ⟨h408_, ⟨h409_, ⟨h410_, ⟨h411_, ⟨h412_, ⟨h413_, ⟨h414_, ⟨h415_, ⟨h416_, ⟨h417_, h418_⟩⟩⟩⟩⟩⟩⟩⟩⟩⟩⟩⟩⟩⟩⟩⟩⟩⟩⟩⟩⟩⟩⟩⟩⟩
  refine ⟨h393_, ?_⟩
  refine ⟨h12_, ?_⟩
  refine ⟨h395_, ?_⟩
  refine ⟨h396_, ?_⟩
  refine ⟨h397_, ?_⟩
  refine ⟨h398_, ?_⟩
  refine ⟨h399_, ?_⟩
  refine ⟨h18_, ?_⟩
  refine ⟨h19_, ?_⟩
  refine ⟨h20_, ?_⟩
  refine ⟨h403_, ?_⟩
  refine ⟨h404_, ?_⟩
  refine ⟨h405_, ?_⟩
  refine ⟨h406_, ?_⟩
  refine ⟨h26_, ?_⟩
  refine ⟨h27_, ?_⟩
  refine ⟨h28_, ?_⟩
  refine ⟨h37_, ?_⟩
  refine ⟨h411_, ?_⟩
  refine ⟨h412_, ?_⟩
  refine ⟨h413_, ?_⟩
  refine ⟨h414_, ?_⟩
  refine ⟨h415_, ?_⟩
  refine ⟨h416_, ?_⟩
  refine ⟨h417_, ?_⟩
  refine ⟨la_callOf_18, ?_⟩
  refine ⟨la_callOf_26, ?_⟩
  refine ⟨h80_, ?_⟩
  refine ⟨h81_, ?_⟩
  exact h82_
set_option maxRecDepth 8000 in
set_option maxHeartbeats 2000000 in
theorem s_callOf (d : Int) (h0 : 0 ≤ d) (IH : ∀ d' : Int, 0 ≤ d' → d' < d → P_C d') : T_callOf d := by
  intro p1 p2 p3 p4 p5 p6 S hok hp1 hp2 hp3 hp4 hp5 hp6 hpre hd
  have h := f_callOf d p1 p2 p3 p4 p5 p6 S hok hp1 hp2 hp3 hp4 hp5 hp6 hpre hd
  have hM := sm_h181
  show sv_T sm_XS sm_cs sm_L sm_sh (2 * (4 * (S 1115 0) + (if p1 = 7 then 1 else 0) + (if p3 = 7 then 1 else 0)) + 20).toNat (q_callOf p1 p2 p3 p4 p5 p6 S) 181 0 [(0, .ref 0), (1, sv_I p1), (2, sv_I p2), (3, sv_I p3), (4, sv_I p4), (5, sv_I p5), (6, sv_I p6)] [] S
  refine sv_aload_n hM dX12_callOf_0 rfl rfl ?_
  refine sv_iload_n hM dX12_callOf_1 rfl rfl ?_
  refine sv_iload_n hM dX12_callOf_2 rfl rfl ?_
  obtain ⟨o1, h⟩ := h
  obtain ⟨o2, h⟩ := h
  refine sv_callV hM dX12_callOf_3 sm_iv_992 (by decide) (sm_a0 _) rfl rfl (Nat.le_of_ble_eq_true rfl) sm_h176 (Nat.le_of_ble_eq_true rfl) (Nat.le_of_ble_eq_true rfl) (F' := 0) (sv_Fn (n := 0) o2) rfl (t_isFunction p1 p2 S hok hp1 hp2 o1) (fun v S1 hq => ?_)
  obtain ⟨r7, rfl, hr7, ok4, md5, hpo6⟩ := hq
  obtain rfl : S = S1 := (funext fun j => md5 j (by intro q; cases q)).symm
  show sv_T sm_XS sm_cs sm_L sm_sh (2 * (4 * (S 1115 0) + (if p1 = 7 then 1 else 0) + (if p3 = 7 then 1 else 0)) + 20).toNat (q_callOf p1 p2 p3 p4 p5 p6 S) 181 6 [(0, .ref 0), (1, sv_I p1), (2, sv_I p2), (3, sv_I p3), (4, sv_I p4), (5, sv_I p5), (6, sv_I p6)] [sv_I r7] S
  have h := h r7 hr7 hpo6
  refine sv_cond_ne hM dX12_callOf_6 hr7 (t := 18) rfl rfl (fun hc => ?_) (fun hc => ?_)
  · have h := h.1 (hc)
    have k8 : (sm_FO (S 44) (S 45) (S 1076 0) → 0 ≤ p2 → p2 < (S 1076 0) → (S 44 p2) = 1 → ¬ (9 ≤ p2 ∧ p2 < 23 ∧ (S 45 p2) = 0) → 1 ≤ (S 45 p2)) := fun h a b d e => sm_FO_at h a b d e
    have h := h k8
    refine sv_iload_n hM dX12_callOf_18 rfl rfl ?_
    refine sv_bipush (d := (9 : Int)) hM dX12_callOf_19 rfl rfl ?_
    refine sv_icmp_lt hM dX12_callOf_21 hp2 (⟨by decide, by decide⟩ : sv_R (9 : Int)) (t := 70) rfl rfl (fun hc => ?_) (fun hc => ?_)
    · have h := h.1 (hc)
      refine sv_aload_n hM dX12_callOf_70 rfl rfl ?_
      have k9 : sv_R (S 1092 0) := sm_okI ok4 sm_r1092 0
      have h := h k9
      refine sv_getI hM dX12_callOf_71 sm_fl_872 (sm_a0 _) sm_k92 rfl (x := (S 1092 0)) rfl ?_
      refine sv_bipush (d := (24 : Int)) hM dX12_callOf_74 rfl rfl ?_
      refine sv_icmp_ne hM dX12_callOf_76 k9 (⟨by decide, by decide⟩ : sv_R (24 : Int)) (t := 88) rfl rfl (fun hc => ?_) (fun hc => ?_)
      · have h := h.1 (hc)
        refine sv_aload_n hM dX12_callOf_88 rfl rfl ?_
        refine sv_iload_n hM dX12_callOf_89 rfl rfl ?_
        refine sv_iload_n hM dX12_callOf_90 rfl rfl ?_
        refine sv_iload hM dX12_callOf_91 rfl rfl ?_
        refine sv_iload hM dX12_callOf_93 rfl rfl ?_
        refine sv_iload hM dX12_callOf_95 rfl rfl ?_
        obtain ⟨o10, h⟩ := h
        obtain ⟨o11, h⟩ := h
        refine sv_callV hM dX12_callOf_97 sm_iv_1011 (by decide) (sm_a0 _) rfl rfl (Nat.le_of_ble_eq_true rfl) sm_h183 (Nat.le_of_ble_eq_true rfl) (Nat.le_of_ble_eq_true rfl) (F' := 2) (sv_Fn (n := 2) o11) rfl (t_enter p2 p3 p4 p5 p6 S ok4 hp2 hp3 hp4 hp5 hp6 o10) (fun v S1 hq => ?_)
        obtain ⟨rfl, ok13, md14, hpo15⟩ := hq
        obtain ⟨g12, rfl⟩ : ∃ g, S1 = sv_sts S [1076, 41, 42, 43, 44, 45, 46, 47, 1075, 1100029, 1084, 1085, 48, 1086, 51, 52, 49, 50, 1100020, 1100021, 1100022, 58, 63, 64, 57, 1092, 53, 54, 55, 56, 59, 60] g := ⟨_, md14.eq⟩
        show sv_T sm_XS sm_cs sm_L sm_sh (2 * (4 * (S 1115 0) + (if p1 = 7 then 1 else 0) + (if p3 = 7 then 1 else 0)) + 20).toNat (q_callOf p1 p2 p3 p4 p5 p6 S) 181 100 [(0, .ref 0), (1, sv_I p1), (2, sv_I p2), (3, sv_I p3), (4, sv_I p4), (5, sv_I p5), (6, sv_I p6)] [] (sv_sts S [1076, 41, 42, 43, 44, 45, 46, 47, 1075, 1100029, 1084, 1085, 48, 1086, 51, 52, 49, 50, 1100020, 1100021, 1100022, 58, 63, 64, 57, 1092, 53, 54, 55, 56, 59, 60] g12)
        have md16 : sv_mod [1076, 41, 42, 43, 44, 45, 46, 47, 1075, 1100029, 1084, 1085, 48, 1086, 51, 52, 49, 50, 1100020, 1100021, 1100022, 58, 63, 64, 57, 1092, 53, 54, 55, 56, 59, 60, 1073, 1109, 1110, 1111, 1112, 5, 1011, 3, 4, 1007, 1113, 1107, 67, 1100032, 1114, 1115] S (sv_sts S [1076, 41, 42, 43, 44, 45, 46, 47, 1075, 1100029, 1084, 1085, 48, 1086, 51, 52, 49, 50, 1100020, 1100021, 1100022, 58, 63, 64, 57, 1092, 53, 54, 55, 56, 59, 60] g12) := sv_mod.sts sv_mod.rf (by decide)
        have h := h g12 hpo15
        exact sv_vret hM dX12_callOf_100 rfl ⟨rfl, ok13, md16, h⟩
      · have h := h.2 (hc)
        refine sv_aload_n hM dX12_callOf_79 rfl rfl ?_
        refine sv_bipush (d := (8 : Int)) hM dX12_callOf_80 rfl rfl ?_
        obtain ⟨o17, h⟩ := h
        obtain ⟨o18, h⟩ := h
        refine sv_callV hM dX12_callOf_82 sm_iv_966 (by decide) (sm_a0 _) rfl rfl (Nat.le_of_ble_eq_true rfl) sm_h157 (Nat.le_of_ble_eq_true rfl) (Nat.le_of_ble_eq_true rfl) (F' := 3) (sv_Fn (n := 3) o18) rfl (t_error (8 : Int) S ok4 (⟨by decide, by decide⟩ : sv_R (8 : Int)) o17) (fun v S1 hq => ?_)
        obtain ⟨rfl, ok20, md21, hpo22⟩ := hq
        obtain ⟨g19, rfl⟩ : ∃ g, S1 = sv_sts S [1076, 41, 42, 43, 44, 45, 46, 47, 1075, 1100029, 1092, 60, 58, 57, 63, 64, 1073, 1109, 1110] g := ⟨_, md21.eq⟩
        show sv_T sm_XS sm_cs sm_L sm_sh (2 * (4 * (S 1115 0) + (if p1 = 7 then 1 else 0) + (if p3 = 7 then 1 else 0)) + 20).toNat (q_callOf p1 p2 p3 p4 p5 p6 S) 181 85 [(0, .ref 0), (1, sv_I p1), (2, sv_I p2), (3, sv_I p3), (4, sv_I p4), (5, sv_I p5), (6, sv_I p6)] [] (sv_sts S [1076, 41, 42, 43, 44, 45, 46, 47, 1075, 1100029, 1092, 60, 58, 57, 63, 64, 1073, 1109, 1110] g19)
        have md23 : sv_mod [1076, 41, 42, 43, 44, 45, 46, 47, 1075, 1100029, 1084, 1085, 48, 1086, 51, 52, 49, 50, 1100020, 1100021, 1100022, 58, 63, 64, 57, 1092, 53, 54, 55, 56, 59, 60, 1073, 1109, 1110, 1111, 1112, 5, 1011, 3, 4, 1007, 1113, 1107, 67, 1100032, 1114, 1115] S (sv_sts S [1076, 41, 42, 43, 44, 45, 46, 47, 1075, 1100029, 1092, 60, 58, 57, 63, 64, 1073, 1109, 1110] g19) := sv_mod.sts sv_mod.rf (by decide)
        have h := h g19 hpo22
        refine sv_goto hM dX12_callOf_85 (pc' := 100) rfl ?_
        exact sv_vret hM dX12_callOf_100 rfl ⟨rfl, ok20, md23, h⟩
    · have h := h.2 (hc)
      refine sv_iload_n hM dX12_callOf_24 rfl rfl ?_
      refine sv_bipush (d := (23 : Int)) hM dX12_callOf_25 rfl rfl ?_
      refine sv_icmp_ge hM dX12_callOf_27 hp2 (⟨by decide, by decide⟩ : sv_R (23 : Int)) (t := 70) rfl rfl (fun hc => ?_) (fun hc => ?_)
      · have h := h.1 (hc)
        refine sv_aload_n hM dX12_callOf_70 rfl rfl ?_
        have k24 : sv_R (S 1092 0) := sm_okI ok4 sm_r1092 0
        have h := h k24
        refine sv_getI hM dX12_callOf_71 sm_fl_872 (sm_a0 _) sm_k92 rfl (x := (S 1092 0)) rfl ?_
        refine sv_bipush (d := (24 : Int)) hM dX12_callOf_74 rfl rfl ?_
        refine sv_icmp_ne hM dX12_callOf_76 k24 (⟨by decide, by decide⟩ : sv_R (24 : Int)) (t := 88) rfl rfl (fun hc => ?_) (fun hc => ?_)
        · have h := h.1 (hc)
          refine sv_aload_n hM dX12_callOf_88 rfl rfl ?_
          refine sv_iload_n hM dX12_callOf_89 rfl rfl ?_
          refine sv_iload_n hM dX12_callOf_90 rfl rfl ?_
          refine sv_iload hM dX12_callOf_91 rfl rfl ?_
          refine sv_iload hM dX12_callOf_93 rfl rfl ?_
          refine sv_iload hM dX12_callOf_95 rfl rfl ?_
          obtain ⟨o25, h⟩ := h
          obtain ⟨o26, h⟩ := h
          refine sv_callV hM dX12_callOf_97 sm_iv_1011 (by decide) (sm_a0 _) rfl rfl (Nat.le_of_ble_eq_true rfl) sm_h183 (Nat.le_of_ble_eq_true rfl) (Nat.le_of_ble_eq_true rfl) (F' := 2) (sv_Fn (n := 2) o26) rfl (t_enter p2 p3 p4 p5 p6 S ok4 hp2 hp3 hp4 hp5 hp6 o25) (fun v S1 hq => ?_)
          obtain ⟨rfl, ok28, md29, hpo30⟩ := hq
          obtain ⟨g27, rfl⟩ : ∃ g, S1 = sv_sts S [1076, 41, 42, 43, 44, 45, 46, 47, 1075, 1100029, 1084, 1085, 48, 1086, 51, 52, 49, 50, 1100020, 1100021, 1100022, 58, 63, 64, 57, 1092, 53, 54, 55, 56, 59, 60] g := ⟨_, md29.eq⟩
          show sv_T sm_XS sm_cs sm_L sm_sh (2 * (4 * (S 1115 0) + (if p1 = 7 then 1 else 0) + (if p3 = 7 then 1 else 0)) + 20).toNat (q_callOf p1 p2 p3 p4 p5 p6 S) 181 100 [(0, .ref 0), (1, sv_I p1), (2, sv_I p2), (3, sv_I p3), (4, sv_I p4), (5, sv_I p5), (6, sv_I p6)] [] (sv_sts S [1076, 41, 42, 43, 44, 45, 46, 47, 1075, 1100029, 1084, 1085, 48, 1086, 51, 52, 49, 50, 1100020, 1100021, 1100022, 58, 63, 64, 57, 1092, 53, 54, 55, 56, 59, 60] g27)
          have md31 : sv_mod [1076, 41, 42, 43, 44, 45, 46, 47, 1075, 1100029, 1084, 1085, 48, 1086, 51, 52, 49, 50, 1100020, 1100021, 1100022, 58, 63, 64, 57, 1092, 53, 54, 55, 56, 59, 60, 1073, 1109, 1110, 1111, 1112, 5, 1011, 3, 4, 1007, 1113, 1107, 67, 1100032, 1114, 1115] S (sv_sts S [1076, 41, 42, 43, 44, 45, 46, 47, 1075, 1100029, 1084, 1085, 48, 1086, 51, 52, 49, 50, 1100020, 1100021, 1100022, 58, 63, 64, 57, 1092, 53, 54, 55, 56, 59, 60] g27) := sv_mod.sts sv_mod.rf (by decide)
          have h := h g27 hpo30
          exact sv_vret hM dX12_callOf_100 rfl ⟨rfl, ok28, md31, h⟩
        · have h := h.2 (hc)
          refine sv_aload_n hM dX12_callOf_79 rfl rfl ?_
          refine sv_bipush (d := (8 : Int)) hM dX12_callOf_80 rfl rfl ?_
          obtain ⟨o32, h⟩ := h
          obtain ⟨o33, h⟩ := h
          refine sv_callV hM dX12_callOf_82 sm_iv_966 (by decide) (sm_a0 _) rfl rfl (Nat.le_of_ble_eq_true rfl) sm_h157 (Nat.le_of_ble_eq_true rfl) (Nat.le_of_ble_eq_true rfl) (F' := 3) (sv_Fn (n := 3) o33) rfl (t_error (8 : Int) S ok4 (⟨by decide, by decide⟩ : sv_R (8 : Int)) o32) (fun v S1 hq => ?_)
          obtain ⟨rfl, ok35, md36, hpo37⟩ := hq
          obtain ⟨g34, rfl⟩ : ∃ g, S1 = sv_sts S [1076, 41, 42, 43, 44, 45, 46, 47, 1075, 1100029, 1092, 60, 58, 57, 63, 64, 1073, 1109, 1110] g := ⟨_, md36.eq⟩
          show sv_T sm_XS sm_cs sm_L sm_sh (2 * (4 * (S 1115 0) + (if p1 = 7 then 1 else 0) + (if p3 = 7 then 1 else 0)) + 20).toNat (q_callOf p1 p2 p3 p4 p5 p6 S) 181 85 [(0, .ref 0), (1, sv_I p1), (2, sv_I p2), (3, sv_I p3), (4, sv_I p4), (5, sv_I p5), (6, sv_I p6)] [] (sv_sts S [1076, 41, 42, 43, 44, 45, 46, 47, 1075, 1100029, 1092, 60, 58, 57, 63, 64, 1073, 1109, 1110] g34)
          have md38 : sv_mod [1076, 41, 42, 43, 44, 45, 46, 47, 1075, 1100029, 1084, 1085, 48, 1086, 51, 52, 49, 50, 1100020, 1100021, 1100022, 58, 63, 64, 57, 1092, 53, 54, 55, 56, 59, 60, 1073, 1109, 1110, 1111, 1112, 5, 1011, 3, 4, 1007, 1113, 1107, 67, 1100032, 1114, 1115] S (sv_sts S [1076, 41, 42, 43, 44, 45, 46, 47, 1075, 1100029, 1092, 60, 58, 57, 63, 64, 1073, 1109, 1110] g34) := sv_mod.sts sv_mod.rf (by decide)
          have h := h g34 hpo37
          refine sv_goto hM dX12_callOf_85 (pc' := 100) rfl ?_
          exact sv_vret hM dX12_callOf_100 rfl ⟨rfl, ok35, md38, h⟩
      · have h := h.2 (hc)
        refine sv_aload_n hM dX12_callOf_30 rfl rfl ?_
        refine sv_getA hM dX12_callOf_31 sm_fl_146 (sm_a0 _) sm_k81 rfl ?_
        refine sv_iload_n hM dX12_callOf_34 rfl rfl ?_
        obtain ⟨o39, h⟩ := h
        have k40 : sv_R (S 45 p2) := sm_okI ok4 sm_r45 p2
        have h := h k40
        refine sv_iald hM dX12_callOf_35 (sm_a45 _) (by decide) o39.1 o39.2 rfl (x := (S 45 p2)) rfl ?_
        refine sv_cond_ne hM dX12_callOf_36 k40 (t := 70) rfl rfl (fun hc => ?_) (fun hc => ?_)
        · have h := h.1 (hc)
          refine sv_aload_n hM dX12_callOf_70 rfl rfl ?_
          have k41 : sv_R (S 1092 0) := sm_okI ok4 sm_r1092 0
          have h := h k41
          refine sv_getI hM dX12_callOf_71 sm_fl_872 (sm_a0 _) sm_k92 rfl (x := (S 1092 0)) rfl ?_
          refine sv_bipush (d := (24 : Int)) hM dX12_callOf_74 rfl rfl ?_
          refine sv_icmp_ne hM dX12_callOf_76 k41 (⟨by decide, by decide⟩ : sv_R (24 : Int)) (t := 88) rfl rfl (fun hc => ?_) (fun hc => ?_)
          · have h := h.1 (hc)
            refine sv_aload_n hM dX12_callOf_88 rfl rfl ?_
            refine sv_iload_n hM dX12_callOf_89 rfl rfl ?_
            refine sv_iload_n hM dX12_callOf_90 rfl rfl ?_
            refine sv_iload hM dX12_callOf_91 rfl rfl ?_
            refine sv_iload hM dX12_callOf_93 rfl rfl ?_
            refine sv_iload hM dX12_callOf_95 rfl rfl ?_
            obtain ⟨o42, h⟩ := h
            obtain ⟨o43, h⟩ := h
            refine sv_callV hM dX12_callOf_97 sm_iv_1011 (by decide) (sm_a0 _) rfl rfl (Nat.le_of_ble_eq_true rfl) sm_h183 (Nat.le_of_ble_eq_true rfl) (Nat.le_of_ble_eq_true rfl) (F' := 2) (sv_Fn (n := 2) o43) rfl (t_enter p2 p3 p4 p5 p6 S ok4 hp2 hp3 hp4 hp5 hp6 o42) (fun v S1 hq => ?_)
            obtain ⟨rfl, ok45, md46, hpo47⟩ := hq
            obtain ⟨g44, rfl⟩ : ∃ g, S1 = sv_sts S [1076, 41, 42, 43, 44, 45, 46, 47, 1075, 1100029, 1084, 1085, 48, 1086, 51, 52, 49, 50, 1100020, 1100021, 1100022, 58, 63, 64, 57, 1092, 53, 54, 55, 56, 59, 60] g := ⟨_, md46.eq⟩
            show sv_T sm_XS sm_cs sm_L sm_sh (2 * (4 * (S 1115 0) + (if p1 = 7 then 1 else 0) + (if p3 = 7 then 1 else 0)) + 20).toNat (q_callOf p1 p2 p3 p4 p5 p6 S) 181 100 [(0, .ref 0), (1, sv_I p1), (2, sv_I p2), (3, sv_I p3), (4, sv_I p4), (5, sv_I p5), (6, sv_I p6)] [] (sv_sts S [1076, 41, 42, 43, 44, 45, 46, 47, 1075, 1100029, 1084, 1085, 48, 1086, 51, 52, 49, 50, 1100020, 1100021, 1100022, 58, 63, 64, 57, 1092, 53, 54, 55, 56, 59, 60] g44)
            have md48 : sv_mod [1076, 41, 42, 43, 44, 45, 46, 47, 1075, 1100029, 1084, 1085, 48, 1086, 51, 52, 49, 50, 1100020, 1100021, 1100022, 58, 63, 64, 57, 1092, 53, 54, 55, 56, 59, 60, 1073, 1109, 1110, 1111, 1112, 5, 1011, 3, 4, 1007, 1113, 1107, 67, 1100032, 1114, 1115] S (sv_sts S [1076, 41, 42, 43, 44, 45, 46, 47, 1075, 1100029, 1084, 1085, 48, 1086, 51, 52, 49, 50, 1100020, 1100021, 1100022, 58, 63, 64, 57, 1092, 53, 54, 55, 56, 59, 60] g44) := sv_mod.sts sv_mod.rf (by decide)
            have h := h g44 hpo47
            exact sv_vret hM dX12_callOf_100 rfl ⟨rfl, ok45, md48, h⟩
          · have h := h.2 (hc)
            refine sv_aload_n hM dX12_callOf_79 rfl rfl ?_
            refine sv_bipush (d := (8 : Int)) hM dX12_callOf_80 rfl rfl ?_
            obtain ⟨o49, h⟩ := h
            obtain ⟨o50, h⟩ := h
            refine sv_callV hM dX12_callOf_82 sm_iv_966 (by decide) (sm_a0 _) rfl rfl (Nat.le_of_ble_eq_true rfl) sm_h157 (Nat.le_of_ble_eq_true rfl) (Nat.le_of_ble_eq_true rfl) (F' := 3) (sv_Fn (n := 3) o50) rfl (t_error (8 : Int) S ok4 (⟨by decide, by decide⟩ : sv_R (8 : Int)) o49) (fun v S1 hq => ?_)
            obtain ⟨rfl, ok52, md53, hpo54⟩ := hq
            obtain ⟨g51, rfl⟩ : ∃ g, S1 = sv_sts S [1076, 41, 42, 43, 44, 45, 46, 47, 1075, 1100029, 1092, 60, 58, 57, 63, 64, 1073, 1109, 1110] g := ⟨_, md53.eq⟩
            show sv_T sm_XS sm_cs sm_L sm_sh (2 * (4 * (S 1115 0) + (if p1 = 7 then 1 else 0) + (if p3 = 7 then 1 else 0)) + 20).toNat (q_callOf p1 p2 p3 p4 p5 p6 S) 181 85 [(0, .ref 0), (1, sv_I p1), (2, sv_I p2), (3, sv_I p3), (4, sv_I p4), (5, sv_I p5), (6, sv_I p6)] [] (sv_sts S [1076, 41, 42, 43, 44, 45, 46, 47, 1075, 1100029, 1092, 60, 58, 57, 63, 64, 1073, 1109, 1110] g51)
            have md55 : sv_mod [1076, 41, 42, 43, 44, 45, 46, 47, 1075, 1100029, 1084, 1085, 48, 1086, 51, 52, 49, 50, 1100020, 1100021, 1100022, 58, 63, 64, 57, 1092, 53, 54, 55, 56, 59, 60, 1073, 1109, 1110, 1111, 1112, 5, 1011, 3, 4, 1007, 1113, 1107, 67, 1100032, 1114, 1115] S (sv_sts S [1076, 41, 42, 43, 44, 45, 46, 47, 1075, 1100029, 1092, 60, 58, 57, 63, 64, 1073, 1109, 1110] g51) := sv_mod.sts sv_mod.rf (by decide)
            have h := h g51 hpo54
            refine sv_goto hM dX12_callOf_85 (pc' := 100) rfl ?_
            exact sv_vret hM dX12_callOf_100 rfl ⟨rfl, ok52, md55, h⟩
        · have h := h.2 (hc)
          refine sv_iload_n hM dX12_callOf_39 rfl rfl ?_
          refine sv_bipush (d := (20 : Int)) hM dX12_callOf_40 rfl rfl ?_
          refine sv_icmp_ne hM dX12_callOf_42 hp2 (⟨by decide, by decide⟩ : sv_R (20 : Int)) (t := 57) rfl rfl (fun hc => ?_) (fun hc => ?_)
          · have h := h.1 (hc)
            refine sv_aload_n hM dX12_callOf_57 rfl rfl ?_
            refine sv_iload_n hM dX12_callOf_58 rfl rfl ?_
            refine sv_iload_n hM dX12_callOf_59 rfl rfl ?_
            refine sv_iload hM dX12_callOf_60 rfl rfl ?_
            refine sv_iload hM dX12_callOf_62 rfl rfl ?_
            obtain ⟨o56, h⟩ := h
            obtain ⟨o57, h⟩ := h
            refine sv_callV hM dX12_callOf_64 sm_iv_1008 (by decide) (sm_a0 _) rfl rfl (Nat.le_of_ble_eq_true rfl) sm_h186 (Nat.le_of_ble_eq_true rfl) (Nat.le_of_ble_eq_true rfl) (F' := 6) (sv_Fn (n := 6) o57) rfl (t_nativeOf p2 p3 p4 p5 S ok4 hp2 hp3 hp4 hp5 o56) (fun v S1 hq => ?_)
            obtain ⟨rfl, ok59, md60, hpo61⟩ := hq
            obtain ⟨g58, rfl⟩ : ∃ g, S1 = sv_sts S [1076, 41, 42, 43, 44, 45, 46, 47, 1075, 1100029, 1092, 60, 58, 57, 63, 64, 1073, 1109, 1110, 1111, 1112, 5, 1011, 3, 4, 1007, 1084, 1085, 48, 1086, 51, 52, 49, 50, 1100020, 1100021, 1100022, 1113, 1107, 67, 1100032] g := ⟨_, md60.eq⟩
            show sv_T sm_XS sm_cs sm_L sm_sh (2 * (4 * (S 1115 0) + (if p1 = 7 then 1 else 0) + (if p3 = 7 then 1 else 0)) + 20).toNat (q_callOf p1 p2 p3 p4 p5 p6 S) 181 67 [(0, .ref 0), (1, sv_I p1), (2, sv_I p2), (3, sv_I p3), (4, sv_I p4), (5, sv_I p5), (6, sv_I p6)] [] (sv_sts S [1076, 41, 42, 43, 44, 45, 46, 47, 1075, 1100029, 1092, 60, 58, 57, 63, 64, 1073, 1109, 1110, 1111, 1112, 5, 1011, 3, 4, 1007, 1084, 1085, 48, 1086, 51, 52, 49, 50, 1100020, 1100021, 1100022, 1113, 1107, 67, 1100032] g58)
            have md62 : sv_mod [1076, 41, 42, 43, 44, 45, 46, 47, 1075, 1100029, 1084, 1085, 48, 1086, 51, 52, 49, 50, 1100020, 1100021, 1100022, 58, 63, 64, 57, 1092, 53, 54, 55, 56, 59, 60, 1073, 1109, 1110, 1111, 1112, 5, 1011, 3, 4, 1007, 1113, 1107, 67, 1100032, 1114, 1115] S (sv_sts S [1076, 41, 42, 43, 44, 45, 46, 47, 1075, 1100029, 1092, 60, 58, 57, 63, 64, 1073, 1109, 1110, 1111, 1112, 5, 1011, 3, 4, 1007, 1084, 1085, 48, 1086, 51, 52, 49, 50, 1100020, 1100021, 1100022, 1113, 1107, 67, 1100032] g58) := sv_mod.sts sv_mod.rf (by decide)
            have h := h g58 hpo61
            refine sv_goto hM dX12_callOf_67 (pc' := 100) rfl ?_
            exact sv_vret hM dX12_callOf_100 rfl ⟨rfl, ok59, md62, h⟩
          · have h := h.2 (hc)
            refine sv_aload_n hM dX12_callOf_45 rfl rfl ?_
            refine sv_iload_n hM dX12_callOf_46 rfl rfl ?_
            refine sv_iload hM dX12_callOf_47 rfl rfl ?_
            refine sv_iload hM dX12_callOf_49 rfl rfl ?_
            obtain ⟨o63, h⟩ := h
            obtain ⟨o64, h⟩ := h
            obtain ⟨o65, h⟩ := h
            refine sv_callV hM dX12_callOf_51 sm_iv_1005 (by decide) (sm_a0 _) rfl rfl (Nat.le_of_ble_eq_true rfl) sm_h182 (Nat.le_of_ble_eq_true rfl) (Nat.le_of_ble_eq_true rfl) (F' := ((2 * (4 * (S 1115 0) + (if p3 = 7 then 1 else 0)) + 21)).toNat) (sv_Fe o65) rfl ((IH (2 * (4 * (S 1115 0) + (if p3 = 7 then 1 else 0)) + 1) o64.1 o64.2).2 p3 p4 p5 S ok4 hp3 hp4 hp5 o63 rfl) (fun v S1 hq => ?_)
            obtain ⟨rfl, ok67, md68, hpo69⟩ := hq
            obtain ⟨g66, rfl⟩ : ∃ g, S1 = sv_sts S [1076, 41, 42, 43, 44, 45, 46, 47, 1075, 1100029, 1084, 1085, 48, 1086, 51, 52, 49, 50, 1100020, 1100021, 1100022, 58, 63, 64, 57, 1092, 53, 54, 55, 56, 59, 60, 1073, 1109, 1110, 1111, 1112, 5, 1011, 3, 4, 1007, 1113, 1107, 67, 1100032, 1114, 1115] g := ⟨_, md68.eq⟩
            show sv_T sm_XS sm_cs sm_L sm_sh (2 * (4 * (S 1115 0) + (if p1 = 7 then 1 else 0) + (if p3 = 7 then 1 else 0)) + 20).toNat (q_callOf p1 p2 p3 p4 p5 p6 S) 181 54 [(0, .ref 0), (1, sv_I p1), (2, sv_I p2), (3, sv_I p3), (4, sv_I p4), (5, sv_I p5), (6, sv_I p6)] [] (sv_sts S [1076, 41, 42, 43, 44, 45, 46, 47, 1075, 1100029, 1084, 1085, 48, 1086, 51, 52, 49, 50, 1100020, 1100021, 1100022, 58, 63, 64, 57, 1092, 53, 54, 55, 56, 59, 60, 1073, 1109, 1110, 1111, 1112, 5, 1011, 3, 4, 1007, 1113, 1107, 67, 1100032, 1114, 1115] g66)
            have md70 : sv_mod [1076, 41, 42, 43, 44, 45, 46, 47, 1075, 1100029, 1084, 1085, 48, 1086, 51, 52, 49, 50, 1100020, 1100021, 1100022, 58, 63, 64, 57, 1092, 53, 54, 55, 56, 59, 60, 1073, 1109, 1110, 1111, 1112, 5, 1011, 3, 4, 1007, 1113, 1107, 67, 1100032, 1114, 1115] S (sv_sts S [1076, 41, 42, 43, 44, 45, 46, 47, 1075, 1100029, 1084, 1085, 48, 1086, 51, 52, 49, 50, 1100020, 1100021, 1100022, 58, 63, 64, 57, 1092, 53, 54, 55, 56, 59, 60, 1073, 1109, 1110, 1111, 1112, 5, 1011, 3, 4, 1007, 1113, 1107, 67, 1100032, 1114, 1115] g66) := sv_mod.sts sv_mod.rf (by decide)
            have h := h g66 hpo69
            refine sv_goto hM dX12_callOf_54 (pc' := 100) rfl ?_
            exact sv_vret hM dX12_callOf_100 rfl ⟨rfl, ok67, md70, h⟩
  · have h := h.2 (hc)
    refine sv_aload_n hM dX12_callOf_9 rfl rfl ?_
    refine sv_bipush (d := (6 : Int)) hM dX12_callOf_10 rfl rfl ?_
    obtain ⟨o71, h⟩ := h
    obtain ⟨o72, h⟩ := h
    refine sv_callV hM dX12_callOf_12 sm_iv_966 (by decide) (sm_a0 _) rfl rfl (Nat.le_of_ble_eq_true rfl) sm_h157 (Nat.le_of_ble_eq_true rfl) (Nat.le_of_ble_eq_true rfl) (F' := 3) (sv_Fn (n := 3) o72) rfl (t_error (6 : Int) S ok4 (⟨by decide, by decide⟩ : sv_R (6 : Int)) o71) (fun v S1 hq => ?_)
    obtain ⟨rfl, ok74, md75, hpo76⟩ := hq
    obtain ⟨g73, rfl⟩ : ∃ g, S1 = sv_sts S [1076, 41, 42, 43, 44, 45, 46, 47, 1075, 1100029, 1092, 60, 58, 57, 63, 64, 1073, 1109, 1110] g := ⟨_, md75.eq⟩
    show sv_T sm_XS sm_cs sm_L sm_sh (2 * (4 * (S 1115 0) + (if p1 = 7 then 1 else 0) + (if p3 = 7 then 1 else 0)) + 20).toNat (q_callOf p1 p2 p3 p4 p5 p6 S) 181 15 [(0, .ref 0), (1, sv_I p1), (2, sv_I p2), (3, sv_I p3), (4, sv_I p4), (5, sv_I p5), (6, sv_I p6)] [] (sv_sts S [1076, 41, 42, 43, 44, 45, 46, 47, 1075, 1100029, 1092, 60, 58, 57, 63, 64, 1073, 1109, 1110] g73)
    have md77 : sv_mod [1076, 41, 42, 43, 44, 45, 46, 47, 1075, 1100029, 1084, 1085, 48, 1086, 51, 52, 49, 50, 1100020, 1100021, 1100022, 58, 63, 64, 57, 1092, 53, 54, 55, 56, 59, 60, 1073, 1109, 1110, 1111, 1112, 5, 1011, 3, 4, 1007, 1113, 1107, 67, 1100032, 1114, 1115] S (sv_sts S [1076, 41, 42, 43, 44, 45, 46, 47, 1075, 1100029, 1092, 60, 58, 57, 63, 64, 1073, 1109, 1110] g73) := sv_mod.sts sv_mod.rf (by decide)
    have h := h g73 hpo76
    refine sv_goto hM dX12_callOf_15 (pc' := 100) rfl ?_
    exact sv_vret hM dX12_callOf_100 rfl ⟨rfl, ok74, md77, h⟩
theorem la_callAgain_0 {x0 x1 x2 x3 x4 : Int} (h0 : 1 ≤ x0) (h1 : x0 ≤ 24) (h2 : x1 ≤ 396) (h3 : x2 ≤ x1) (h4 : x3 ≤ x2 - 1) (h5 : x4 + x3 = 400 * (x0 - 1) + x1) : 0 < x3 → 0 ≤ x4 + 0 ∧ x4 + 0 < 9600 := by omega
theorem la_callAgain_1 {x0 x1 : Int} (h0 : 0 ≤ x0) (h1 : 0 ≤ x1) : 0 + 1 ≤ 2 * (4 * x0 + x1) + 21 := by omega
theorem la_callAgain_2 : (0 : Int) ≤ 0 := by omega
theorem la_callAgain_3 {x0 : Int} (h0 : x0 ≤ 0) : ¬ 0 < x0 := by omega
theorem la_callAgain_4 {x0 : Int} (h0 : x0 = 0) : ¬ x0 = 6 := by omega
theorem la_callAgain_5 {x0 : Int} (h0 : x0 = 0) : ¬ x0 = 7 := by omega
theorem la_callAgain_6 : ((-1) : Int) = (-1) := by omega
theorem la_callAgain_7 {x0 x1 x2 : Int} (h0 : 0 ≤ x0) (h1 : 0 ≤ x1) (h2 : x2 = 0) : 0 ≤ 2 * (4 * x0 + x1 + x2) := by omega
theorem la_callAgain_8 {x0 x1 x2 x3 : Int} (h0 : 2 * (4 * x0 + x1) + 1 = x2) (h1 : x3 = 0) : 2 * (4 * x0 + x1 + x3) < x2 := by omega
theorem la_callAgain_9 {x0 x1 x2 : Int} (h0 : 0 ≤ x0) (h1 : 0 ≤ x1) (h2 : 0 ≤ x2) : 0 ≤ 2 * (4 * x0 + x1 + x2) + 20 := by omega
theorem la_callAgain_10 {x0 x1 x2 : Int} (h0 : x0 = 0) : 2 * (4 * x1 + x2 + x0) + 20 + 1 ≤ 2 * (4 * x1 + x2) + 21 := by omega
theorem la_callAgain_11 {x0 : Int} (h0 : x0 = 0) : ¬ x0 = 1 := by omega
theorem la_callAgain_12 {x0 : Int} (h0 : ¬ x0 ≤ 0) : 0 < x0 := by omega
theorem la_callAgain_13 {x0 : Int} (h0 : ¬ x0 ≤ 0) : ¬ ¬ 0 < x0 := by omega
theorem la_callAgain_14 {x0 x1 x2 x3 x4 : Int} (h0 : 1 ≤ x0) (h1 : x0 ≤ 24) (h2 : x1 ≤ 396) (h3 : x2 ≤ x1) (h4 : x3 ≤ x2 - 1) (h5 : x4 + x3 = 400 * (x0 - 1) + x1) (h6 : ¬ x3 ≤ 0) : sv_R (x4 + 1) := by omega
theorem la_callAgain_15 {x0 x1 x2 : Int} (h0 : x0 ≤ 396) (h1 : x1 ≤ x0) (h2 : x2 ≤ x1 - 1) (h3 : ¬ x2 ≤ 0) : sv_R (x2 - 1) := by omega
theorem la_callAgain_16 {x0 : Int} (h0 : ¬ x0 ≤ 0) : 0 ≤ x0 - 1 := by omega
theorem la_callAgain_17 {x0 x1 : Int} (h0 : x0 ≤ x1 - 1) : x0 - 1 ≤ x1 - 1 := by omega
theorem la_callAgain_18 {x0 x1 x2 x3 : Int} (h0 : x0 + x1 = 400 * (x2 - 1) + x3) : x0 + 1 + (x1 - 1) = 400 * (x2 - 1) + x3 := by omega
theorem la_callAgain_19 {x0 x1 x2 : Int} (h0 : 0 ≤ x0) (h1 : ¬ x1 ≤ 0) (h2 : 0 ≤ x2) : 0 ≤ 2 * (4 * (x1 - 1) + x0 + x2) := by omega
theorem la_callAgain_20 {x0 x1 x2 x3 : Int} (h0 : 2 * (4 * x0 + x1) + 1 = x2) (h1 : x3 ≤ 1) : 2 * (4 * (x0 - 1) + x1 + x3) < x2 := by omega
theorem la_callAgain_21 {x0 x1 x2 : Int} (h0 : 0 ≤ x0) (h1 : ¬ x1 ≤ 0) (h2 : 0 ≤ x2) : 0 ≤ 2 * (4 * (x1 - 1) + x0 + x2) + 20 := by omega
theorem la_callAgain_22 {x0 x1 x2 : Int} (h0 : x0 ≤ 1) : 2 * (4 * (x1 - 1) + x2 + x0) + 20 + 1 ≤ 2 * (4 * x1 + x2) + 21 := by omega
set_option maxHeartbeats 8000000 in
theorem f_callAgain : ∀ (d : Int) (p1 : Int) (p2 : Int) (p3 : Int) (S : sv_S), sm_ok S → sv_R p1 → sv_R p2 → sv_R p3 → ((S 1075 0) = 0 ∧ (S 1073 0) = 1 ∧ sm_LX (S 58) (S 63) (S 64) (S 1092 0) (S 1076 0) ∧ sm_PL (S 1100020) (S 51) (S 52) (S 46) (S 47) (S 1076 0) (S 1086 0) ∧ sm_FR (S 1100020) (S 52) (S 1100021) (S 1100022) (3000 - (S 1084 0)) (S 1085 0) ∧ sm_PV (S 1100020) (S 48) (S 49) (S 50) (S 44) (S 1076 0) (S 1007 0) ∧ sm_AL (S 1100020) (S 48) (S 49) (S 50) (S 44) (S 1076 0) (S 1100032 0) ∧ sm_SV (S 1100020) (S 48) (S 1100029) (S 32) (S 33) (S 1076 0) (S 1032 0) ∧ 0 ≤ (S 1076 0) ∧ (S 1076 0) ≤ 300 ∧ 0 ≤ (S 1084 0) ∧ (S 1084 0) ≤ 3000 ∧ 0 ≤ (S 1086 0) ∧ sm_SC (S 1100029) (S 44) (S 45) (S 43) (S 21) (S 1076 0) (S 1032 0) ∧ sm_PO (S 42) (S 1076 0) ∧ (S 1100032 0) = -1 ∧ sm_FO (S 44) (S 45) (S 1076 0) ∧ 23 ≤ (S 1076 0) ∧ 31 ≤ (S 1007 0) ∧ (S 1007 0) ≤ 400 ∧ sm_LN (S 4) 400 (S 1007 0) ∧ sm_CT (S 26) (S 27) (S 28) (S 29) (S 1100007) (S 1100023) (S 1100024) (S 1100025) (S 21) (S 1046 0) (S 1032 0) (S 1008 0) (S 1055 0) ∧ sm_LS (S 26) (S 1100007) (S 1100025) (S 1046 0) ∧ sm_CL (S 1100007) (S 1100023) (S 1100025) (S 1046 0) ∧ 1 ≤ (S 1032 0) ∧ (S 1032 0) ≤ 11 ∧ 0 ≤ (S 1046 0) ∧ (S 1046 0) ≤ 600 ∧ 31 ≤ (S 1008 0) ∧ (S 1008 0) ≤ (S 1007 0) ∧ 0 ≤ (S 1055 0) ∧ (S 1055 0) ≤ 19 ∧ 1 ≤ (S 1092 0) ∧ (S 1092 0) ≤ 24 ∧ 0 ≤ (S 1100033 0) ∧ (S 1100033 0) < (S 1046 0) ∧ (S 29 (S 1100033 0)) = (S 53 ((S 1092 0) - 1)) ∧ 0 ≤ (S 53 ((S 1092 0) - 1)) ∧ (S 53 ((S 1092 0) - 1)) < (S 1032 0) ∧ (S 60 ((S 1092 0) - 1)) = sm_dp (S 1100024) (S 1100023 (S 1100033 0)) ∧ sm_TC (S 61) (S 62) (S 27) (S 1100007) (S 1100023) (S 1100024) (40 * ((S 1092 0) - 1)) (S 1100023 (S 1100033 0)) ∧ sm_LK (S 1100029) (S 1076 0) (S 54 ((S 1092 0) - 1)) (S 53 ((S 1092 0) - 1)) ∧ sm_VO (S 44) (S 1076 0) (S 1007 0) ((S 55 ((S 1092 0) - 1))) ((S 56 ((S 1092 0) - 1))) ∧ sm_FW (S 44) (S 1076 0) (S 59 ((S 1092 0) - 1)) ∧ sm_FL (S 53) (S 54) (S 55) (S 56) (S 57) (S 58) (S 59) (S 60) (S 61) (S 62) (S 63) (S 64) (S 27) (S 29) (S 1100007) (S 1100023) (S 1100024) (S 1100025) (S 26) (S 1100029) (S 44) (S 1046 0) (S 1032 0) (S 1076 0) (S 1007 0) (((S 1092 0) - 1)) ∧ (S 57 ((S 1092 0) - 1)) = (S 1100033 0) ∧ 0 ≤ (S 58 ((S 1092 0) - 1)) ∧ (S 58 ((S 1092 0) - 1)) ≤ 400 ∧ sm_SK (S 63) (S 64) (S 44) (S 1100007) (S 1100025) (S 1076 0) (S 1007 0) (400 * ((S 1092 0) - 1)) ((S 58 ((S 1092 0) - 1))) ((S 1100034 0)) ∧ -1 ≤ (S 1100034 0) ∧ (S 1100034 0) < (S 1046 0) ∧ (0 ≤ (S 1100034 0) → (S 26 (S 1100034 0)) = 29) ∧ (S 58 ((S 1092 0) - 1)) = (S 1100007 (S 1100033 0)) ∧ (S 1100034 0) = (S 1100025 (S 1100033 0)) ∧ (0 ≤ (S 1100023 (S 1100033 0)) → (S 1100007 (S 1100023 (S 1100033 0))) ≤ (S 58 ((S 1092 0) - 1))) ∧ (S 58 ((S 1092 0) - 1)) ≤ 396 ∧ 1 ≤ p3 ∧ p3 ≤ (S 58 ((S 1092 0) - 1)) ∧ (0 ≤ (S 1100034 0) → (S 1100007 (S 1100034 0)) ≤ (S 58 ((S 1092 0) - 1)) - p3) ∧ (S 1100033 0) + 1 < (S 1046 0) ∧ (S 29 ((S 1100033 0) + 1)) = (S 29 (S 1100033 0)) ∧ (S 1100007 ((S 1100033 0) + 1)) = (S 58 ((S 1092 0) - 1)) + 1 - p3 ∧ (S 1100023 ((S 1100033 0) + 1)) = (S 1100023 (S 1100033 0)) ∧ (S 1100025 ((S 1100033 0) + 1)) = (S 1100034 0) ∧ (0 ≤ (S 1100023 (S 1100033 0)) → (S 1100007 (S 1100023 (S 1100033 0))) ≤ (S 58 ((S 1092 0) - 1)) - p3) ∧ 0 ≤ (S 1115 0) ∧ (S 1115 0) ≤ p3 - 1 ∧ (S 1114 0) + (S 1115 0) = (400 * ((S 1092 0) - 1) + (S 58 ((S 1092 0) - 1))) ∧ (∀ g : Int, 0 ≤ g → g < (S 1032 0) → 0 ≤ (S 30 g) ∧ (S 30 g) < (S 1046 0) ∧ (S 1100007 (S 30 g)) = 0 ∧ (S 1100023 (S 30 g)) = -1 ∧ 0 ≤ (S 33 g) ∧ (S 33 g) ≤ 100 ∧ 0 ≤ (S 20 g) ∧ (S 20 g) ≤ 8) ∧ sm_VN (S 32) (S 33) (S 1032 0) (S 1008 0) ∧ (∀ f : Int, 0 ≤ f → f < (S 1032 0) → 0 ≤ (S 30 f) ∧ (S 30 f) < (S 1046 0) ∧ (S 29 (S 30 f)) = f ∧ (S 1100007 (S 30 f)) = 0 ∧ (S 1100023 (S 30 f)) = -1 ∧ (S 1100025 (S 30 f)) = -1) ∧ (S 1086 0) ≤ 1900000000 ∧ 0 ≤ (S 1107 0) ∧ (S 1107 0) ≤ 100 ∧ sm_PT (S 67) (S 1107 0) (S 1007 0) ∧ sm_VO (S 44) (S 1076 0) (S 1007 0) (p1) (p2)) → (2 * (4 * (S 1115 0) + (if p1 = 7 then 1 else 0)) + 1) = d → ((0 : Int) < (S 1115 0) → 0 ≤ (S 1114 0) + (0 : Int) ∧ (S 1114 0) + (0 : Int) < 9600) ∧ (0 + 1 ≤ (2 * (4 * (S 1115 0) + (if p1 = 7 then 1 else 0)) + 21)) ∧ (∀ r7 : Int, sv_R r7 → (((0 : Int) < (S 1115 0) → r7 = (S 63 ((S 1114 0) + (0 : Int)))) ∧ (¬ (0 : Int) < (S 1115 0) → r7 = 0)) → (∀ r12 : Int, sv_R r12 → (((0 : Int) < (S 1115 0) → r12 = (S 64 ((S 1114 0) + (0 : Int)))) ∧ (¬ (0 : Int) < (S 1115 0) → r12 = 0)) → ((sm_SK (S 63) (S 64) (S 44) (S 1100007) (S 1100025) (S 1076 0) (S 1007 0) (400 * ((S 1092 0) - 1)) ((S 58 ((S 1092 0) - 1))) ((S 1100034 0)) → sm_LS (S 26) (S 1100007) (S 1100025) (S 1046 0) → (S 1114 0) + (S 1115 0) = 400 * ((S 1092 0) - 1) + (S 58 ((S 1092 0) - 1)) → 0 ≤ (0 : Int) → (S 1115 0) ≤ p3 - 1 → p3 ≤ (S 58 ((S 1092 0) - 1)) → (S 1100034 0) < (S 1046 0) → (0 ≤ (S 1100034 0) → (S 26 (S 1100034 0)) = 29) → (0 ≤ (S 1100034 0) → (S 1100007 (S 1100034 0)) ≤ (S 58 ((S 1092 0) - 1)) - p3) → ((0 : Int) < (S 1115 0) → r7 = (S 63 ((S 1114 0) + (0 : Int)))) → (¬ (0 : Int) < (S 1115 0) → r7 = 0) → ((0 : Int) < (S 1115 0) → r12 = (S 64 ((S 1114 0) + (0 : Int)))) → (¬ (0 : Int) < (S 1115 0) → r12 = 0) → sm_VO (S 44) (S 1076 0) (S 1007 0) (r7) (r12)) → (sv_R (S 1115 0) → ((((S 1115 0) ≤ (0 : Int)) → ((S 1075 0) = 0 ∧ (S 1073 0) = 1 ∧ sm_LX (S 58) (S 63) (S 64) (S 1092 0) (S 1076 0) ∧ sm_PL (S 1100020) (S 51) (S 52) (S 46) (S 47) (S 1076 0) (S 1086 0) ∧ sm_FR (S 1100020) (S 52) (S 1100021) (S 1100022) (3000 - (S 1084 0)) (S 1085 0) ∧ sm_PV (S 1100020) (S 48) (S 49) (S 50) (S 44) (S 1076 0) (S 1007 0) ∧ sm_AL (S 1100020) (S 48) (S 49) (S 50) (S 44) (S 1076 0) (S 1100032 0) ∧ sm_SV (S 1100020) (S 48) (S 1100029) (S 32) (S 33) (S 1076 0) (S 1032 0) ∧ 0 ≤ (S 1076 0) ∧ (S 1076 0) ≤ 300 ∧ 0 ≤ (S 1084 0) ∧ (S 1084 0) ≤ 3000 ∧ 0 ≤ (S 1086 0) ∧ sm_SC (S 1100029) (S 44) (S 45) (S 43) (S 21) (S 1076 0) (S 1032 0) ∧ sm_PO (S 42) (S 1076 0) ∧ (S 1100032 0) = -1 ∧ sm_FO (S 44) (S 45) (S 1076 0) ∧ 23 ≤ (S 1076 0) ∧ 31 ≤ (S 1007 0) ∧ (S 1007 0) ≤ 400 ∧ sm_LN (S 4) 400 (S 1007 0) ∧ sm_CT (S 26) (S 27) (S 28) (S 29) (S 1100007) (S 1100023) (S 1100024) (S 1100025) (S 21) (S 1046 0) (S 1032 0) (S 1008 0) (S 1055 0) ∧ sm_LS (S 26) (S 1100007) (S 1100025) (S 1046 0) ∧ sm_CL (S 1100007) (S 1100023) (S 1100025) (S 1046 0) ∧ 1 ≤ (S 1032 0) ∧ (S 1032 0) ≤ 11 ∧ 0 ≤ (S 1046 0) ∧ (S 1046 0) ≤ 600 ∧ 31 ≤ (S 1008 0) ∧ (S 1008 0) ≤ (S 1007 0) ∧ 0 ≤ (S 1055 0) ∧ (S 1055 0) ≤ 19 ∧ 1 ≤ (S 1092 0) ∧ (S 1092 0) ≤ 24 ∧ 0 ≤ (S 1100033 0) ∧ (S 1100033 0) < (S 1046 0) ∧ (S 29 (S 1100033 0)) = (S 53 ((S 1092 0) - 1)) ∧ 0 ≤ (S 53 ((S 1092 0) - 1)) ∧ (S 53 ((S 1092 0) - 1)) < (S 1032 0) ∧ (S 60 ((S 1092 0) - 1)) = sm_dp (S 1100024) (S 1100023 (S 1100033 0)) ∧ sm_TC (S 61) (S 62) (S 27) (S 1100007) (S 1100023) (S 1100024) (40 * ((S 1092 0) - 1)) (S 1100023 (S 1100033 0)) ∧ sm_LK (S 1100029) (S 1076 0) (S 54 ((S 1092 0) - 1)) (S 53 ((S 1092 0) - 1)) ∧ sm_VO (S 44) (S 1076 0) (S 1007 0) ((S 55 ((S 1092 0) - 1))) ((S 56 ((S 1092 0) - 1))) ∧ sm_FW (S 44) (S 1076 0) (S 59 ((S 1092 0) - 1)) ∧ sm_FL (S 53) (S 54) (S 55) (S 56) (S 57) (S 58) (S 59) (S 60) (S 61) (S 62) (S 63) (S 64) (S 27) (S 29) (S 1100007) (S 1100023) (S 1100024) (S 1100025) (S 26) (S 1100029) (S 44) (S 1046 0) (S 1032 0) (S 1076 0) (S 1007 0) (((S 1092 0) - 1)) ∧ (S 57 ((S 1092 0) - 1)) = (S 1100033 0) ∧ 0 ≤ (S 58 ((S 1092 0) - 1)) ∧ (S 58 ((S 1092 0) - 1)) ≤ 400 ∧ sm_SK (S 63) (S 64) (S 44) (S 1100007) (S 1100025) (S 1076 0) (S 1007 0) (400 * ((S 1092 0) - 1)) ((S 58 ((S 1092 0) - 1))) ((S 1100034 0)) ∧ -1 ≤ (S 1100034 0) ∧ (S 1100034 0) < (S 1046 0) ∧ (0 ≤ (S 1100034 0) → (S 26 (S 1100034 0)) = 29) ∧ (S 58 ((S 1092 0) - 1)) = (S 1100007 (S 1100033 0)) ∧ (S 1100034 0) = (S 1100025 (S 1100033 0)) ∧ (0 ≤ (S 1100023 (S 1100033 0)) → (S 1100007 (S 1100023 (S 1100033 0))) ≤ (S 58 ((S 1092 0) - 1))) ∧ (S 58 ((S 1092 0) - 1)) ≤ 396 ∧ 1 ≤ p3 ∧ p3 ≤ (S 58 ((S 1092 0) - 1)) ∧ (0 ≤ (S 1100034 0) → (S 1100007 (S 1100034 0)) ≤ (S 58 ((S 1092 0) - 1)) - p3) ∧ (S 1100033 0) + 1 < (S 1046 0) ∧ (S 29 ((S 1100033 0) + 1)) = (S 29 (S 1100033 0)) ∧ (S 1100007 ((S 1100033 0) + 1)) = (S 58 ((S 1092 0) - 1)) + 1 - p3 ∧ (S 1100023 ((S 1100033 0) + 1)) = (S 1100023 (S 1100033 0)) ∧ (S 1100025 ((S 1100033 0) + 1)) = (S 1100034 0) ∧ (0 ≤ (S 1100023 (S 1100033 0)) → (S 1100007 (S 1100023 (S 1100033 0))) ≤ (S 58 ((S 1092 0) - 1)) - p3) ∧ 0 ≤ (S 1115 0) ∧ (S 1115 0) ≤ p3 - 1 ∧ (S 1114 0) + (S 1115 0) = (400 * ((S 1092 0) - 1) + (S 58 ((S 1092 0) - 1))) ∧ (∀ g : Int, 0 ≤ g → g < (S 1032 0) → 0 ≤ (S 30 g) ∧ (S 30 g) < (S 1046 0) ∧ (S 1100007 (S 30 g)) = 0 ∧ (S 1100023 (S 30 g)) = -1 ∧ 0 ≤ (S 33 g) ∧ (S 33 g) ≤ 100 ∧ 0 ≤ (S 20 g) ∧ (S 20 g) ≤ 8) ∧ sm_VN (S 32) (S 33) (S 1032 0) (S 1008 0) ∧ (∀ f : Int, 0 ≤ f → f < (S 1032 0) → 0 ≤ (S 30 f) ∧ (S 30 f) < (S 1046 0) ∧ (S 29 (S 30 f)) = f ∧ (S 1100007 (S 30 f)) = 0 ∧ (S 1100023 (S 30 f)) = -1 ∧ (S 1100025 (S 30 f)) = -1) ∧ (S 1086 0) ≤ 1900000000 ∧ 0 ≤ (S 1107 0) ∧ (S 1107 0) ≤ 100 ∧ sm_PT (S 67) (S 1107 0) (S 1007 0) ∧ sm_VO (S 44) (S 1076 0) (S 1007 0) (p1) (p2) ∧ sm_VO (S 44) (S 1076 0) (S 1007 0) (r7) (r12) ∧ sm_FW (S 44) (S 1076 0) (-1 : Int)) ∧ (0 ≤ (2 * (4 * (S 1115 0) + (if p1 = 7 then 1 else 0) + (if r7 = 7 then 1 else 0))) ∧ (2 * (4 * (S 1115 0) + (if p1 = 7 then 1 else 0) + (if r7 = 7 then 1 else 0))) < d) ∧ (0 ≤ (2 * (4 * (S 1115 0) + (if p1 = 7 then 1 else 0) + (if r7 = 7 then 1 else 0)) + 20) ∧ (2 * (4 * (S 1115 0) + (if p1 = 7 then 1 else 0) + (if r7 = 7 then 1 else 0)) + 20) + 1 ≤ (2 * (4 * (S 1115 0) + (if p1 = 7 then 1 else 0)) + 21)) ∧ (∀ g18 : sv_S, (sm_PL (g18 1100020) (g18 51) (g18 52) (g18 46) (g18 47) (g18 1076 0) (g18 1086 0) ∧ sm_FR (g18 1100020) (g18 52) (g18 1100021) (g18 1100022) (3000 - (g18 1084 0)) (g18 1085 0) ∧ sm_PV (g18 1100020) (g18 48) (g18 49) (g18 50) (g18 44) (g18 1076 0) (g18 1007 0) ∧ sm_AL (g18 1100020) (g18 48) (g18 49) (g18 50) (g18 44) (g18 1076 0) (g18 1100032 0) ∧ sm_SV (g18 1100020) (g18 48) (g18 1100029) (S 32) (S 33) (g18 1076 0) (S 1032 0) ∧ 0 ≤ (g18 1076 0) ∧ (g18 1076 0) ≤ 300 ∧ 0 ≤ (g18 1084 0) ∧ (g18 1084 0) ≤ 3000 ∧ 0 ≤ (g18 1086 0) ∧ sm_SC (g18 1100029) (g18 44) (g18 45) (g18 43) (S 21) (g18 1076 0) (S 1032 0) ∧ sm_PO (g18 42) (g18 1076 0) ∧ ((g18 1075 0) = 0 → (g18 1100032 0) = -1 ∧ sm_FO (g18 44) (g18 45) (g18 1076 0)) ∧ 23 ≤ (g18 1076 0) ∧ 31 ≤ (g18 1007 0) ∧ (g18 1007 0) ≤ 400 ∧ sm_LN (g18 4) 400 (g18 1007 0) ∧ (S 1008 0) ≤ (g18 1007 0) ∧ ((S 1075 0) = 1 → (g18 1075 0) = 1) ∧ 0 ≤ (g18 1092 0) ∧ (g18 1092 0) ≤ 24 ∧ (S 1007 0) ≤ (g18 1007 0) ∧ (¬ (g18 1075 0) = 0 → sm_LX (g18 58) (g18 63) (g18 64) (g18 1092 0) (g18 1076 0)) ∧ ((g18 1075 0) = 0 → (g18 1073 0) = 1 → 1 ≤ (g18 1092 0) ∧ (g18 1092 0) ≤ 24 ∧ 0 ≤ (g18 57 ((g18 1092 0) - 1)) ∧ (g18 57 ((g18 1092 0) - 1)) < (S 1046 0) ∧ (S 29 (g18 57 ((g18 1092 0) - 1))) = (g18 53 ((g18 1092 0) - 1)) ∧ 0 ≤ (g18 53 ((g18 1092 0) - 1)) ∧ (g18 53 ((g18 1092 0) - 1)) < (S 1032 0) ∧ (g18 60 ((g18 1092 0) - 1)) = sm_dp (S 1100024) (S 1100023 (g18 57 ((g18 1092 0) - 1))) ∧ sm_TC (S 61) (S 62) (S 27) (S 1100007) (S 1100023) (S 1100024) (40 * ((g18 1092 0) - 1)) (S 1100023 (g18 57 ((g18 1092 0) - 1))) ∧ sm_LK (g18 1100029) (g18 1076 0) (g18 54 ((g18 1092 0) - 1)) (g18 53 ((g18 1092 0) - 1)) ∧ sm_VO (g18 44) (g18 1076 0) (g18 1007 0) ((g18 55 ((g18 1092 0) - 1))) ((g18 56 ((g18 1092 0) - 1))) ∧ sm_FW (g18 44) (g18 1076 0) (g18 59 ((g18 1092 0) - 1)) ∧ sm_FL (g18 53) (g18 54) (g18 55) (g18 56) (g18 57) (g18 58) (g18 59) (g18 60) (S 61) (S 62) (g18 63) (g18 64) (S 27) (S 29) (S 1100007) (S 1100023) (S 1100024) (S 1100025) (S 26) (g18 1100029) (g18 44) (S 1046 0) (S 1032 0) (g18 1076 0) (g18 1007 0) (((g18 1092 0) - 1)) ∧ (g18 58 ((g18 1092 0) - 1)) = (S 1100007 (g18 57 ((g18 1092 0) - 1))) ∧ sm_SK (g18 63) (g18 64) (g18 44) (S 1100007) (S 1100025) (g18 1076 0) (g18 1007 0) (400 * ((g18 1092 0) - 1)) ((g18 58 ((g18 1092 0) - 1))) ((S 1100025 (g18 57 ((g18 1092 0) - 1))))) ∧ ((g18 1073 0) = 1 ∨ (g18 1092 0) = 0 ∧ (g18 1075 0) = 0 ∧ ((g18 1073 0) = 2 ∨ (g18 1073 0) = 3)) ∧ (S 1086 0) ≤ (g18 1086 0) ∧ (g18 1086 0) ≤ (S 1086 0) + 110 ∧ 0 ≤ (g18 1107 0) ∧ (g18 1107 0) ≤ 100 ∧ sm_PT (g18 67) (g18 1107 0) (g18 1007 0)) → (sm_PL (g18 1100020) (g18 51) (g18 52) (g18 46) (g18 47) (g18 1076 0) (g18 1086 0) ∧ sm_FR (g18 1100020) (g18 52) (g18 1100021) (g18 1100022) (3000 - (g18 1084 0)) (g18 1085 0) ∧ sm_PV (g18 1100020) (g18 48) (g18 49) (g18 50) (g18 44) (g18 1076 0) (g18 1007 0) ∧ sm_AL (g18 1100020) (g18 48) (g18 49) (g18 50) (g18 44) (g18 1076 0) (g18 1100032 0) ∧ sm_SV (g18 1100020) (g18 48) (g18 1100029) (S 32) (S 33) (g18 1076 0) (S 1032 0) ∧ 0 ≤ (g18 1076 0) ∧ (g18 1076 0) ≤ 300 ∧ 0 ≤ (g18 1084 0) ∧ (g18 1084 0) ≤ 3000 ∧ 0 ≤ (g18 1086 0) ∧ sm_SC (g18 1100029) (g18 44) (g18 45) (g18 43) (S 21) (g18 1076 0) (S 1032 0) ∧ sm_PO (g18 42) (g18 1076 0) ∧ ((g18 1075 0) = 0 → (g18 1100032 0) = -1 ∧ sm_FO (g18 44) (g18 45) (g18 1076 0)) ∧ 23 ≤ (g18 1076 0) ∧ 31 ≤ (g18 1007 0) ∧ (g18 1007 0) ≤ 400 ∧ sm_LN (g18 4) 400 (g18 1007 0) ∧ (S 1008 0) ≤ (g18 1007 0) ∧ ((S 1075 0) = 1 → (g18 1075 0) = 1) ∧ 0 ≤ (g18 1092 0) ∧ (g18 1092 0) ≤ 24 ∧ (S 1007 0) ≤ (g18 1007 0) ∧ (¬ (g18 1075 0) = 0 → sm_LX (g18 58) (g18 63) (g18 64) (g18 1092 0) (g18 1076 0)) ∧ ((g18 1075 0) = 0 → (g18 1073 0) = 1 → 1 ≤ (g18 1092 0) ∧ (g18 1092 0) ≤ 24 ∧ 0 ≤ (g18 57 ((g18 1092 0) - 1)) ∧ (g18 57 ((g18 1092 0) - 1)) < (S 1046 0) ∧ (S 29 (g18 57 ((g18 1092 0) - 1))) = (g18 53 ((g18 1092 0) - 1)) ∧ 0 ≤ (g18 53 ((g18 1092 0) - 1)) ∧ (g18 53 ((g18 1092 0) - 1)) < (S 1032 0) ∧ (g18 60 ((g18 1092 0) - 1)) = sm_dp (S 1100024) (S 1100023 (g18 57 ((g18 1092 0) - 1))) ∧ sm_TC (S 61) (S 62) (S 27) (S 1100007) (S 1100023) (S 1100024) (40 * ((g18 1092 0) - 1)) (S 1100023 (g18 57 ((g18 1092 0) - 1))) ∧ sm_LK (g18 1100029) (g18 1076 0) (g18 54 ((g18 1092 0) - 1)) (g18 53 ((g18 1092 0) - 1)) ∧ sm_VO (g18 44) (g18 1076 0) (g18 1007 0) ((g18 55 ((g18 1092 0) - 1))) ((g18 56 ((g18 1092 0) - 1))) ∧ sm_FW (g18 44) (g18 1076 0) (g18 59 ((g18 1092 0) - 1)) ∧ sm_FL (g18 53) (g18 54) (g18 55) (g18 56) (g18 57) (g18 58) (g18 59) (g18 60) (S 61) (S 62) (g18 63) (g18 64) (S 27) (S 29) (S 1100007) (S 1100023) (S 1100024) (S 1100025) (S 26) (g18 1100029) (g18 44) (S 1046 0) (S 1032 0) (g18 1076 0) (g18 1007 0) (((g18 1092 0) - 1)) ∧ (g18 58 ((g18 1092 0) - 1)) = (S 1100007 (g18 57 ((g18 1092 0) - 1))) ∧ sm_SK (g18 63) (g18 64) (g18 44) (S 1100007) (S 1100025) (g18 1076 0) (g18 1007 0) (400 * ((g18 1092 0) - 1)) ((g18 58 ((g18 1092 0) - 1))) ((S 1100025 (g18 57 ((g18 1092 0) - 1))))) ∧ ((g18 1073 0) = 1 ∨ (g18 1092 0) = 0 ∧ (g18 1075 0) = 0 ∧ ((g18 1073 0) = 2 ∨ (g18 1073 0) = 3)) ∧ (S 1086 0) ≤ (g18 1086 0) ∧ (g18 1086 0) ≤ (S 1086 0) + 110 ∧ 0 ≤ (g18 1107 0) ∧ (g18 1107 0) ≤ 100 ∧ sm_PT (g18 67) (g18 1107 0) (g18 1007 0)))) ∧ ((¬ ((S 1115 0) ≤ (0 : Int))) → (sv_R (S 1114 0) → (sv_R ((S 1114 0) + (1 : Int))) ∧ (sv_R ((S 1115 0) - (1 : Int))) ∧ ((S 1075 0) = 0 ∧ (S 1073 0) = 1 ∧ sm_LX (S 58) (S 63) (S 64) (S 1092 0) (S 1076 0) ∧ sm_PL (S 1100020) (S 51) (S 52) (S 46) (S 47) (S 1076 0) (S 1086 0) ∧ sm_FR (S 1100020) (S 52) (S 1100021) (S 1100022) (3000 - (S 1084 0)) (S 1085 0) ∧ sm_PV (S 1100020) (S 48) (S 49) (S 50) (S 44) (S 1076 0) (S 1007 0) ∧ sm_AL (S 1100020) (S 48) (S 49) (S 50) (S 44) (S 1076 0) (S 1100032 0) ∧ sm_SV (S 1100020) (S 48) (S 1100029) (S 32) (S 33) (S 1076 0) (S 1032 0) ∧ 0 ≤ (S 1076 0) ∧ (S 1076 0) ≤ 300 ∧ 0 ≤ (S 1084 0) ∧ (S 1084 0) ≤ 3000 ∧ 0 ≤ (S 1086 0) ∧ sm_SC (S 1100029) (S 44) (S 45) (S 43) (S 21) (S 1076 0) (S 1032 0) ∧ sm_PO (S 42) (S 1076 0) ∧ (S 1100032 0) = -1 ∧ sm_FO (S 44) (S 45) (S 1076 0) ∧ 23 ≤ (S 1076 0) ∧ 31 ≤ (S 1007 0) ∧ (S 1007 0) ≤ 400 ∧ sm_LN (S 4) 400 (S 1007 0) ∧ sm_CT (S 26) (S 27) (S 28) (S 29) (S 1100007) (S 1100023) (S 1100024) (S 1100025) (S 21) (S 1046 0) (S 1032 0) (S 1008 0) (S 1055 0) ∧ sm_LS (S 26) (S 1100007) (S 1100025) (S 1046 0) ∧ sm_CL (S 1100007) (S 1100023) (S 1100025) (S 1046 0) ∧ 1 ≤ (S 1032 0) ∧ (S 1032 0) ≤ 11 ∧ 0 ≤ (S 1046 0) ∧ (S 1046 0) ≤ 600 ∧ 31 ≤ (S 1008 0) ∧ (S 1008 0) ≤ (S 1007 0) ∧ 0 ≤ (S 1055 0) ∧ (S 1055 0) ≤ 19 ∧ 1 ≤ (S 1092 0) ∧ (S 1092 0) ≤ 24 ∧ 0 ≤ (S 1100033 0) ∧ (S 1100033 0) < (S 1046 0) ∧ (S 29 (S 1100033 0)) = (S 53 ((S 1092 0) - 1)) ∧ 0 ≤ (S 53 ((S 1092 0) - 1)) ∧ (S 53 ((S 1092 0) - 1)) < (S 1032 0) ∧ (S 60 ((S 1092 0) - 1)) = sm_dp (S 1100024) (S 1100023 (S 1100033 0)) ∧ sm_TC (S 61) (S 62) (S 27) (S 1100007) (S 1100023) (S 1100024) (40 * ((S 1092 0) - 1)) (S 1100023 (S 1100033 0)) ∧ sm_LK (S 1100029) (S 1076 0) (S 54 ((S 1092 0) - 1)) (S 53 ((S 1092 0) - 1)) ∧ sm_VO (S 44) (S 1076 0) (S 1007 0) ((S 55 ((S 1092 0) - 1))) ((S 56 ((S 1092 0) - 1))) ∧ sm_FW (S 44) (S 1076 0) (S 59 ((S 1092 0) - 1)) ∧ sm_FL (S 53) (S 54) (S 55) (S 56) (S 57) (S 58) (S 59) (S 60) (S 61) (S 62) (S 63) (S 64) (S 27) (S 29) (S 1100007) (S 1100023) (S 1100024) (S 1100025) (S 26) (S 1100029) (S 44) (S 1046 0) (S 1032 0) (S 1076 0) (S 1007 0) (((S 1092 0) - 1)) ∧ (S 57 ((S 1092 0) - 1)) = (S 1100033 0) ∧ 0 ≤ (S 58 ((S 1092 0) - 1)) ∧ (S 58 ((S 1092 0) - 1)) ≤ 400 ∧ sm_SK (S 63) (S 64) (S 44) (S 1100007) (S 1100025) (S 1076 0) (S 1007 0) (400 * ((S 1092 0) - 1)) ((S 58 ((S 1092 0) - 1))) ((S 1100034 0)) ∧ -1 ≤ (S 1100034 0) ∧ (S 1100034 0) < (S 1046 0) ∧ (0 ≤ (S 1100034 0) → (S 26 (S 1100034 0)) = 29) ∧ (S 58 ((S 1092 0) - 1)) = (S 1100007 (S 1100033 0)) ∧ (S 1100034 0) = (S 1100025 (S 1100033 0)) ∧ (0 ≤ (S 1100023 (S 1100033 0)) → (S 1100007 (S 1100023 (S 1100033 0))) ≤ (S 58 ((S 1092 0) - 1))) ∧ (S 58 ((S 1092 0) - 1)) ≤ 396 ∧ 1 ≤ p3 ∧ p3 ≤ (S 58 ((S 1092 0) - 1)) ∧ (0 ≤ (S 1100034 0) → (S 1100007 (S 1100034 0)) ≤ (S 58 ((S 1092 0) - 1)) - p3) ∧ (S 1100033 0) + 1 < (S 1046 0) ∧ (S 29 ((S 1100033 0) + 1)) = (S 29 (S 1100033 0)) ∧ (S 1100007 ((S 1100033 0) + 1)) = (S 58 ((S 1092 0) - 1)) + 1 - p3 ∧ (S 1100023 ((S 1100033 0) + 1)) = (S 1100023 (S 1100033 0)) ∧ (S 1100025 ((S 1100033 0) + 1)) = (S 1100034 0) ∧ (0 ≤ (S 1100023 (S 1100033 0)) → (S 1100007 (S 1100023 (S 1100033 0))) ≤ (S 58 ((S 1092 0) - 1)) - p3) ∧ 0 ≤ ((S 1115 0) - (1 : Int)) ∧ ((S 1115 0) - (1 : Int)) ≤ p3 - 1 ∧ ((S 1114 0) + (1 : Int)) + ((S 1115 0) - (1 : Int)) = (400 * ((S 1092 0) - 1) + (S 58 ((S 1092 0) - 1))) ∧ (∀ g : Int, 0 ≤ g → g < (S 1032 0) → 0 ≤ (S 30 g) ∧ (S 30 g) < (S 1046 0) ∧ (S 1100007 (S 30 g)) = 0 ∧ (S 1100023 (S 30 g)) = -1 ∧ 0 ≤ (S 33 g) ∧ (S 33 g) ≤ 100 ∧ 0 ≤ (S 20 g) ∧ (S 20 g) ≤ 8) ∧ sm_VN (S 32) (S 33) (S 1032 0) (S 1008 0) ∧ (∀ f : Int, 0 ≤ f → f < (S 1032 0) → 0 ≤ (S 30 f) ∧ (S 30 f) < (S 1046 0) ∧ (S 29 (S 30 f)) = f ∧ (S 1100007 (S 30 f)) = 0 ∧ (S 1100023 (S 30 f)) = -1 ∧ (S 1100025 (S 30 f)) = -1) ∧ (S 1086 0) ≤ 1900000000 ∧ 0 ≤ (S 1107 0) ∧ (S 1107 0) ≤ 100 ∧ sm_PT (S 67) (S 1107 0) (S 1007 0) ∧ sm_VO (S 44) (S 1076 0) (S 1007 0) (p1) (p2) ∧ sm_VO (S 44) (S 1076 0) (S 1007 0) (r7) (r12) ∧ sm_FW (S 44) (S 1076 0) (-1 : Int)) ∧ (0 ≤ (2 * (4 * ((S 1115 0) - (1 : Int)) + (if p1 = 7 then 1 else 0) + (if r7 = 7 then 1 else 0))) ∧ (2 * (4 * ((S 1115 0) - (1 : Int)) + (if p1 = 7 then 1 else 0) + (if r7 = 7 then 1 else 0))) < d) ∧ (0 ≤ (2 * (4 * ((S 1115 0) - (1 : Int)) + (if p1 = 7 then 1 else 0) + (if r7 = 7 then 1 else 0)) + 20) ∧ (2 * (4 * ((S 1115 0) - (1 : Int)) + (if p1 = 7 then 1 else 0) + (if r7 = 7 then 1 else 0)) + 20) + 1 ≤ (2 * (4 * (S 1115 0) + (if p1 = 7 then 1 else 0)) + 21)) ∧ (∀ g33 : sv_S, (sm_PL (g33 1100020) (g33 51) (g33 52) (g33 46) (g33 47) (g33 1076 0) (g33 1086 0) ∧ sm_FR (g33 1100020) (g33 52) (g33 1100021) (g33 1100022) (3000 - (g33 1084 0)) (g33 1085 0) ∧ sm_PV (g33 1100020) (g33 48) (g33 49) (g33 50) (g33 44) (g33 1076 0) (g33 1007 0) ∧ sm_AL (g33 1100020) (g33 48) (g33 49) (g33 50) (g33 44) (g33 1076 0) (g33 1100032 0) ∧ sm_SV (g33 1100020) (g33 48) (g33 1100029) (S 32) (S 33) (g33 1076 0) (S 1032 0) ∧ 0 ≤ (g33 1076 0) ∧ (g33 1076 0) ≤ 300 ∧ 0 ≤ (g33 1084 0) ∧ (g33 1084 0) ≤ 3000 ∧ 0 ≤ (g33 1086 0) ∧ sm_SC (g33 1100029) (g33 44) (g33 45) (g33 43) (S 21) (g33 1076 0) (S 1032 0) ∧ sm_PO (g33 42) (g33 1076 0) ∧ ((g33 1075 0) = 0 → (g33 1100032 0) = -1 ∧ sm_FO (g33 44) (g33 45) (g33 1076 0)) ∧ 23 ≤ (g33 1076 0) ∧ 31 ≤ (g33 1007 0) ∧ (g33 1007 0) ≤ 400 ∧ sm_LN (g33 4) 400 (g33 1007 0) ∧ (S 1008 0) ≤ (g33 1007 0) ∧ ((S 1075 0) = 1 → (g33 1075 0) = 1) ∧ 0 ≤ (g33 1092 0) ∧ (g33 1092 0) ≤ 24 ∧ (S 1007 0) ≤ (g33 1007 0) ∧ (¬ (g33 1075 0) = 0 → sm_LX (g33 58) (g33 63) (g33 64) (g33 1092 0) (g33 1076 0)) ∧ ((g33 1075 0) = 0 → (g33 1073 0) = 1 → 1 ≤ (g33 1092 0) ∧ (g33 1092 0) ≤ 24 ∧ 0 ≤ (g33 57 ((g33 1092 0) - 1)) ∧ (g33 57 ((g33 1092 0) - 1)) < (S 1046 0) ∧ (S 29 (g33 57 ((g33 1092 0) - 1))) = (g33 53 ((g33 1092 0) - 1)) ∧ 0 ≤ (g33 53 ((g33 1092 0) - 1)) ∧ (g33 53 ((g33 1092 0) - 1)) < (S 1032 0) ∧ (g33 60 ((g33 1092 0) - 1)) = sm_dp (S 1100024) (S 1100023 (g33 57 ((g33 1092 0) - 1))) ∧ sm_TC (S 61) (S 62) (S 27) (S 1100007) (S 1100023) (S 1100024) (40 * ((g33 1092 0) - 1)) (S 1100023 (g33 57 ((g33 1092 0) - 1))) ∧ sm_LK (g33 1100029) (g33 1076 0) (g33 54 ((g33 1092 0) - 1)) (g33 53 ((g33 1092 0) - 1)) ∧ sm_VO (g33 44) (g33 1076 0) (g33 1007 0) ((g33 55 ((g33 1092 0) - 1))) ((g33 56 ((g33 1092 0) - 1))) ∧ sm_FW (g33 44) (g33 1076 0) (g33 59 ((g33 1092 0) - 1)) ∧ sm_FL (g33 53) (g33 54) (g33 55) (g33 56) (g33 57) (g33 58) (g33 59) (g33 60) (S 61) (S 62) (g33 63) (g33 64) (S 27) (S 29) (S 1100007) (S 1100023) (S 1100024) (S 1100025) (S 26) (g33 1100029) (g33 44) (S 1046 0) (S 1032 0) (g33 1076 0) (g33 1007 0) (((g33 1092 0) - 1)) ∧ (g33 58 ((g33 1092 0) - 1)) = (S 1100007 (g33 57 ((g33 1092 0) - 1))) ∧ sm_SK (g33 63) (g33 64) (g33 44) (S 1100007) (S 1100025) (g33 1076 0) (g33 1007 0) (400 * ((g33 1092 0) - 1)) ((g33 58 ((g33 1092 0) - 1))) ((S 1100025 (g33 57 ((g33 1092 0) - 1))))) ∧ ((g33 1073 0) = 1 ∨ (g33 1092 0) = 0 ∧ (g33 1075 0) = 0 ∧ ((g33 1073 0) = 2 ∨ (g33 1073 0) = 3)) ∧ (S 1086 0) ≤ (g33 1086 0) ∧ (g33 1086 0) ≤ (S 1086 0) + 110 ∧ 0 ≤ (g33 1107 0) ∧ (g33 1107 0) ≤ 100 ∧ sm_PT (g33 67) (g33 1107 0) (g33 1007 0)) → (sm_PL (g33 1100020) (g33 51) (g33 52) (g33 46) (g33 47) (g33 1076 0) (g33 1086 0) ∧ sm_FR (g33 1100020) (g33 52) (g33 1100021) (g33 1100022) (3000 - (g33 1084 0)) (g33 1085 0) ∧ sm_PV (g33 1100020) (g33 48) (g33 49) (g33 50) (g33 44) (g33 1076 0) (g33 1007 0) ∧ sm_AL (g33 1100020) (g33 48) (g33 49) (g33 50) (g33 44) (g33 1076 0) (g33 1100032 0) ∧ sm_SV (g33 1100020) (g33 48) (g33 1100029) (S 32) (S 33) (g33 1076 0) (S 1032 0) ∧ 0 ≤ (g33 1076 0) ∧ (g33 1076 0) ≤ 300 ∧ 0 ≤ (g33 1084 0) ∧ (g33 1084 0) ≤ 3000 ∧ 0 ≤ (g33 1086 0) ∧ sm_SC (g33 1100029) (g33 44) (g33 45) (g33 43) (S 21) (g33 1076 0) (S 1032 0) ∧ sm_PO (g33 42) (g33 1076 0) ∧ ((g33 1075 0) = 0 → (g33 1100032 0) = -1 ∧ sm_FO (g33 44) (g33 45) (g33 1076 0)) ∧ 23 ≤ (g33 1076 0) ∧ 31 ≤ (g33 1007 0) ∧ (g33 1007 0) ≤ 400 ∧ sm_LN (g33 4) 400 (g33 1007 0) ∧ (S 1008 0) ≤ (g33 1007 0) ∧ ((S 1075 0) = 1 → (g33 1075 0) = 1) ∧ 0 ≤ (g33 1092 0) ∧ (g33 1092 0) ≤ 24 ∧ (S 1007 0) ≤ (g33 1007 0) ∧ (¬ (g33 1075 0) = 0 → sm_LX (g33 58) (g33 63) (g33 64) (g33 1092 0) (g33 1076 0)) ∧ ((g33 1075 0) = 0 → (g33 1073 0) = 1 → 1 ≤ (g33 1092 0) ∧ (g33 1092 0) ≤ 24 ∧ 0 ≤ (g33 57 ((g33 1092 0) - 1)) ∧ (g33 57 ((g33 1092 0) - 1)) < (S 1046 0) ∧ (S 29 (g33 57 ((g33 1092 0) - 1))) = (g33 53 ((g33 1092 0) - 1)) ∧ 0 ≤ (g33 53 ((g33 1092 0) - 1)) ∧ (g33 53 ((g33 1092 0) - 1)) < (S 1032 0) ∧ (g33 60 ((g33 1092 0) - 1)) = sm_dp (S 1100024) (S 1100023 (g33 57 ((g33 1092 0) - 1))) ∧ sm_TC (S 61) (S 62) (S 27) (S 1100007) (S 1100023) (S 1100024) (40 * ((g33 1092 0) - 1)) (S 1100023 (g33 57 ((g33 1092 0) - 1))) ∧ sm_LK (g33 1100029) (g33 1076 0) (g33 54 ((g33 1092 0) - 1)) (g33 53 ((g33 1092 0) - 1)) ∧ sm_VO (g33 44) (g33 1076 0) (g33 1007 0) ((g33 55 ((g33 1092 0) - 1))) ((g33 56 ((g33 1092 0) - 1))) ∧ sm_FW (g33 44) (g33 1076 0) (g33 59 ((g33 1092 0) - 1)) ∧ sm_FL (g33 53) (g33 54) (g33 55) (g33 56) (g33 57) (g33 58) (g33 59) (g33 60) (S 61) (S 62) (g33 63) (g33 64) (S 27) (S 29) (S 1100007) (S 1100023) (S 1100024) (S 1100025) (S 26) (g33 1100029) (g33 44) (S 1046 0) (S 1032 0) (g33 1076 0) (g33 1007 0) (((g33 1092 0) - 1)) ∧ (g33 58 ((g33 1092 0) - 1)) = (S 1100007 (g33 57 ((g33 1092 0) - 1))) ∧ sm_SK (g33 63) (g33 64) (g33 44) (S 1100007) (S 1100025) (g33 1076 0) (g33 1007 0) (400 * ((g33 1092 0) - 1)) ((g33 58 ((g33 1092 0) - 1))) ((S 1100025 (g33 57 ((g33 1092 0) - 1))))) ∧ ((g33 1073 0) = 1 ∨ (g33 1092 0) = 0 ∧ (g33 1075 0) = 0 ∧ ((g33 1073 0) = 2 ∨ (g33 1073 0) = 3)) ∧ (S 1086 0) ≤ (g33 1086 0) ∧ (g33 1086 0) ≤ (S 1086 0) + 110 ∧ 0 ≤ (g33 1107 0) ∧ (g33 1107 0) ≤ 100 ∧ sm_PT (g33 67) (g33 1107 0) (g33 1007 0)))))))))) := by
  intro d
  intro p1
  intro p2
  intro p3
  intro S
  intro h1_
  intro h2_
  intro h3_
  intro h4_
  rintro ⟨h5_, ⟨h6_, ⟨h7_, ⟨h8_, ⟨h9_, ⟨h10_, ⟨h11_, ⟨h12_, ⟨h13_, ⟨h14_, ⟨h15_, ⟨h16_, ⟨h17_, ⟨h18_, ⟨h19_, ⟨h20_, ⟨h21_, ⟨h22_, ⟨h23_, ⟨h24_, ⟨h25_, ⟨h26_, ⟨h27_, ⟨h28_, ⟨h29_, ⟨h30_, ⟨h31_, ⟨h32_, ⟨h33_, ⟨h34_, ⟨h35_, ⟨h36_, ⟨h37_, ⟨h38_, ⟨h39_, ⟨h40_, ⟨h41_, ⟨h42_, ⟨h43_, ⟨h44_, ⟨h45_, ⟨h46_, ⟨h47_, ⟨h48_, ⟨h49_, ⟨h50_, ⟨h51_, ⟨h52_, ⟨h53_, ⟨h54_, ⟨h55_, ⟨h56_, ⟨h57_, ⟨h58_, ⟨h59_, ⟨h60_, ⟨h61_, ⟨h62_, ⟨h63_, ⟨h64_, ⟨h65_, ⟨h66_, ⟨h67_, ⟨h68_, ⟨h69_, ⟨h70_, ⟨h71_, ⟨h72_, ⟨h73_, ⟨h74_, ⟨h75_, ⟨h76_, ⟨h77_, ⟨h78_, ⟨h79_, h80_⟩⟩⟩⟩⟩⟩⟩⟩⟩⟩⟩⟩⟩⟩⟩⟩⟩⟩⟩⟩⟩⟩⟩⟩⟩⟩⟩⟩⟩⟩⟩⟩⟩⟩⟩⟩⟩⟩⟩⟩⟩⟩⟩⟩⟩⟩⟩⟩⟩⟩⟩⟩⟩⟩⟩⟩⟩⟩⟩⟩⟩⟩⟩⟩⟩⟩⟩⟩⟩⟩⟩⟩⟩⟩⟩
  intro h81_
  refine ⟨(la_callAgain_0 h37_ h38_ h60_ h62_ h71_ h72_), ?_⟩
  refine ⟨(la_callAgain_1 h70_ (sv_i01 (p := p1 = 7)).1), ?_⟩
  intro r7
  intro h82_
  rintro ⟨h83_, h84_⟩
  intro r12
  intro h85_
  rintro ⟨h86_, h87_⟩
  intro h88_
  have h89_ := (h88_ h53_)
  have h90_ := (h89_ h27_)
  have h91_ := (h90_ h72_)
  have h92_ := (h91_ la_callAgain_2)
  have h93_ := (h92_ h71_)
  have h94_ := (h93_ h62_)
  have h95_ := (h94_ h55_)
  have h96_ := (h95_ h56_)
  have h97_ := (h96_ h63_)
  have h98_ := (h97_ h83_)
  have h99_ := (h98_ h84_)
  have h100_ := (h99_ h86_)
  have h101_ := (h100_ h87_)
  intro h102_
  refine ⟨?_, ?_⟩
  · skip
    intro h103_
    have h104_ := (h84_ (la_callAgain_3 h103_))
    have h105_ := (h87_ (la_callAgain_3 h103_))
    refine ⟨⟨h5_, ⟨h6_, ⟨h7_, ⟨h8_, ⟨h9_, ⟨h10_, ⟨h11_, ⟨h12_, ⟨h13_, ⟨h14_, ⟨h15_, ⟨h16_, ⟨h17_, ⟨h18_, ⟨h19_, ⟨h20_, ⟨h21_, ⟨h22_, ⟨h23_, ⟨h24_, ⟨h25_, ⟨h26_, ⟨h27_, ⟨h28_, ⟨h29_, ⟨h30_, ⟨h31_, ⟨h32_, ⟨h33_, ⟨h34_, ⟨h35_, ⟨h36_, ⟨h37_, ⟨h38_, ⟨h39_, ⟨h40_, ⟨h41_, ⟨h42_, ⟨h43_, ⟨h44_, ⟨h45_, ⟨h46_, ⟨h47_, ⟨h48_, ⟨h49_, ⟨h50_, ⟨h51_, ⟨h52_, ⟨h53_, ⟨h54_, ⟨h55_, ⟨h56_, ⟨h57_, ⟨h58_, ⟨h59_, ⟨h60_, ⟨h61_, ⟨h62_, ⟨h63_, ⟨h64_, ⟨h65_, ⟨h66_, ⟨h67_, ⟨h68_, ⟨h69_, ⟨h70_, ⟨h71_, ⟨h72_, ⟨h73_, ⟨h74_, ⟨h75_, ⟨h76_, ⟨h77_, ⟨h78_, ⟨h79_, ⟨h80_, ⟨h101_, (Or.inl la_callAgain_6)⟩⟩⟩⟩⟩⟩⟩⟩⟩⟩⟩⟩⟩⟩⟩⟩⟩⟩⟩⟩⟩⟩⟩⟩⟩⟩⟩⟩⟩⟩⟩⟩⟩⟩⟩⟩⟩⟩⟩⟩⟩⟩⟩⟩⟩⟩⟩⟩⟩⟩⟩⟩⟩⟩⟩⟩⟩⟩⟩⟩⟩⟩⟩⟩⟩⟩⟩⟩⟩⟩⟩⟩⟩⟩⟩⟩⟩, ?_⟩
    refine ⟨?_, ?_⟩
    · skip
      refine ⟨?_, ?_⟩
      · skip
        have e106_ : (if r7 = 7 then 1 else 0 : Int) = 0 := if_neg (la_callAgain_5 h104_)
        exact (la_callAgain_7 h70_ (sv_i01 (p := p1 = 7)).1 e106_)
      have e107_ : (if r7 = 7 then 1 else 0 : Int) = 0 := if_neg (la_callAgain_5 h104_)
      exact (la_callAgain_8 h81_ e107_)
    refine ⟨?_, ?_⟩
    · skip
      refine ⟨?_, ?_⟩
      · skip
        have e108_ : (if r7 = 7 then 1 else 0 : Int) = 0 := if_neg (la_callAgain_5 h104_)
        exact (la_callAgain_9 h70_ (sv_i01 (p := p1 = 7)).1 (sv_i01 (p := r7 = 7)).1)
      have e109_ : (if r7 = 7 then 1 else 0 : Int) = 0 := if_neg (la_callAgain_5 h104_)
      exact (la_callAgain_10 e109_)
    intro g18
    rintro ⟨h110_, ⟨h111_, ⟨h112_, ⟨h113_, ⟨h114_, ⟨h115_, ⟨h116_, ⟨h117_, ⟨h118_, ⟨h119_, ⟨h120_, ⟨h121_, ⟨h122_, ⟨h123_, ⟨h124_, ⟨h125_, ⟨h126_, ⟨h127_, ⟨h128_, ⟨h129_, ⟨h130_, ⟨h131_, ⟨h132_, ⟨h133_, ⟨h134_, ⟨h135_, ⟨h136_, ⟨h137_, ⟨h138_, h139_⟩⟩⟩⟩⟩⟩⟩⟩⟩⟩⟩⟩⟩⟩⟩⟩⟩⟩⟩⟩⟩⟩⟩⟩⟩⟩⟩⟩⟩
    refine ⟨h110_, ?_⟩
    refine ⟨h111_, ?_⟩
    refine ⟨h112_, ?_⟩
    refine ⟨h113_, ?_⟩
    refine ⟨h114_, ?_⟩
    refine ⟨h115_, ?_⟩
    refine ⟨h116_, ?_⟩
    refine ⟨h117_, ?_⟩
    refine ⟨h118_, ?_⟩
    refine ⟨h119_, ?_⟩
    refine ⟨h120_, ?_⟩
    refine ⟨h121_, ?_⟩
    refine ⟨h122_, ?_⟩
    refine ⟨h123_, ?_⟩
    refine ⟨h124_, ?_⟩
    refine ⟨h125_, ?_⟩
    refine ⟨h126_, ?_⟩
    refine ⟨h127_, ?_⟩
    refine ⟨h128_, ?_⟩
    refine ⟨h129_, ?_⟩
    refine ⟨h130_, ?_⟩
    refine ⟨h131_, ?_⟩
    refine ⟨h132_, ?_⟩
    refine ⟨h133_, ?_⟩
    refine ⟨h134_, ?_⟩
    refine ⟨h135_, ?_⟩
    refine ⟨h136_, ?_⟩
    refine ⟨h137_, ?_⟩
    refine ⟨h138_, ?_⟩
    exact h139_
  intro h140_
  have h141_ := (h83_ (la_callAgain_12 h140_))
  have h142_ := (h86_ (la_callAgain_12 h140_))
  intro h143_
  refine ⟨(la_callAgain_14 h37_ h38_ h60_ h62_ h71_ h72_ h140_), ?_⟩
  refine ⟨(la_callAgain_15 h60_ h62_ h71_ h140_), ?_⟩
  refine ⟨⟨h5_, ⟨h6_, ⟨h7_, ⟨h8_, ⟨h9_, ⟨h10_, ⟨h11_, ⟨h12_, ⟨h13_, ⟨h14_, ⟨h15_, ⟨h16_, ⟨h17_, ⟨h18_, ⟨h19_, ⟨h20_, ⟨h21_, ⟨h22_, ⟨h23_, ⟨h24_, ⟨h25_, ⟨h26_, ⟨h27_, ⟨h28_, ⟨h29_, ⟨h30_, ⟨h31_, ⟨h32_, ⟨h33_, ⟨h34_, ⟨h35_, ⟨h36_, ⟨h37_, ⟨h38_, ⟨h39_, ⟨h40_, ⟨h41_, ⟨h42_, ⟨h43_, ⟨h44_, ⟨h45_, ⟨h46_, ⟨h47_, ⟨h48_, ⟨h49_, ⟨h50_, ⟨h51_, ⟨h52_, ⟨h53_, ⟨h54_, ⟨h55_, ⟨h56_, ⟨h57_, ⟨h58_, ⟨h59_, ⟨h60_, ⟨h61_, ⟨h62_, ⟨h63_, ⟨h64_, ⟨h65_, ⟨h66_, ⟨h67_, ⟨h68_, ⟨h69_, ⟨(la_callAgain_16 h140_), ⟨(la_callAgain_17 h71_), ⟨(la_callAgain_18 h72_), ⟨h73_, ⟨h74_, ⟨h75_, ⟨h76_, ⟨h77_, ⟨h78_, ⟨h79_, ⟨h80_, ⟨h101_, (Or.inl la_callAgain_6)⟩⟩⟩⟩⟩⟩⟩⟩⟩⟩⟩⟩⟩⟩⟩⟩⟩⟩⟩⟩⟩⟩⟩⟩⟩⟩⟩⟩⟩⟩⟩⟩⟩⟩⟩⟩⟩⟩⟩⟩⟩⟩⟩⟩⟩⟩⟩⟩⟩⟩⟩⟩⟩⟩⟩⟩⟩⟩⟩⟩⟩⟩⟩⟩⟩⟩⟩⟩⟩⟩⟩⟩⟩⟩⟩⟩⟩, ?_⟩
  refine ⟨?_, ?_⟩
  · skip
    refine ⟨?_, ?_⟩
    · skip
      exact (la_callAgain_19 (sv_i01 (p := p1 = 7)).1 h140_ (sv_i01 (p := r7 = 7)).1)
    exact (la_callAgain_20 h81_ (sv_i01 (p := r7 = 7)).2)
  refine ⟨?_, ?_⟩
  · skip
    refine ⟨?_, ?_⟩
    · skip
      exact (la_callAgain_21 (sv_i01 (p := p1 = 7)).1 h140_ (sv_i01 (p := r7 = 7)).1)
    exact (la_callAgain_22 (sv_i01 (p := r7 = 7)).2)
  intro g33
  rintro ⟨h144_, ⟨h145_, ⟨h146_, ⟨h147_, ⟨h148_, ⟨h149_, ⟨h150_, ⟨h151_, ⟨h152_, ⟨h153_, ⟨h154_, ⟨h155_, ⟨h156_, ⟨h157_, ⟨h158_, ⟨h159_, ⟨h160_, ⟨h161_, ⟨h162_, ⟨h163_, ⟨h164_, ⟨h165_, ⟨h166_, ⟨h167_, ⟨h168_, ⟨h169_, ⟨h170_, ⟨h171_, ⟨h172_, h173_⟩⟩⟩⟩⟩⟩⟩⟩⟩⟩⟩⟩⟩⟩⟩⟩⟩⟩⟩⟩⟩⟩⟩⟩⟩⟩⟩⟩⟩
  refine ⟨h144_, ?_⟩
  refine ⟨h145_, ?_⟩
  refine ⟨h146_, ?_⟩
  refine ⟨h147_, ?_⟩
  refine ⟨h148_, ?_⟩
  refine ⟨h149_, ?_⟩
  refine ⟨h150_, ?_⟩
  refine ⟨h151_, ?_⟩
  refine ⟨h152_, ?_⟩
  refine ⟨h153_, ?_⟩
  refine ⟨h154_, ?_⟩
  refine ⟨h155_, ?_⟩
  refine ⟨h156_, ?_⟩
  refine ⟨h157_, ?_⟩
  refine ⟨h158_, ?_⟩
  refine ⟨h159_, ?_⟩
  refine ⟨h160_, ?_⟩
  refine ⟨h161_, ?_⟩
  refine ⟨h162_, ?_⟩
  refine ⟨h163_, ?_⟩
  refine ⟨h164_, ?_⟩
  refine ⟨h165_, ?_⟩
  refine ⟨h166_, ?_⟩
  refine ⟨h167_, ?_⟩
  refine ⟨h168_, ?_⟩
  refine ⟨h169_, ?_⟩
  refine ⟨h170_, ?_⟩
  refine ⟨h171_, ?_⟩
  refine ⟨h172_, ?_⟩
  exact h173_
set_option maxRecDepth 8000 in
set_option maxHeartbeats 2000000 in
theorem s_callAgain (d : Int) (h0 : 0 ≤ d) (IH : ∀ d' : Int, 0 ≤ d' → d' < d → P_C d') : T_callAgain d := by
  intro p1 p2 p3 S hok hp1 hp2 hp3 hpre hd
  have h := f_callAgain d p1 p2 p3 S hok hp1 hp2 hp3 hpre hd
  have hM := sm_h182
  show sv_T sm_XS sm_cs sm_L sm_sh (2 * (4 * (S 1115 0) + (if p1 = 7 then 1 else 0)) + 21).toNat (q_callAgain p1 p2 p3 S) 182 0 [(0, .ref 0), (1, sv_I p1), (2, sv_I p2), (3, sv_I p3)] [] S
  refine sv_aload_n hM dX12_callAgain_0 rfl rfl ?_
  refine sv_iconst (d := (0 : Int)) hM dX12_callAgain_1 rfl rfl ?_
  obtain ⟨o1, h⟩ := h
  obtain ⟨o2, h⟩ := h
  refine sv_callV hM dX12_callAgain_2 sm_iv_1014 (by decide) (sm_a0 _) rfl rfl (Nat.le_of_ble_eq_true rfl) sm_h178 (Nat.le_of_ble_eq_true rfl) (Nat.le_of_ble_eq_true rfl) (F' := 0) (sv_Fn (n := 0) o2) rfl (t_argumentSort (0 : Int) S hok (⟨by decide, by decide⟩ : sv_R (0 : Int)) o1) (fun v S1 hq => ?_)
  obtain ⟨r7, rfl, hr7, ok4, md5, hpo6⟩ := hq
  obtain rfl : S = S1 := (funext fun j => md5 j (by intro q; cases q)).symm
  show sv_T sm_XS sm_cs sm_L sm_sh (2 * (4 * (S 1115 0) + (if p1 = 7 then 1 else 0)) + 21).toNat (q_callAgain p1 p2 p3 S) 182 5 [(0, .ref 0), (1, sv_I p1), (2, sv_I p2), (3, sv_I p3)] [sv_I r7] S
  have h := h r7 hr7 hpo6
  refine sv_istore hM dX12_callAgain_5 (by decide) rfl ?_
  show sv_T sm_XS sm_cs sm_L sm_sh (2 * (4 * (S 1115 0) + (if p1 = 7 then 1 else 0)) + 21).toNat (q_callAgain p1 p2 p3 S) 182 7 [(0, .ref 0), (1, sv_I p1), (2, sv_I p2), (3, sv_I p3), (4, sv_I r7)] [] S
  refine sv_aload_n hM dX12_callAgain_7 rfl rfl ?_
  refine sv_iconst (d := (0 : Int)) hM dX12_callAgain_8 rfl rfl ?_
  refine sv_callV hM dX12_callAgain_9 sm_iv_1017 (by decide) (sm_a0 _) rfl rfl (Nat.le_of_ble_eq_true rfl) sm_h179 (Nat.le_of_ble_eq_true rfl) (Nat.le_of_ble_eq_true rfl) (F' := 0) (sv_Fn (n := 0) o2) rfl (t_argument (0 : Int) S ok4 (⟨by decide, by decide⟩ : sv_R (0 : Int)) o1) (fun v S1 hq => ?_)
  obtain ⟨r12, rfl, hr12, ok9, md10, hpo11⟩ := hq
  obtain rfl : S = S1 := (funext fun j => md10 j (by intro q; cases q)).symm
  show sv_T sm_XS sm_cs sm_L sm_sh (2 * (4 * (S 1115 0) + (if p1 = 7 then 1 else 0)) + 21).toNat (q_callAgain p1 p2 p3 S) 182 12 [(0, .ref 0), (1, sv_I p1), (2, sv_I p2), (3, sv_I p3), (4, sv_I r7)] [sv_I r12] S
  have h := h r12 hr12 hpo11
  refine sv_istore hM dX12_callAgain_12 (by decide) rfl ?_
  show sv_T sm_XS sm_cs sm_L sm_sh (2 * (4 * (S 1115 0) + (if p1 = 7 then 1 else 0)) + 21).toNat (q_callAgain p1 p2 p3 S) 182 14 [(0, .ref 0), (1, sv_I p1), (2, sv_I p2), (3, sv_I p3), (4, sv_I r7), (5, sv_I r12)] [] S
  have k13 : (sm_SK (S 63) (S 64) (S 44) (S 1100007) (S 1100025) (S 1076 0) (S 1007 0) (400 * ((S 1092 0) - 1)) ((S 58 ((S 1092 0) - 1))) ((S 1100034 0)) → sm_LS (S 26) (S 1100007) (S 1100025) (S 1046 0) → (S 1114 0) + (S 1115 0) = 400 * ((S 1092 0) - 1) + (S 58 ((S 1092 0) - 1)) → 0 ≤ (0 : Int) → (S 1115 0) ≤ p3 - 1 → p3 ≤ (S 58 ((S 1092 0) - 1)) → (S 1100034 0) < (S 1046 0) → (0 ≤ (S 1100034 0) → (S 26 (S 1100034 0)) = 29) → (0 ≤ (S 1100034 0) → (S 1100007 (S 1100034 0)) ≤ (S 58 ((S 1092 0) - 1)) - p3) → ((0 : Int) < (S 1115 0) → r7 = (S 63 ((S 1114 0) + (0 : Int)))) → (¬ (0 : Int) < (S 1115 0) → r7 = 0) → ((0 : Int) < (S 1115 0) → r12 = (S 64 ((S 1114 0) + (0 : Int)))) → (¬ (0 : Int) < (S 1115 0) → r12 = 0) → sm_VO (S 44) (S 1076 0) (S 1007 0) (r7) (r12)) := fun k l e a d g q o w s1 s2 v1 v2 => sm_SK_argv k l e a d g q o w s1 s2 v1 v2
  have h := h k13
  refine sv_aload_n hM dX12_callAgain_14 rfl rfl ?_
  have k14 : sv_R (S 1115 0) := sm_okI ok9 sm_r1115 0
  have h := h k14
  refine sv_getI hM dX12_callAgain_15 sm_fl_995 (sm_a0 _) sm_k115 rfl (x := (S 1115 0)) rfl ?_
  refine sv_cond_le hM dX12_callAgain_18 k14 (t := 41) rfl rfl (fun hc => ?_) (fun hc => ?_)
  · have h := h.1 (hc)
    refine sv_aload_n hM dX12_callAgain_41 rfl rfl ?_
    refine sv_iload_n hM dX12_callAgain_42 rfl rfl ?_
    refine sv_iload_n hM dX12_callAgain_43 rfl rfl ?_
    refine sv_iload hM dX12_callAgain_44 rfl rfl ?_
    refine sv_iload hM dX12_callAgain_46 rfl rfl ?_
    refine sv_iload_n hM dX12_callAgain_48 rfl rfl ?_
    refine sv_iconst (d := (-1 : Int)) hM dX12_callAgain_49 rfl rfl ?_
    obtain ⟨o15, h⟩ := h
    obtain ⟨o16, h⟩ := h
    obtain ⟨o17, h⟩ := h
    refine sv_callV hM dX12_callAgain_50 sm_iv_1001 (by decide) (sm_a0 _) rfl rfl (Nat.le_of_ble_eq_true rfl) sm_h181 (Nat.le_of_ble_eq_true rfl) (Nat.le_of_ble_eq_true rfl) (F' := ((2 * (4 * (S 1115 0) + (if p1 = 7 then 1 else 0) + (if r7 = 7 then 1 else 0)) + 20)).toNat) (sv_Fe o17) rfl ((IH (2 * (4 * (S 1115 0) + (if p1 = 7 then 1 else 0) + (if r7 = 7 then 1 else 0))) o16.1 o16.2).1 p1 p2 r7 r12 p3 (-1 : Int) S ok9 hp1 hp2 hr7 hr12 hp3 (⟨by decide, by decide⟩ : sv_R (-1 : Int)) o15 rfl) (fun v S1 hq => ?_)
    obtain ⟨rfl, ok19, md20, hpo21⟩ := hq
    obtain ⟨g18, rfl⟩ : ∃ g, S1 = sv_sts S [1076, 41, 42, 43, 44, 45, 46, 47, 1075, 1100029, 1084, 1085, 48, 1086, 51, 52, 49, 50, 1100020, 1100021, 1100022, 58, 63, 64, 57, 1092, 53, 54, 55, 56, 59, 60, 1073, 1109, 1110, 1111, 1112, 5, 1011, 3, 4, 1007, 1113, 1107, 67, 1100032, 1114, 1115] g := ⟨_, md20.eq⟩
    show sv_T sm_XS sm_cs sm_L sm_sh (2 * (4 * (S 1115 0) + (if p1 = 7 then 1 else 0)) + 21).toNat (q_callAgain p1 p2 p3 S) 182 53 [(0, .ref 0), (1, sv_I p1), (2, sv_I p2), (3, sv_I p3), (4, sv_I r7), (5, sv_I r12)] [] (sv_sts S [1076, 41, 42, 43, 44, 45, 46, 47, 1075, 1100029, 1084, 1085, 48, 1086, 51, 52, 49, 50, 1100020, 1100021, 1100022, 58, 63, 64, 57, 1092, 53, 54, 55, 56, 59, 60, 1073, 1109, 1110, 1111, 1112, 5, 1011, 3, 4, 1007, 1113, 1107, 67, 1100032, 1114, 1115] g18)
    have md22 : sv_mod [1076, 41, 42, 43, 44, 45, 46, 47, 1075, 1100029, 1084, 1085, 48, 1086, 51, 52, 49, 50, 1100020, 1100021, 1100022, 58, 63, 64, 57, 1092, 53, 54, 55, 56, 59, 60, 1073, 1109, 1110, 1111, 1112, 5, 1011, 3, 4, 1007, 1113, 1107, 67, 1100032, 1114, 1115] S (sv_sts S [1076, 41, 42, 43, 44, 45, 46, 47, 1075, 1100029, 1084, 1085, 48, 1086, 51, 52, 49, 50, 1100020, 1100021, 1100022, 58, 63, 64, 57, 1092, 53, 54, 55, 56, 59, 60, 1073, 1109, 1110, 1111, 1112, 5, 1011, 3, 4, 1007, 1113, 1107, 67, 1100032, 1114, 1115] g18) := sv_mod.sts sv_mod.rf (by decide)
    have h := h g18 hpo21
    exact sv_vret hM dX12_callAgain_53 rfl ⟨rfl, ok19, md22, h⟩
  · have h := h.2 (hc)
    refine sv_aload_n hM dX12_callAgain_21 rfl rfl ?_
    refine sv_dupA hM dX12_callAgain_22 rfl ?_
    have k23 : sv_R (S 1114 0) := sm_okI ok9 sm_r1114 0
    have h := h k23
    refine sv_getI hM dX12_callAgain_23 sm_fl_998 (sm_a0 _) sm_k114 rfl (x := (S 1114 0)) rfl ?_
    refine sv_iconst (d := (1 : Int)) hM dX12_callAgain_26 rfl rfl ?_
    refine sv_iadd hM dX12_callAgain_27 rfl ?_
    obtain ⟨o24, h⟩ := h
    refine sv_putI sm_X hM dX12_callAgain_28 sm_fp_998 (sm_a0 _) sm_q114 (Or.inl rfl) rfl rfl rfl rfl ?_
    have ok25 : sm_ok (sv_up S 1114 0 ((S 1114 0) + (1 : Int))) := sm_upI ok9 sm_r1114 o24
    have md26 : sv_mod [1076, 41, 42, 43, 44, 45, 46, 47, 1075, 1100029, 1084, 1085, 48, 1086, 51, 52, 49, 50, 1100020, 1100021, 1100022, 58, 63, 64, 57, 1092, 53, 54, 55, 56, 59, 60, 1073, 1109, 1110, 1111, 1112, 5, 1011, 3, 4, 1007, 1113, 1107, 67, 1100032, 1114, 1115] S (sv_up S 1114 0 ((S 1114 0) + (1 : Int))) := sv_mod.up sv_mod.rf (by decide)
    refine sv_aload_n hM dX12_callAgain_31 rfl rfl ?_
    refine sv_dupA hM dX12_callAgain_32 rfl ?_
    refine sv_getI hM dX12_callAgain_33 sm_fl_995 (sm_a0 _) sm_k115 rfl (x := (S 1115 0)) rfl ?_
    refine sv_iconst (d := (1 : Int)) hM dX12_callAgain_36 rfl rfl ?_
    refine sv_isub hM dX12_callAgain_37 rfl ?_
    obtain ⟨o27, h⟩ := h
    refine sv_putI sm_X hM dX12_callAgain_38 sm_fp_995 (sm_a0 _) sm_q115 (Or.inl rfl) rfl rfl rfl rfl ?_
    have ok28 : sm_ok (sv_up (sv_up S 1114 0 ((S 1114 0) + (1 : Int))) 1115 0 ((S 1115 0) - (1 : Int))) := sm_upI ok25 sm_r1115 o27
    have md29 : sv_mod [1076, 41, 42, 43, 44, 45, 46, 47, 1075, 1100029, 1084, 1085, 48, 1086, 51, 52, 49, 50, 1100020, 1100021, 1100022, 58, 63, 64, 57, 1092, 53, 54, 55, 56, 59, 60, 1073, 1109, 1110, 1111, 1112, 5, 1011, 3, 4, 1007, 1113, 1107, 67, 1100032, 1114, 1115] S (sv_up (sv_up S 1114 0 ((S 1114 0) + (1 : Int))) 1115 0 ((S 1115 0) - (1 : Int))) := sv_mod.up md26 (by decide)
    refine sv_aload_n hM dX12_callAgain_41 rfl rfl ?_
    refine sv_iload_n hM dX12_callAgain_42 rfl rfl ?_
    refine sv_iload_n hM dX12_callAgain_43 rfl rfl ?_
    refine sv_iload hM dX12_callAgain_44 rfl rfl ?_
    refine sv_iload hM dX12_callAgain_46 rfl rfl ?_
    refine sv_iload_n hM dX12_callAgain_48 rfl rfl ?_
    refine sv_iconst (d := (-1 : Int)) hM dX12_callAgain_49 rfl rfl ?_
    obtain ⟨o30, h⟩ := h
    obtain ⟨o31, h⟩ := h
    obtain ⟨o32, h⟩ := h
    refine sv_callV hM dX12_callAgain_50 sm_iv_1001 (by decide) (sm_a0 _) rfl rfl (Nat.le_of_ble_eq_true rfl) sm_h181 (Nat.le_of_ble_eq_true rfl) (Nat.le_of_ble_eq_true rfl) (F' := ((2 * (4 * ((S 1115 0) - (1 : Int)) + (if p1 = 7 then 1 else 0) + (if r7 = 7 then 1 else 0)) + 20)).toNat) (sv_Fe o32) rfl ((IH (2 * (4 * ((S 1115 0) - (1 : Int)) + (if p1 = 7 then 1 else 0) + (if r7 = 7 then 1 else 0))) o31.1 o31.2).1 p1 p2 r7 r12 p3 (-1 : Int) (sv_up (sv_up S 1114 0 ((S 1114 0) + (1 : Int))) 1115 0 ((S 1115 0) - (1 : Int))) ok28 hp1 hp2 hr7 hr12 hp3 (⟨by decide, by decide⟩ : sv_R (-1 : Int)) o30 rfl) (fun v S1 hq => ?_)
    obtain ⟨rfl, ok34, md35, hpo36⟩ := hq
    obtain ⟨g33, rfl⟩ : ∃ g, S1 = sv_sts (sv_up (sv_up S 1114 0 ((S 1114 0) + (1 : Int))) 1115 0 ((S 1115 0) - (1 : Int))) [1076, 41, 42, 43, 44, 45, 46, 47, 1075, 1100029, 1084, 1085, 48, 1086, 51, 52, 49, 50, 1100020, 1100021, 1100022, 58, 63, 64, 57, 1092, 53, 54, 55, 56, 59, 60, 1073, 1109, 1110, 1111, 1112, 5, 1011, 3, 4, 1007, 1113, 1107, 67, 1100032, 1114, 1115] g := ⟨_, md35.eq⟩
    show sv_T sm_XS sm_cs sm_L sm_sh (2 * (4 * (S 1115 0) + (if p1 = 7 then 1 else 0)) + 21).toNat (q_callAgain p1 p2 p3 S) 182 53 [(0, .ref 0), (1, sv_I p1), (2, sv_I p2), (3, sv_I p3), (4, sv_I r7), (5, sv_I r12)] [] (sv_sts (sv_up (sv_up S 1114 0 ((S 1114 0) + (1 : Int))) 1115 0 ((S 1115 0) - (1 : Int))) [1076, 41, 42, 43, 44, 45, 46, 47, 1075, 1100029, 1084, 1085, 48, 1086, 51, 52, 49, 50, 1100020, 1100021, 1100022, 58, 63, 64, 57, 1092, 53, 54, 55, 56, 59, 60, 1073, 1109, 1110, 1111, 1112, 5, 1011, 3, 4, 1007, 1113, 1107, 67, 1100032, 1114, 1115] g33)
    have md37 : sv_mod [1076, 41, 42, 43, 44, 45, 46, 47, 1075, 1100029, 1084, 1085, 48, 1086, 51, 52, 49, 50, 1100020, 1100021, 1100022, 58, 63, 64, 57, 1092, 53, 54, 55, 56, 59, 60, 1073, 1109, 1110, 1111, 1112, 5, 1011, 3, 4, 1007, 1113, 1107, 67, 1100032, 1114, 1115] S (sv_sts (sv_up (sv_up S 1114 0 ((S 1114 0) + (1 : Int))) 1115 0 ((S 1115 0) - (1 : Int))) [1076, 41, 42, 43, 44, 45, 46, 47, 1075, 1100029, 1084, 1085, 48, 1086, 51, 52, 49, 50, 1100020, 1100021, 1100022, 58, 63, 64, 57, 1092, 53, 54, 55, 56, 59, 60, 1073, 1109, 1110, 1111, 1112, 5, 1011, 3, 4, 1007, 1113, 1107, 67, 1100032, 1114, 1115] g33) := sv_mod.sts md29 (by decide)
    have h := h g33 hpo36
    exact sv_vret hM dX12_callAgain_53 rfl ⟨rfl, ok34, md37, h⟩
