theorem dX12_hasOwn_0 : decode cX12_hasOwn 0 = .ok (.aload_n 0, 1) := by decide +kernel
theorem dX12_hasOwn_1 : decode cX12_hasOwn 1 = .ok (.iload_n 2, 1) := by decide +kernel
theorem dX12_hasOwn_2 : decode cX12_hasOwn 2 = .ok (.iload_n 3, 1) := by decide +kernel
theorem dX12_hasOwn_3 : decode cX12_hasOwn 3 = .ok (.invokevirtual 969, 3) := by decide +kernel
theorem dX12_hasOwn_6 : decode cX12_hasOwn 6 = .ok (.istore 4, 2) := by decide +kernel
theorem dX12_hasOwn_8 : decode cX12_hasOwn 8 = .ok (.aload_n 0, 1) := by decide +kernel
theorem dX12_hasOwn_9 : decode cX12_hasOwn 9 = .ok (.getfield 794, 3) := by decide +kernel
theorem dX12_hasOwn_12 : decode cX12_hasOwn 12 = .ok (.ifCond .ne 23, 3) := by decide +kernel
theorem dX12_hasOwn_15 : decode cX12_hasOwn 15 = .ok (.aload_n 0, 1) := by decide +kernel
theorem dX12_hasOwn_16 : decode cX12_hasOwn 16 = .ok (.aload_n 0, 1) := by decide +kernel
theorem dX12_hasOwn_17 : decode cX12_hasOwn 17 = .ok (.iload_n 1, 1) := by decide +kernel
theorem dX12_hasOwn_18 : decode cX12_hasOwn 18 = .ok (.iload 4, 2) := by decide +kernel
theorem dX12_hasOwn_20 : decode cX12_hasOwn 20 = .ok (.invokevirtual 846, 3) := by decide +kernel
theorem dX12_hasOwn_23 : decode cX12_hasOwn 23 = .ok (.iconst (-1), 1) := by decide +kernel
theorem dX12_hasOwn_24 : decode cX12_hasOwn 24 = .ok (.if_icmp .eq 7, 3) := by decide +kernel
theorem dX12_hasOwn_27 : decode cX12_hasOwn 27 = .ok (.iconst 1, 1) := by decide +kernel
theorem dX12_hasOwn_28 : decode cX12_hasOwn 28 = .ok (.goto 4, 3) := by decide +kernel
theorem dX12_hasOwn_31 : decode cX12_hasOwn 31 = .ok (.iconst 0, 1) := by decide +kernel
theorem dX12_hasOwn_32 : decode cX12_hasOwn 32 = .ok (.invokevirtual 827, 3) := by decide +kernel
theorem dX12_hasOwn_35 : decode cX12_hasOwn 35 = .ok (.return_, 1) := by decide +kernel
theorem dX12_charAt_0 : decode cX12_charAt 0 = .ok (.aload_n 0, 1) := by decide +kernel
theorem dX12_charAt_1 : decode cX12_charAt 1 = .ok (.iload_n 2, 1) := by decide +kernel
theorem dX12_charAt_2 : decode cX12_charAt 2 = .ok (.iload_n 3, 1) := by decide +kernel
theorem dX12_charAt_3 : decode cX12_charAt 3 = .ok (.invokevirtual 816, 3) := by decide +kernel
theorem dX12_charAt_6 : decode cX12_charAt 6 = .ok (.istore 4, 2) := by decide +kernel
theorem dX12_charAt_8 : decode cX12_charAt 8 = .ok (.aload_n 0, 1) := by decide +kernel
theorem dX12_charAt_9 : decode cX12_charAt 9 = .ok (.iconst 0, 1) := by decide +kernel
theorem dX12_charAt_10 : decode cX12_charAt 10 = .ok (.putfield 299, 3) := by decide +kernel
theorem dX12_charAt_13 : decode cX12_charAt 13 = .ok (.aload_n 0, 1) := by decide +kernel
theorem dX12_charAt_14 : decode cX12_charAt 14 = .ok (.getfield 806, 3) := by decide +kernel
theorem dX12_charAt_17 : decode cX12_charAt 17 = .ok (.ifCond .eq 8, 3) := by decide +kernel
theorem dX12_charAt_20 : decode cX12_charAt 20 = .ok (.iload 4, 2) := by decide +kernel
theorem dX12_charAt_22 : decode cX12_charAt 22 = .ok (.goto 4, 3) := by decide +kernel
theorem dX12_charAt_25 : decode cX12_charAt 25 = .ok (.iconst 0, 1) := by decide +kernel
theorem dX12_charAt_26 : decode cX12_charAt 26 = .ok (.istore 4, 2) := by decide +kernel
theorem dX12_charAt_28 : decode cX12_charAt 28 = .ok (.iload 4, 2) := by decide +kernel
theorem dX12_charAt_30 : decode cX12_charAt 30 = .ok (.iconst 0, 1) := by decide +kernel
theorem dX12_charAt_31 : decode cX12_charAt 31 = .ok (.aload_n 0, 1) := by decide +kernel
theorem dX12_charAt_32 : decode cX12_charAt 32 = .ok (.getfield 20, 3) := by decide +kernel
theorem dX12_charAt_35 : decode cX12_charAt 35 = .ok (.iload_n 1, 1) := by decide +kernel
theorem dX12_charAt_36 : decode cX12_charAt 36 = .ok (.iaload, 1) := by decide +kernel
theorem dX12_charAt_37 : decode cX12_charAt 37 = .ok (.iconst 1, 1) := by decide +kernel
theorem dX12_charAt_38 : decode cX12_charAt 38 = .ok (.isub, 1) := by decide +kernel
theorem dX12_charAt_39 : decode cX12_charAt 39 = .ok (.invokestatic 899, 3) := by decide +kernel
theorem dX12_charAt_42 : decode cX12_charAt 42 = .ok (.ifCond .eq 19, 3) := by decide +kernel
theorem dX12_charAt_45 : decode cX12_charAt 45 = .ok (.aload_n 0, 1) := by decide +kernel
theorem dX12_charAt_46 : decode cX12_charAt 46 = .ok (.aload_n 0, 1) := by decide +kernel
theorem dX12_charAt_47 : decode cX12_charAt 47 = .ok (.getfield 16, 3) := by decide +kernel
theorem dX12_charAt_50 : decode cX12_charAt 50 = .ok (.bipush 60, 2) := by decide +kernel
theorem dX12_charAt_52 : decode cX12_charAt 52 = .ok (.iload_n 1, 1) := by decide +kernel
theorem dX12_charAt_53 : decode cX12_charAt 53 = .ok (.imul, 1) := by decide +kernel
theorem dX12_charAt_54 : decode cX12_charAt 54 = .ok (.iload 4, 2) := by decide +kernel
theorem dX12_charAt_56 : decode cX12_charAt 56 = .ok (.iadd, 1) := by decide +kernel
theorem dX12_charAt_57 : decode cX12_charAt 57 = .ok (.caload, 1) := by decide +kernel
theorem dX12_charAt_58 : decode cX12_charAt 58 = .ok (.invokevirtual 324, 3) := by decide +kernel
theorem dX12_charAt_61 : decode cX12_charAt 61 = .ok (.aload_n 0, 1) := by decide +kernel
theorem dX12_charAt_62 : decode cX12_charAt 62 = .ok (.bipush 6, 2) := by decide +kernel
theorem dX12_charAt_64 : decode cX12_charAt 64 = .ok (.aload_n 0, 1) := by decide +kernel
theorem dX12_charAt_65 : decode cX12_charAt 65 = .ok (.invokevirtual 803, 3) := by decide +kernel
theorem dX12_charAt_68 : decode cX12_charAt 68 = .ok (.invokevirtual 822, 3) := by decide +kernel
theorem dX12_charAt_71 : decode cX12_charAt 71 = .ok (.return_, 1) := by decide +kernel

def q_hasOwn (p1 : Int) (p2 : Int) (p3 : Int) (S : sv_S) : Option Value → sv_S → Prop := fun v S' => v = none ∧ sm_ok S' ∧ sv_mod [5, 1011, 3, 4, 1007, 1075, 1111, 1112] S S' ∧ (sm_PL (S' 1100020) (S' 51) (S' 52) (S' 46) (S' 47) (S' 1076 0) (S' 1086 0) ∧ sm_FR (S' 1100020) (S' 52) (S' 1100021) (S' 1100022) (3000 - (S' 1084 0)) (S' 1085 0) ∧ sm_PV (S' 1100020) (S' 48) (S' 49) (S' 50) (S' 44) (S' 1076 0) (S' 1007 0) ∧ sm_AL (S' 1100020) (S' 48) (S' 49) (S' 50) (S' 44) (S' 1076 0) (S' 1100032 0) ∧ sm_SV (S' 1100020) (S' 48) (S' 1100029) (S' 32) (S' 33) (S' 1076 0) (S' 1032 0) ∧ 0 ≤ (S' 1076 0) ∧ (S' 1076 0) ≤ 300 ∧ 0 ≤ (S' 1084 0) ∧ (S' 1084 0) ≤ 3000 ∧ 0 ≤ (S' 1086 0) ∧ sm_SC (S' 1100029) (S' 44) (S' 45) (S' 43) (S' 21) (S' 1076 0) (S' 1032 0) ∧ sm_PO (S' 42) (S' 1076 0) ∧ (S' 1100032 0) = -1 ∧ (sm_FO (S 44) (S 45) (S 1076 0) → sm_FO (S' 44) (S' 45) (S' 1076 0)) ∧ (S 1076 0) ≤ (S' 1076 0) ∧ 31 ≤ (S' 1007 0) ∧ (S' 1007 0) ≤ 400 ∧ sm_LN (S' 4) 400 (S' 1007 0) ∧ (S 1007 0) ≤ (S' 1007 0) ∧ (S 1086 0) ≤ (S' 1086 0) ∧ (S' 1086 0) ≤ (S 1086 0) + 3 ∧ ((S' 1075 0) = 0 → sm_VO (S' 44) (S' 1076 0) (S' 1007 0) ((S' 1111 0)) ((S' 1112 0))))
theorem la_hasOwn_0 {x0 : Int} (h0 : x0 = 0) : ¬ x0 = 1 := by omega
theorem la_hasOwn_1 {x0 : Int} (h0 : 0 ≤ x0) (h1 : ¬ x0 = 0) : 0 < x0 := by omega
theorem la_hasOwn_2 {x0 : Int} : x0 ≤ x0 := by omega
theorem la_hasOwn_3 {x0 x1 : Int} (h0 : 31 ≤ x0) (h1 : x0 ≤ x1) : 31 ≤ x1 := by omega
theorem la_hasOwn_4 {x0 : Int} : x0 ≤ x0 + 3 := by omega
theorem la_hasOwn_5 {x0 x1 : Int} (h0 : 0 < x0) (h1 : x0 = 0) : x1 = 6 := by omega
theorem la_hasOwn_6 {x0 x1 : Int} (h0 : 0 < x0) (h1 : x0 = 0) : x1 = 7 := by omega
theorem la_hasOwn_7 {x0 x1 : Int} (h0 : 0 < x0) (h1 : x0 = 0) : x1 = 5 := by omega
theorem la_hasOwn_8 {x0 x1 : Int} (h0 : 0 < x0) (h1 : x0 = 0) : x1 ≤ 100 := by omega
theorem la_hasOwn_9 {x0 x1 : Int} (h0 : x0 < x1) (h1 : x1 ≤ 400) : x0 < 400 := by omega
theorem la_hasOwn_10 {x0 : Int} (h0 : 0 < x0) (h1 : x0 = 0) : False := by omega
theorem la_hasOwn_11 {x0 x1 x2 x3 : Int} (h0 : x0 ≤ 300) (h1 : 0 ≤ x1) (h2 : x1 ≤ 3000) (h3 : 0 ≤ x2) (h4 : 23 ≤ x0) (h5 : 0 ≤ x3) (h6 : x3 < x0) : 0 ≤ x0 ∧ x0 ≤ 300 ∧ 0 ≤ x1 ∧ x1 ≤ 3000 ∧ 0 ≤ x2 ∧ 0 ≤ x3 ∧ x3 < x0 := by omega
theorem la_hasOwn_12 {x0 x1 x2 x3 x4 : Int} (h0 : x0 = (-1)) : ¬ (0 ≤ x0 ∧ x0 < 3000 ∧ x1 = x2 ∧ x3 = x4) := by omega
theorem la_hasOwn_13 {x0 : Int} (h0 : x0 = 2 ∨ x0 = 3) : 0 ≤ x0 := by omega
theorem la_hasOwn_14 {x0 : Int} (h0 : x0 = 2 ∨ x0 = 3) : x0 ≤ 7 := by omega
theorem la_hasOwn_15 {x0 x1 x2 x3 : Int} (h0 : 31 ≤ x0) (h1 : x0 ≤ x1) (h2 : x2 = 0) : x3 = 6 → 0 ≤ x2 ∧ x2 < x1 := by omega
theorem la_hasOwn_16 {x0 x1 x2 x3 : Int} (h0 : 23 ≤ x0) (h1 : x1 = 2 ∨ x1 = 3) (h2 : x2 = 0) : x1 = 7 → 0 ≤ x2 ∧ x2 < x0 ∧ ¬ x3 = 3 := by omega
theorem la_hasOwn_17 {x0 : Int} (h0 : 0 ≤ x0) : (-1) ≤ x0 := by omega
theorem la_hasOwn_18 {x0 : Int} (h0 : (-1) ≤ x0) (h1 : ¬ x0 = (-1)) : (-1) < x0 := by omega
set_option maxHeartbeats 2000000 in
theorem f_hasOwn : ∀ (p1 : Int) (p2 : Int) (p3 : Int) (S : sv_S), sm_ok S → sv_R p1 → sv_R p2 → sv_R p3 → ((S 1075 0) = 0 ∧ (S 1073 0) = 1 ∧ sm_PL (S 1100020) (S 51) (S 52) (S 46) (S 47) (S 1076 0) (S 1086 0) ∧ sm_FR (S 1100020) (S 52) (S 1100021) (S 1100022) (3000 - (S 1084 0)) (S 1085 0) ∧ sm_PV (S 1100020) (S 48) (S 49) (S 50) (S 44) (S 1076 0) (S 1007 0) ∧ sm_AL (S 1100020) (S 48) (S 49) (S 50) (S 44) (S 1076 0) (S 1100032 0) ∧ sm_SV (S 1100020) (S 48) (S 1100029) (S 32) (S 33) (S 1076 0) (S 1032 0) ∧ 0 ≤ (S 1076 0) ∧ (S 1076 0) ≤ 300 ∧ 0 ≤ (S 1084 0) ∧ (S 1084 0) ≤ 3000 ∧ 0 ≤ (S 1086 0) ∧ sm_SC (S 1100029) (S 44) (S 45) (S 43) (S 21) (S 1076 0) (S 1032 0) ∧ sm_PO (S 42) (S 1076 0) ∧ (S 1100032 0) = -1 ∧ sm_FO (S 44) (S 45) (S 1076 0) ∧ 23 ≤ (S 1076 0) ∧ 31 ≤ (S 1007 0) ∧ (S 1007 0) ≤ 400 ∧ sm_LN (S 4) 400 (S 1007 0) ∧ (S 1008 0) ≤ (S 1007 0) ∧ (S 1086 0) ≤ 1900000000 ∧ 0 ≤ p1 ∧ p1 < (S 1076 0) ∧ sm_VO (S 44) (S 1076 0) (S 1007 0) (p2) (p3)) → (31 ≤ (S 1007 0) ∧ (S 1007 0) ≤ 400 ∧ sm_LN (S 4) 400 (S 1007 0) ∧ (p2 = 6 → 0 ≤ p3 ∧ p3 < (S 1007 0))) ∧ (∀ r6 : Int, sv_R r6 → ∀ g2 : sv_S, (0 ≤ r6 ∧ r6 < (g2 1007 0) ∧ (p2 = 5 → 0 ≤ p3 → p3 ≤ 100 → (g2 1075 0) = 0 → (g2 4 r6) ≤ 3) ∧ (S 1007 0) ≤ (g2 1007 0) ∧ (g2 1007 0) ≤ 400 ∧ sm_LN (g2 4) 400 (g2 1007 0) ∧ ((S 1075 0) = 1 → (g2 1075 0) = 1)) → ((0 ≤ (g2 1075 0) ∧ (g2 1075 0) ≤ 1) → (((¬ (g2 1075 0) = (0 : Int)) → (sm_PL (S 1100020) (S 51) (S 52) (S 46) (S 47) (S 1076 0) (S 1086 0) ∧ sm_FR (S 1100020) (S 52) (S 1100021) (S 1100022) (3000 - (S 1084 0)) (S 1085 0) ∧ sm_PV (S 1100020) (S 48) (S 49) (S 50) (S 44) (S 1076 0) (g2 1007 0) ∧ sm_AL (S 1100020) (S 48) (S 49) (S 50) (S 44) (S 1076 0) (S 1100032 0) ∧ sm_SV (S 1100020) (S 48) (S 1100029) (S 32) (S 33) (S 1076 0) (S 1032 0) ∧ 0 ≤ (S 1076 0) ∧ (S 1076 0) ≤ 300 ∧ 0 ≤ (S 1084 0) ∧ (S 1084 0) ≤ 3000 ∧ 0 ≤ (S 1086 0) ∧ sm_SC (S 1100029) (S 44) (S 45) (S 43) (S 21) (S 1076 0) (S 1032 0) ∧ sm_PO (S 42) (S 1076 0) ∧ (S 1100032 0) = -1 ∧ (sm_FO (S 44) (S 45) (S 1076 0) → sm_FO (S 44) (S 45) (S 1076 0)) ∧ (S 1076 0) ≤ (S 1076 0) ∧ 31 ≤ (g2 1007 0) ∧ (g2 1007 0) ≤ 400 ∧ sm_LN (g2 4) 400 (g2 1007 0) ∧ (S 1007 0) ≤ (g2 1007 0) ∧ (S 1086 0) ≤ (S 1086 0) ∧ (S 1086 0) ≤ (S 1086 0) + 3 ∧ ((g2 1075 0) = 0 → sm_VO (S 44) (S 1076 0) (g2 1007 0) ((S 1111 0)) ((S 1112 0))))) ∧ ((¬ (¬ (g2 1075 0) = (0 : Int))) → (sm_PL (S 1100020) (S 51) (S 52) (S 46) (S 47) (S 1076 0) (S 1086 0) ∧ 0 ≤ (S 1076 0) ∧ (S 1076 0) ≤ 300 ∧ 0 ≤ (S 1084 0) ∧ (S 1084 0) ≤ 3000 ∧ 0 ≤ (S 1086 0) ∧ 0 ≤ p1 ∧ p1 < (S 1076 0)) ∧ (∀ r14 : Int, sv_R r14 → ((r14 = -1 ∨ (0 ≤ r14 ∧ r14 < 3000 ∧ (S 1100020 r14) = p1 ∧ (S 48 r14) = r6)) ∧ (r14 = -1 → sm_NB (S 1100020) (S 51) (S 48) (p1) (r6) (-1))) → (((r14 = (-1 : Int)) → (∀ g15 : sv_S, (((g15 1111 0) = 2 ∨ (g15 1111 0) = 3) ∧ (g15 1112 0) = 0) → (sm_PL (S 1100020) (S 51) (S 52) (S 46) (S 47) (S 1076 0) (S 1086 0) ∧ sm_FR (S 1100020) (S 52) (S 1100021) (S 1100022) (3000 - (S 1084 0)) (S 1085 0) ∧ sm_PV (S 1100020) (S 48) (S 49) (S 50) (S 44) (S 1076 0) (g2 1007 0) ∧ sm_AL (S 1100020) (S 48) (S 49) (S 50) (S 44) (S 1076 0) (S 1100032 0) ∧ sm_SV (S 1100020) (S 48) (S 1100029) (S 32) (S 33) (S 1076 0) (S 1032 0) ∧ 0 ≤ (S 1076 0) ∧ (S 1076 0) ≤ 300 ∧ 0 ≤ (S 1084 0) ∧ (S 1084 0) ≤ 3000 ∧ 0 ≤ (S 1086 0) ∧ sm_SC (S 1100029) (S 44) (S 45) (S 43) (S 21) (S 1076 0) (S 1032 0) ∧ sm_PO (S 42) (S 1076 0) ∧ (S 1100032 0) = -1 ∧ (sm_FO (S 44) (S 45) (S 1076 0) → sm_FO (S 44) (S 45) (S 1076 0)) ∧ (S 1076 0) ≤ (S 1076 0) ∧ 31 ≤ (g2 1007 0) ∧ (g2 1007 0) ≤ 400 ∧ sm_LN (g2 4) 400 (g2 1007 0) ∧ (S 1007 0) ≤ (g2 1007 0) ∧ (S 1086 0) ≤ (S 1086 0) ∧ (S 1086 0) ≤ (S 1086 0) + 3 ∧ ((g2 1075 0) = 0 → sm_VO (S 44) (S 1076 0) (g2 1007 0) ((g15 1111 0)) ((g15 1112 0)))))) ∧ ((¬ (r14 = (-1 : Int))) → (∀ g20 : sv_S, (((g20 1111 0) = 2 ∨ (g20 1111 0) = 3) ∧ (g20 1112 0) = 0) → (sm_PL (S 1100020) (S 51) (S 52) (S 46) (S 47) (S 1076 0) (S 1086 0) ∧ sm_FR (S 1100020) (S 52) (S 1100021) (S 1100022) (3000 - (S 1084 0)) (S 1085 0) ∧ sm_PV (S 1100020) (S 48) (S 49) (S 50) (S 44) (S 1076 0) (g2 1007 0) ∧ sm_AL (S 1100020) (S 48) (S 49) (S 50) (S 44) (S 1076 0) (S 1100032 0) ∧ sm_SV (S 1100020) (S 48) (S 1100029) (S 32) (S 33) (S 1076 0) (S 1032 0) ∧ 0 ≤ (S 1076 0) ∧ (S 1076 0) ≤ 300 ∧ 0 ≤ (S 1084 0) ∧ (S 1084 0) ≤ 3000 ∧ 0 ≤ (S 1086 0) ∧ sm_SC (S 1100029) (S 44) (S 45) (S 43) (S 21) (S 1076 0) (S 1032 0) ∧ sm_PO (S 42) (S 1076 0) ∧ (S 1100032 0) = -1 ∧ (sm_FO (S 44) (S 45) (S 1076 0) → sm_FO (S 44) (S 45) (S 1076 0)) ∧ (S 1076 0) ≤ (S 1076 0) ∧ 31 ≤ (g2 1007 0) ∧ (g2 1007 0) ≤ 400 ∧ sm_LN (g2 4) 400 (g2 1007 0) ∧ (S 1007 0) ≤ (g2 1007 0) ∧ (S 1086 0) ≤ (S 1086 0) ∧ (S 1086 0) ≤ (S 1086 0) + 3 ∧ ((g2 1075 0) = 0 → sm_VO (S 44) (S 1076 0) (g2 1007 0) ((g20 1111 0)) ((g20 1112 0)))))))))))) := by
  intro p1
  intro p2
  intro p3
  intro S
  intro h1_
  intro h2_
  intro h3_
  intro h4_
  rintro ⟨h5_, ⟨h6_, ⟨h7_, ⟨h8_, ⟨h9_, ⟨h10_, ⟨h11_, ⟨h12_, ⟨h13_, ⟨h14_, ⟨h15_, ⟨h16_, ⟨h17_, ⟨h18_, ⟨h19_, ⟨h20_, ⟨h21_, ⟨h22_, ⟨h23_, ⟨h24_, ⟨h25_, ⟨h26_, ⟨h27_, ⟨h28_, h29_⟩⟩⟩⟩⟩⟩⟩⟩⟩⟩⟩⟩⟩⟩⟩⟩⟩⟩⟩⟩⟩⟩⟩⟩
  refine ⟨⟨h22_, ⟨h23_, ⟨h24_, (sm_VO_e h29_).2.2.1⟩⟩⟩, ?_⟩
  intro r6
  intro h30_
  intro g2
  rintro ⟨h31_, ⟨h32_, ⟨h33_, ⟨h34_, ⟨h35_, ⟨h36_, h37_⟩⟩⟩⟩⟩⟩
  rintro ⟨h38_, h39_⟩
  refine ⟨?_, ?_⟩
  · skip
    intro h40_
    refine ⟨h7_, ?_⟩
    refine ⟨h8_, ?_⟩
    refine ⟨(sm_PV_m h9_ (Int.le_refl _) h34_ sm_F1_rf), ?_⟩
    refine ⟨h10_, ?_⟩
    refine ⟨h11_, ?_⟩
    refine ⟨h12_, ?_⟩
    refine ⟨h13_, ?_⟩
    refine ⟨h14_, ?_⟩
    refine ⟨h15_, ?_⟩
    refine ⟨h16_, ?_⟩
    refine ⟨h17_, ?_⟩
    refine ⟨h18_, ?_⟩
    refine ⟨h19_, ?_⟩
    refine ⟨?_, ?_⟩
    · skip
      intro h41_
      exact h20_
    refine ⟨la_hasOwn_2, ?_⟩
    refine ⟨(la_hasOwn_3 h22_ h34_), ?_⟩
    refine ⟨h35_, ?_⟩
    refine ⟨h36_, ?_⟩
    refine ⟨h34_, ?_⟩
    refine ⟨la_hasOwn_2, ?_⟩
    refine ⟨la_hasOwn_4, ?_⟩
    intro h42_
    obtain ⟨h43_, h44_⟩ := ((sm_VO_e h29_).2.2.1 (la_hasOwn_5 (la_hasOwn_1 h38_ h40_) h42_))
    obtain ⟨h45_, ⟨h46_, h47_⟩⟩ := ((sm_VO_e h29_).2.2.2 (la_hasOwn_6 (la_hasOwn_1 h38_ h40_) h42_))
    have h48_ := (h33_ (la_hasOwn_7 (la_hasOwn_1 h38_ h40_) h42_))
    have h49_ := (h48_ h43_)
    have h50_ := (h49_ (la_hasOwn_8 (la_hasOwn_1 h38_ h40_) h42_))
    have h51_ := (h50_ h42_)
    exact ((la_hasOwn_10 (la_hasOwn_1 h38_ h40_) h42_)).elim
  intro h52_
  refine ⟨⟨h7_, (la_hasOwn_11 h13_ h14_ h15_ h16_ h21_ h27_ h28_)⟩, ?_⟩
  intro r14
  intro h53_
  rintro ⟨h54_, h55_⟩
  refine ⟨?_, ?_⟩
  · skip
    intro h56_
    have h57_ := (h54_.resolve_right (la_hasOwn_12 h56_))
    have h58_ := (h55_ h56_)
    intro g15
    rintro ⟨h59_, h60_⟩
    refine ⟨h7_, ?_⟩
    refine ⟨h8_, ?_⟩
    refine ⟨(sm_PV_m h9_ (Int.le_refl _) h34_ sm_F1_rf), ?_⟩
    refine ⟨h10_, ?_⟩
    refine ⟨h11_, ?_⟩
    refine ⟨h12_, ?_⟩
    refine ⟨h13_, ?_⟩
    refine ⟨h14_, ?_⟩
    refine ⟨h15_, ?_⟩
    refine ⟨h16_, ?_⟩
    refine ⟨h17_, ?_⟩
    refine ⟨h18_, ?_⟩
    refine ⟨h19_, ?_⟩
    refine ⟨?_, ?_⟩
    · skip
      intro h61_
      exact h20_
    refine ⟨la_hasOwn_2, ?_⟩
    refine ⟨(la_hasOwn_3 h22_ h34_), ?_⟩
    refine ⟨h35_, ?_⟩
    refine ⟨h36_, ?_⟩
    refine ⟨h34_, ?_⟩
    refine ⟨la_hasOwn_2, ?_⟩
    refine ⟨la_hasOwn_4, ?_⟩
    intro h62_
    exact (sm_VO_i (la_hasOwn_13 h59_) (la_hasOwn_14 h59_) (la_hasOwn_15 h22_ h34_ h60_) (la_hasOwn_16 h21_ h59_ h60_))
  intro h63_
  obtain ⟨h64_, ⟨h65_, ⟨h66_, h67_⟩⟩⟩ := (h54_.resolve_left h63_)
  intro g20
  rintro ⟨h68_, h69_⟩
  refine ⟨h7_, ?_⟩
  refine ⟨h8_, ?_⟩
  refine ⟨(sm_PV_m h9_ (Int.le_refl _) h34_ sm_F1_rf), ?_⟩
  refine ⟨h10_, ?_⟩
  refine ⟨h11_, ?_⟩
  refine ⟨h12_, ?_⟩
  refine ⟨h13_, ?_⟩
  refine ⟨h14_, ?_⟩
  refine ⟨h15_, ?_⟩
  refine ⟨h16_, ?_⟩
  refine ⟨h17_, ?_⟩
  refine ⟨h18_, ?_⟩
  refine ⟨h19_, ?_⟩
  refine ⟨?_, ?_⟩
  · skip
    intro h70_
    exact h20_
  refine ⟨la_hasOwn_2, ?_⟩
  refine ⟨(la_hasOwn_3 h22_ h34_), ?_⟩
  refine ⟨h35_, ?_⟩
  refine ⟨h36_, ?_⟩
  refine ⟨h34_, ?_⟩
  refine ⟨la_hasOwn_2, ?_⟩
  refine ⟨la_hasOwn_4, ?_⟩
  intro h71_
  exact (sm_VO_i (la_hasOwn_13 h68_) (la_hasOwn_14 h68_) (la_hasOwn_15 h22_ h34_ h69_) (la_hasOwn_16 h21_ h68_ h69_))
set_option maxRecDepth 8000 in
set_option maxHeartbeats 2000000 in
theorem t_hasOwn : ∀ (p1 : Int) (p2 : Int) (p3 : Int) (S : sv_S), sm_ok S → sv_R p1 → sv_R p2 → sv_R p3 → ((S 1075 0) = 0 ∧ (S 1073 0) = 1 ∧ sm_PL (S 1100020) (S 51) (S 52) (S 46) (S 47) (S 1076 0) (S 1086 0) ∧ sm_FR (S 1100020) (S 52) (S 1100021) (S 1100022) (3000 - (S 1084 0)) (S 1085 0) ∧ sm_PV (S 1100020) (S 48) (S 49) (S 50) (S 44) (S 1076 0) (S 1007 0) ∧ sm_AL (S 1100020) (S 48) (S 49) (S 50) (S 44) (S 1076 0) (S 1100032 0) ∧ sm_SV (S 1100020) (S 48) (S 1100029) (S 32) (S 33) (S 1076 0) (S 1032 0) ∧ 0 ≤ (S 1076 0) ∧ (S 1076 0) ≤ 300 ∧ 0 ≤ (S 1084 0) ∧ (S 1084 0) ≤ 3000 ∧ 0 ≤ (S 1086 0) ∧ sm_SC (S 1100029) (S 44) (S 45) (S 43) (S 21) (S 1076 0) (S 1032 0) ∧ sm_PO (S 42) (S 1076 0) ∧ (S 1100032 0) = -1 ∧ sm_FO (S 44) (S 45) (S 1076 0) ∧ 23 ≤ (S 1076 0) ∧ 31 ≤ (S 1007 0) ∧ (S 1007 0) ≤ 400 ∧ sm_LN (S 4) 400 (S 1007 0) ∧ (S 1008 0) ≤ (S 1007 0) ∧ (S 1086 0) ≤ 1900000000 ∧ 0 ≤ p1 ∧ p1 < (S 1076 0) ∧ sm_VO (S 44) (S 1076 0) (S 1007 0) (p2) (p3)) → sv_T sm_XS sm_cs sm_L sm_sh 4 (q_hasOwn p1 p2 p3 S) 190 0 (lv_args 0 [.ref 0, sv_I p1, sv_I p2, sv_I p3]) [] S := by
  intro p1 p2 p3 S hok hp1 hp2 hp3 hpre
  have h := f_hasOwn p1 p2 p3 S hok hp1 hp2 hp3 hpre
  have hM := sm_h190
  show sv_T sm_XS sm_cs sm_L sm_sh 4 (q_hasOwn p1 p2 p3 S) 190 0 [(0, .ref 0), (1, sv_I p1), (2, sv_I p2), (3, sv_I p3)] [] S
  refine sv_aload_n hM dX12_hasOwn_0 rfl rfl ?_
  refine sv_iload_n hM dX12_hasOwn_1 rfl rfl ?_
  refine sv_iload_n hM dX12_hasOwn_2 rfl rfl ?_
  obtain ⟨o1, h⟩ := h
  refine sv_callV hM dX12_hasOwn_3 sm_iv_969 (by decide) (sm_a0 _) rfl rfl (Nat.le_of_ble_eq_true rfl) sm_h126 (Nat.le_of_ble_eq_true rfl) (Nat.le_of_ble_eq_true rfl) (F' := 3) (Nat.le_of_ble_eq_true rfl) rfl (t_textOf p2 p3 S hok hp2 hp3 o1) (fun v S1 hq => ?_)
  obtain ⟨r6, rfl, hr6, ok3, md4, hpo5⟩ := hq
  obtain ⟨g2, rfl⟩ : ∃ g, S1 = sv_sts S [5, 1011, 3, 4, 1007, 1075] g := ⟨_, md4.eq⟩
  show sv_T sm_XS sm_cs sm_L sm_sh 4 (q_hasOwn p1 p2 p3 S) 190 6 [(0, .ref 0), (1, sv_I p1), (2, sv_I p2), (3, sv_I p3)] [sv_I r6] (sv_sts S [5, 1011, 3, 4, 1007, 1075] g2)
  have md7 : sv_mod [5, 1011, 3, 4, 1007, 1075, 1111, 1112] S (sv_sts S [5, 1011, 3, 4, 1007, 1075] g2) := sv_mod.sts sv_mod.rf (by decide)
  have h := h r6 hr6 g2 hpo5
  refine sv_istore hM dX12_hasOwn_6 (by decide) rfl ?_
  show sv_T sm_XS sm_cs sm_L sm_sh 4 (q_hasOwn p1 p2 p3 S) 190 8 [(0, .ref 0), (1, sv_I p1), (2, sv_I p2), (3, sv_I p3), (4, sv_I r6)] [] (sv_sts S [5, 1011, 3, 4, 1007, 1075] g2)
  refine sv_aload_n hM dX12_hasOwn_8 rfl rfl ?_
  have k8 : (0 ≤ (g2 1075 0) ∧ (g2 1075 0) ≤ 1) := sm_okZ ok3 sm_r1075 0
  have h := h k8
  refine sv_getI hM dX12_hasOwn_9 sm_fl_794 (sm_a0 _) sm_k75 rfl (x := (g2 1075 0)) rfl ?_
  refine sv_cond_ne hM dX12_hasOwn_12 (sv_R01 k8) (t := 35) rfl rfl (fun hc => ?_) (fun hc => ?_)
  · have h := h.1 (hc)
    exact sv_vret hM dX12_hasOwn_35 rfl ⟨rfl, ok3, md7, h⟩
  · have h := h.2 (hc)
    refine sv_aload_n hM dX12_hasOwn_15 rfl rfl ?_
    refine sv_aload_n hM dX12_hasOwn_16 rfl rfl ?_
    refine sv_iload_n hM dX12_hasOwn_17 rfl rfl ?_
    refine sv_iload hM dX12_hasOwn_18 rfl rfl ?_
    obtain ⟨o9, h⟩ := h
    refine sv_callV hM dX12_hasOwn_20 sm_iv_846 (by decide) (sm_a0 _) rfl rfl (Nat.le_of_ble_eq_true rfl) sm_h140 (Nat.le_of_ble_eq_true rfl) (Nat.le_of_ble_eq_true rfl) (F' := 0) (Nat.le_of_ble_eq_true rfl) rfl (t_findProperty p1 r6 (sv_sts S [5, 1011, 3, 4, 1007, 1075] g2) ok3 hp1 hr6 o9) (fun v S1 hq => ?_)
    obtain ⟨r14, rfl, hr14, ok11, md12, hpo13⟩ := hq
    obtain rfl : (sv_sts S [5, 1011, 3, 4, 1007, 1075] g2) = S1 := (funext fun j => md12 j (by intro q; cases q)).symm
    show sv_T sm_XS sm_cs sm_L sm_sh 4 (q_hasOwn p1 p2 p3 S) 190 23 [(0, .ref 0), (1, sv_I p1), (2, sv_I p2), (3, sv_I p3), (4, sv_I r6)] [sv_I r14, .ref 0] (sv_sts S [5, 1011, 3, 4, 1007, 1075] g2)
    have h := h r14 hr14 hpo13
    refine sv_iconst (d := (-1 : Int)) hM dX12_hasOwn_23 rfl rfl ?_
    refine sv_icmp_eq hM dX12_hasOwn_24 hr14 (⟨by decide, by decide⟩ : sv_R (-1 : Int)) (t := 31) rfl rfl (fun hc => ?_) (fun hc => ?_)
    · have h := h.1 (hc)
      refine sv_iconst (d := (0 : Int)) hM dX12_hasOwn_31 rfl rfl ?_
      refine sv_callV hM dX12_hasOwn_32 sm_iv_827 (by decide) (sm_a0 _) rfl rfl (Nat.le_of_ble_eq_true rfl) sm_h134 (Nat.le_of_ble_eq_true rfl) (Nat.le_of_ble_eq_true rfl) (F' := 1) (Nat.le_of_ble_eq_true rfl) rfl (t_truth (0 : Int) (sv_sts S [5, 1011, 3, 4, 1007, 1075] g2) ok11 (⟨by decide, by decide⟩ : 0 ≤ (0 : Int) ∧ (0 : Int) ≤ 1)) (fun v S1 hq => ?_)
      obtain ⟨rfl, ok16, md17, hpo18⟩ := hq
      obtain ⟨g15, rfl⟩ : ∃ g, S1 = sv_sts (sv_sts S [5, 1011, 3, 4, 1007, 1075] g2) [1111, 1112] g := ⟨_, md17.eq⟩
      show sv_T sm_XS sm_cs sm_L sm_sh 4 (q_hasOwn p1 p2 p3 S) 190 35 [(0, .ref 0), (1, sv_I p1), (2, sv_I p2), (3, sv_I p3), (4, sv_I r6)] [] (sv_sts (sv_sts S [5, 1011, 3, 4, 1007, 1075] g2) [1111, 1112] g15)
      have md19 : sv_mod [5, 1011, 3, 4, 1007, 1075, 1111, 1112] S (sv_sts (sv_sts S [5, 1011, 3, 4, 1007, 1075] g2) [1111, 1112] g15) := sv_mod.sts md7 (by decide)
      have h := h g15 hpo18
      exact sv_vret hM dX12_hasOwn_35 rfl ⟨rfl, ok16, md19, h⟩
    · have h := h.2 (hc)
      refine sv_iconst (d := (1 : Int)) hM dX12_hasOwn_27 rfl rfl ?_
      refine sv_goto hM dX12_hasOwn_28 (pc' := 32) rfl ?_
      refine sv_callV hM dX12_hasOwn_32 sm_iv_827 (by decide) (sm_a0 _) rfl rfl (Nat.le_of_ble_eq_true rfl) sm_h134 (Nat.le_of_ble_eq_true rfl) (Nat.le_of_ble_eq_true rfl) (F' := 1) (Nat.le_of_ble_eq_true rfl) rfl (t_truth (1 : Int) (sv_sts S [5, 1011, 3, 4, 1007, 1075] g2) ok11 (⟨by decide, by decide⟩ : 0 ≤ (1 : Int) ∧ (1 : Int) ≤ 1)) (fun v S1 hq => ?_)
      obtain ⟨rfl, ok21, md22, hpo23⟩ := hq
      obtain ⟨g20, rfl⟩ : ∃ g, S1 = sv_sts (sv_sts S [5, 1011, 3, 4, 1007, 1075] g2) [1111, 1112] g := ⟨_, md22.eq⟩
      show sv_T sm_XS sm_cs sm_L sm_sh 4 (q_hasOwn p1 p2 p3 S) 190 35 [(0, .ref 0), (1, sv_I p1), (2, sv_I p2), (3, sv_I p3), (4, sv_I r6)] [] (sv_sts (sv_sts S [5, 1011, 3, 4, 1007, 1075] g2) [1111, 1112] g20)
      have md24 : sv_mod [5, 1011, 3, 4, 1007, 1075, 1111, 1112] S (sv_sts (sv_sts S [5, 1011, 3, 4, 1007, 1075] g2) [1111, 1112] g20) := sv_mod.sts md7 (by decide)
      have h := h g20 hpo23
      exact sv_vret hM dX12_hasOwn_35 rfl ⟨rfl, ok21, md24, h⟩
def q_charAt (p1 : Int) (p2 : Int) (p3 : Int) (S : sv_S) : Option Value → sv_S → Prop := fun v S' => v = none ∧ sm_ok S' ∧ sv_mod [5, 1011, 3, 4, 1007, 1075, 1113, 1111, 1112] S S' ∧ (sm_PL (S' 1100020) (S' 51) (S' 52) (S' 46) (S' 47) (S' 1076 0) (S' 1086 0) ∧ sm_FR (S' 1100020) (S' 52) (S' 1100021) (S' 1100022) (3000 - (S' 1084 0)) (S' 1085 0) ∧ sm_PV (S' 1100020) (S' 48) (S' 49) (S' 50) (S' 44) (S' 1076 0) (S' 1007 0) ∧ sm_AL (S' 1100020) (S' 48) (S' 49) (S' 50) (S' 44) (S' 1076 0) (S' 1100032 0) ∧ sm_SV (S' 1100020) (S' 48) (S' 1100029) (S' 32) (S' 33) (S' 1076 0) (S' 1032 0) ∧ 0 ≤ (S' 1076 0) ∧ (S' 1076 0) ≤ 300 ∧ 0 ≤ (S' 1084 0) ∧ (S' 1084 0) ≤ 3000 ∧ 0 ≤ (S' 1086 0) ∧ sm_SC (S' 1100029) (S' 44) (S' 45) (S' 43) (S' 21) (S' 1076 0) (S' 1032 0) ∧ sm_PO (S' 42) (S' 1076 0) ∧ (S' 1100032 0) = -1 ∧ (sm_FO (S 44) (S 45) (S 1076 0) → sm_FO (S' 44) (S' 45) (S' 1076 0)) ∧ (S 1076 0) ≤ (S' 1076 0) ∧ 31 ≤ (S' 1007 0) ∧ (S' 1007 0) ≤ 400 ∧ sm_LN (S' 4) 400 (S' 1007 0) ∧ (S 1007 0) ≤ (S' 1007 0) ∧ (S 1086 0) ≤ (S' 1086 0) ∧ (S' 1086 0) ≤ (S 1086 0) + 3 ∧ ((S' 1075 0) = 0 → sm_VO (S' 44) (S' 1076 0) (S' 1007 0) ((S' 1111 0)) ((S' 1112 0))))
theorem la_charAt_0 {x0 x1 x2 : Int} (h0 : x0 ≤ 400) (h1 : x1 = 6 → 0 ≤ x2 ∧ x2 < x0) : x1 = 6 → 0 ≤ x2 ∧ x2 < 400 := by omega
theorem la_charAt_1 {x0 x1 : Int} (h0 : x0 ≤ 400) (h1 : 0 ≤ x1) (h2 : x1 < x0) : 0 ≤ x1 ∧ x1 < 400 := by omega
theorem la_charAt_2 {x0 x1 : Int} (h0 : x0 ≤ 400) (h1 : x1 < x0) : x1 < 400 := by omega
theorem la_charAt_3 {x0 : Int} (h0 : 0 ≤ x0) (h1 : x0 ≤ 90) : sv_R (x0 - 1) := by omega
theorem la_charAt_4 : (0 : Int) ≤ 0 := by omega
theorem la_charAt_5 : (0 : Int) ≤ 0 ∧ (0 : Int) ≤ 200 := by omega
theorem la_charAt_6 {x0 : Int} (h0 : x0 = 0) : ¬ x0 = 1 := by omega
theorem la_charAt_7 {x0 : Int} : x0 ≤ x0 := by omega
theorem la_charAt_8 {x0 x1 : Int} (h0 : 31 ≤ x0) (h1 : x0 ≤ x1) : 31 ≤ x1 := by omega
theorem la_charAt_9 {x0 : Int} : x0 ≤ x0 + 3 := by omega
theorem la_charAt_10 {x0 : Int} (h0 : x0 = 6) : 0 ≤ x0 := by omega
theorem la_charAt_11 {x0 : Int} (h0 : x0 = 6) : x0 ≤ 7 := by omega
theorem la_charAt_12 {x0 x1 x2 x3 : Int} (h0 : 0 ≤ x0) (h1 : x0 < x1) (h2 : x2 = x0) : x3 = 6 → 0 ≤ x2 ∧ x2 < x1 := by omega
theorem la_charAt_13 {x0 x1 x2 x3 : Int} (h0 : x0 = 6) : x0 = 7 → 0 ≤ x1 ∧ x1 < x2 ∧ ¬ x3 = 3 := by omega
theorem la_charAt_14 {x0 x1 : Int} (h0 : x0 ≤ 400) (h1 : 0 ≤ x1) (h2 : x1 < x0) : 0 ≤ 60 * x1 + 0 ∧ 60 * x1 + 0 < 24000 := by omega
theorem la_charAt_15 {x0 : Int} (h0 : 0 ≤ x0) (h1 : x0 ≤ 65535) : (0 : Int) ≤ 0 ∧ (0 : Int) < 200 ∧ 0 ≤ x0 ∧ x0 ≤ 65535 := by omega
theorem la_charAt_16 {x0 : Int} (h0 : x0 = 0 + 1) : 0 ≤ x0 ∧ x0 ≤ 200 := by omega
theorem la_charAt_17 {x0 : Int} (h0 : 0 ≤ x0) (h1 : ¬ x0 = 0) : 0 < x0 := by omega
theorem la_charAt_18 {x0 x1 : Int} (h0 : 0 ≤ x0) (h1 : 0 ≤ x1) : 0 ≤ 60 * x0 + x1 := by omega
theorem la_charAt_19 {x0 x1 x2 : Int} (h0 : x0 ≤ x1 - 1) (h1 : 60 * x2 + x1 ≤ 24000) : 60 * x2 + x0 < 24000 := by omega
set_option maxHeartbeats 2000000 in
theorem f_charAt : ∀ (p1 : Int) (p2 : Int) (p3 : Int) (S : sv_S), sm_ok S → sv_R p1 → sv_R p2 → sv_R p3 → ((S 1075 0) = 0 ∧ (S 1073 0) = 1 ∧ sm_PL (S 1100020) (S 51) (S 52) (S 46) (S 47) (S 1076 0) (S 1086 0) ∧ sm_FR (S 1100020) (S 52) (S 1100021) (S 1100022) (3000 - (S 1084 0)) (S 1085 0) ∧ sm_PV (S 1100020) (S 48) (S 49) (S 50) (S 44) (S 1076 0) (S 1007 0) ∧ sm_AL (S 1100020) (S 48) (S 49) (S 50) (S 44) (S 1076 0) (S 1100032 0) ∧ sm_SV (S 1100020) (S 48) (S 1100029) (S 32) (S 33) (S 1076 0) (S 1032 0) ∧ 0 ≤ (S 1076 0) ∧ (S 1076 0) ≤ 300 ∧ 0 ≤ (S 1084 0) ∧ (S 1084 0) ≤ 3000 ∧ 0 ≤ (S 1086 0) ∧ sm_SC (S 1100029) (S 44) (S 45) (S 43) (S 21) (S 1076 0) (S 1032 0) ∧ sm_PO (S 42) (S 1076 0) ∧ (S 1100032 0) = -1 ∧ sm_FO (S 44) (S 45) (S 1076 0) ∧ 23 ≤ (S 1076 0) ∧ 31 ≤ (S 1007 0) ∧ (S 1007 0) ≤ 400 ∧ sm_LN (S 4) 400 (S 1007 0) ∧ (S 1008 0) ≤ (S 1007 0) ∧ (S 1086 0) ≤ 1900000000 ∧ 0 ≤ p1 ∧ p1 < (S 1007 0) ∧ sm_VO (S 44) (S 1076 0) (S 1007 0) (p2) (p3)) → (31 ≤ (S 1007 0) ∧ (S 1007 0) ≤ 400 ∧ sm_LN (S 4) 400 (S 1007 0) ∧ (p2 = 6 → 0 ≤ p3 ∧ p3 < 400)) ∧ (∀ r6 : Int, sv_R r6 → ∀ g2 : sv_S, (True) → ((0 ≤ (g2 1113 0) ∧ (g2 1113 0) ≤ 1) → ((((g2 1113 0) = (0 : Int)) → (0 ≤ p1 ∧ p1 < 400) ∧ (sv_R (S 4 p1) → (sv_R ((S 4 p1) - (1 : Int))) ∧ (((¬ ((0 : Int) ≤ (0 : Int) ∧ (0 : Int) ≤ ((S 4 p1) - (1 : Int)))) → (31 ≤ (S 1007 0) ∧ (S 1007 0) ≤ 400 ∧ sm_LN (S 4) 400 (S 1007 0) ∧ 0 ≤ (0 : Int) ∧ (0 : Int) ≤ 200) ∧ (∀ r19 : Int, sv_R r19 → ∀ g15 : sv_S, (0 ≤ r19 ∧ r19 < (g15 1007 0) ∧ ((g15 1075 0) = 0 → (g15 4 r19) = (g15 1011 0)) ∧ (g15 1011 0) ≤ (0 : Int) ∧ (S 1007 0) ≤ (g15 1007 0) ∧ (g15 1007 0) ≤ 400 ∧ sm_LN (g15 4) 400 (g15 1007 0) ∧ ((S 1075 0) = 1 → (g15 1075 0) = 1)) → (∀ g21 : sv_S, ((g21 1111 0) = (6 : Int) ∧ (g21 1112 0) = r19) → (sm_PL (S 1100020) (S 51) (S 52) (S 46) (S 47) (S 1076 0) (S 1086 0) ∧ sm_FR (S 1100020) (S 52) (S 1100021) (S 1100022) (3000 - (S 1084 0)) (S 1085 0) ∧ sm_PV (S 1100020) (S 48) (S 49) (S 50) (S 44) (S 1076 0) (g15 1007 0) ∧ sm_AL (S 1100020) (S 48) (S 49) (S 50) (S 44) (S 1076 0) (S 1100032 0) ∧ sm_SV (S 1100020) (S 48) (S 1100029) (S 32) (S 33) (S 1076 0) (S 1032 0) ∧ 0 ≤ (S 1076 0) ∧ (S 1076 0) ≤ 300 ∧ 0 ≤ (S 1084 0) ∧ (S 1084 0) ≤ 3000 ∧ 0 ≤ (S 1086 0) ∧ sm_SC (S 1100029) (S 44) (S 45) (S 43) (S 21) (S 1076 0) (S 1032 0) ∧ sm_PO (S 42) (S 1076 0) ∧ (S 1100032 0) = -1 ∧ (sm_FO (S 44) (S 45) (S 1076 0) → sm_FO (S 44) (S 45) (S 1076 0)) ∧ (S 1076 0) ≤ (S 1076 0) ∧ 31 ≤ (g15 1007 0) ∧ (g15 1007 0) ≤ 400 ∧ sm_LN (g15 4) 400 (g15 1007 0) ∧ (S 1007 0) ≤ (g15 1007 0) ∧ (S 1086 0) ≤ (S 1086 0) ∧ (S 1086 0) ≤ (S 1086 0) + 3 ∧ ((g15 1075 0) = 0 → sm_VO (S 44) (S 1076 0) (g15 1007 0) ((g21 1111 0)) ((g21 1112 0))))))) ∧ (((0 : Int) ≤ (0 : Int) ∧ (0 : Int) ≤ ((S 4 p1) - (1 : Int))) → (0 ≤ (((60 : Int) * p1) + (0 : Int)) ∧ (((60 : Int) * p1) + (0 : Int)) < 24000) ∧ ((0 ≤ (S 3 (((60 : Int) * p1) + (0 : Int))) ∧ (S 3 (((60 : Int) * p1) + (0 : Int))) ≤ 65535) → (0 ≤ (0 : Int) ∧ (0 : Int) < 200 ∧ 0 ≤ (S 3 (((60 : Int) * p1) + (0 : Int))) ∧ (S 3 (((60 : Int) * p1) + (0 : Int))) ≤ 65535) ∧ (∀ g29 : sv_S, ((g29 1011 0) = (0 : Int) + 1) → (31 ≤ (S 1007 0) ∧ (S 1007 0) ≤ 400 ∧ sm_LN (S 4) 400 (S 1007 0) ∧ 0 ≤ (g29 1011 0) ∧ (g29 1011 0) ≤ 200) ∧ (∀ r39 : Int, sv_R r39 → ∀ g35 : sv_S, (0 ≤ r39 ∧ r39 < (g35 1007 0) ∧ ((g35 1075 0) = 0 → (g35 4 r39) = (g35 1011 0)) ∧ (g35 1011 0) ≤ (g29 1011 0) ∧ (S 1007 0) ≤ (g35 1007 0) ∧ (g35 1007 0) ≤ 400 ∧ sm_LN (g35 4) 400 (g35 1007 0) ∧ ((S 1075 0) = 1 → (g35 1075 0) = 1)) → (∀ g41 : sv_S, ((g41 1111 0) = (6 : Int) ∧ (g41 1112 0) = r39) → (sm_PL (S 1100020) (S 51) (S 52) (S 46) (S 47) (S 1076 0) (S 1086 0) ∧ sm_FR (S 1100020) (S 52) (S 1100021) (S 1100022) (3000 - (S 1084 0)) (S 1085 0) ∧ sm_PV (S 1100020) (S 48) (S 49) (S 50) (S 44) (S 1076 0) (g35 1007 0) ∧ sm_AL (S 1100020) (S 48) (S 49) (S 50) (S 44) (S 1076 0) (S 1100032 0) ∧ sm_SV (S 1100020) (S 48) (S 1100029) (S 32) (S 33) (S 1076 0) (S 1032 0) ∧ 0 ≤ (S 1076 0) ∧ (S 1076 0) ≤ 300 ∧ 0 ≤ (S 1084 0) ∧ (S 1084 0) ≤ 3000 ∧ 0 ≤ (S 1086 0) ∧ sm_SC (S 1100029) (S 44) (S 45) (S 43) (S 21) (S 1076 0) (S 1032 0) ∧ sm_PO (S 42) (S 1076 0) ∧ (S 1100032 0) = -1 ∧ (sm_FO (S 44) (S 45) (S 1076 0) → sm_FO (S 44) (S 45) (S 1076 0)) ∧ (S 1076 0) ≤ (S 1076 0) ∧ 31 ≤ (g35 1007 0) ∧ (g35 1007 0) ≤ 400 ∧ sm_LN (g35 4) 400 (g35 1007 0) ∧ (S 1007 0) ≤ (g35 1007 0) ∧ (S 1086 0) ≤ (S 1086 0) ∧ (S 1086 0) ≤ (S 1086 0) + 3 ∧ ((g35 1075 0) = 0 → sm_VO (S 44) (S 1076 0) (g35 1007 0) ((g41 1111 0)) ((g41 1112 0)))))))))))) ∧ ((¬ ((g2 1113 0) = (0 : Int))) → (0 ≤ p1 ∧ p1 < 400) ∧ (sv_R (S 4 p1) → (sv_R ((S 4 p1) - (1 : Int))) ∧ (((¬ ((0 : Int) ≤ r6 ∧ r6 ≤ ((S 4 p1) - (1 : Int)))) → (31 ≤ (S 1007 0) ∧ (S 1007 0) ≤ 400 ∧ sm_LN (S 4) 400 (S 1007 0) ∧ 0 ≤ (0 : Int) ∧ (0 : Int) ≤ 200) ∧ (∀ r54 : Int, sv_R r54 → ∀ g50 : sv_S, (0 ≤ r54 ∧ r54 < (g50 1007 0) ∧ ((g50 1075 0) = 0 → (g50 4 r54) = (g50 1011 0)) ∧ (g50 1011 0) ≤ (0 : Int) ∧ (S 1007 0) ≤ (g50 1007 0) ∧ (g50 1007 0) ≤ 400 ∧ sm_LN (g50 4) 400 (g50 1007 0) ∧ ((S 1075 0) = 1 → (g50 1075 0) = 1)) → (∀ g56 : sv_S, ((g56 1111 0) = (6 : Int) ∧ (g56 1112 0) = r54) → (sm_PL (S 1100020) (S 51) (S 52) (S 46) (S 47) (S 1076 0) (S 1086 0) ∧ sm_FR (S 1100020) (S 52) (S 1100021) (S 1100022) (3000 - (S 1084 0)) (S 1085 0) ∧ sm_PV (S 1100020) (S 48) (S 49) (S 50) (S 44) (S 1076 0) (g50 1007 0) ∧ sm_AL (S 1100020) (S 48) (S 49) (S 50) (S 44) (S 1076 0) (S 1100032 0) ∧ sm_SV (S 1100020) (S 48) (S 1100029) (S 32) (S 33) (S 1076 0) (S 1032 0) ∧ 0 ≤ (S 1076 0) ∧ (S 1076 0) ≤ 300 ∧ 0 ≤ (S 1084 0) ∧ (S 1084 0) ≤ 3000 ∧ 0 ≤ (S 1086 0) ∧ sm_SC (S 1100029) (S 44) (S 45) (S 43) (S 21) (S 1076 0) (S 1032 0) ∧ sm_PO (S 42) (S 1076 0) ∧ (S 1100032 0) = -1 ∧ (sm_FO (S 44) (S 45) (S 1076 0) → sm_FO (S 44) (S 45) (S 1076 0)) ∧ (S 1076 0) ≤ (S 1076 0) ∧ 31 ≤ (g50 1007 0) ∧ (g50 1007 0) ≤ 400 ∧ sm_LN (g50 4) 400 (g50 1007 0) ∧ (S 1007 0) ≤ (g50 1007 0) ∧ (S 1086 0) ≤ (S 1086 0) ∧ (S 1086 0) ≤ (S 1086 0) + 3 ∧ ((g50 1075 0) = 0 → sm_VO (S 44) (S 1076 0) (g50 1007 0) ((g56 1111 0)) ((g56 1112 0))))))) ∧ (((0 : Int) ≤ r6 ∧ r6 ≤ ((S 4 p1) - (1 : Int))) → (0 ≤ (((60 : Int) * p1) + r6) ∧ (((60 : Int) * p1) + r6) < 24000) ∧ ((0 ≤ (S 3 (((60 : Int) * p1) + r6)) ∧ (S 3 (((60 : Int) * p1) + r6)) ≤ 65535) → (0 ≤ (0 : Int) ∧ (0 : Int) < 200 ∧ 0 ≤ (S 3 (((60 : Int) * p1) + r6)) ∧ (S 3 (((60 : Int) * p1) + r6)) ≤ 65535) ∧ (∀ g64 : sv_S, ((g64 1011 0) = (0 : Int) + 1) → (31 ≤ (S 1007 0) ∧ (S 1007 0) ≤ 400 ∧ sm_LN (S 4) 400 (S 1007 0) ∧ 0 ≤ (g64 1011 0) ∧ (g64 1011 0) ≤ 200) ∧ (∀ r74 : Int, sv_R r74 → ∀ g70 : sv_S, (0 ≤ r74 ∧ r74 < (g70 1007 0) ∧ ((g70 1075 0) = 0 → (g70 4 r74) = (g70 1011 0)) ∧ (g70 1011 0) ≤ (g64 1011 0) ∧ (S 1007 0) ≤ (g70 1007 0) ∧ (g70 1007 0) ≤ 400 ∧ sm_LN (g70 4) 400 (g70 1007 0) ∧ ((S 1075 0) = 1 → (g70 1075 0) = 1)) → (∀ g76 : sv_S, ((g76 1111 0) = (6 : Int) ∧ (g76 1112 0) = r74) → (sm_PL (S 1100020) (S 51) (S 52) (S 46) (S 47) (S 1076 0) (S 1086 0) ∧ sm_FR (S 1100020) (S 52) (S 1100021) (S 1100022) (3000 - (S 1084 0)) (S 1085 0) ∧ sm_PV (S 1100020) (S 48) (S 49) (S 50) (S 44) (S 1076 0) (g70 1007 0) ∧ sm_AL (S 1100020) (S 48) (S 49) (S 50) (S 44) (S 1076 0) (S 1100032 0) ∧ sm_SV (S 1100020) (S 48) (S 1100029) (S 32) (S 33) (S 1076 0) (S 1032 0) ∧ 0 ≤ (S 1076 0) ∧ (S 1076 0) ≤ 300 ∧ 0 ≤ (S 1084 0) ∧ (S 1084 0) ≤ 3000 ∧ 0 ≤ (S 1086 0) ∧ sm_SC (S 1100029) (S 44) (S 45) (S 43) (S 21) (S 1076 0) (S 1032 0) ∧ sm_PO (S 42) (S 1076 0) ∧ (S 1100032 0) = -1 ∧ (sm_FO (S 44) (S 45) (S 1076 0) → sm_FO (S 44) (S 45) (S 1076 0)) ∧ (S 1076 0) ≤ (S 1076 0) ∧ 31 ≤ (g70 1007 0) ∧ (g70 1007 0) ≤ 400 ∧ sm_LN (g70 4) 400 (g70 1007 0) ∧ (S 1007 0) ≤ (g70 1007 0) ∧ (S 1086 0) ≤ (S 1086 0) ∧ (S 1086 0) ≤ (S 1086 0) + 3 ∧ ((g70 1075 0) = 0 → sm_VO (S 44) (S 1076 0) (g70 1007 0) ((g76 1111 0)) ((g76 1112 0))))))))))))))) := by
  intro p1
  intro p2
  intro p3
  intro S
  intro h1_
  intro h2_
  intro h3_
  intro h4_
  rintro ⟨h5_, ⟨h6_, ⟨h7_, ⟨h8_, ⟨h9_, ⟨h10_, ⟨h11_, ⟨h12_, ⟨h13_, ⟨h14_, ⟨h15_, ⟨h16_, ⟨h17_, ⟨h18_, ⟨h19_, ⟨h20_, ⟨h21_, ⟨h22_, ⟨h23_, ⟨h24_, ⟨h25_, ⟨h26_, ⟨h27_, ⟨h28_, h29_⟩⟩⟩⟩⟩⟩⟩⟩⟩⟩⟩⟩⟩⟩⟩⟩⟩⟩⟩⟩⟩⟩⟩⟩
  refine ⟨⟨h22_, ⟨h23_, ⟨h24_, (la_charAt_0 h23_ (sm_VO_e h29_).2.2.1)⟩⟩⟩, ?_⟩
  intro r6
  intro h30_
  intro g2
  intro _
  rintro ⟨h31_, h32_⟩
  refine ⟨?_, ?_⟩
  · skip
    intro h33_
    refine ⟨(la_charAt_1 h23_ h27_ h28_), ?_⟩
    intro h34_
    refine ⟨?_, ?_⟩
    · skip
      exact (la_charAt_3 (sm_LN_at h24_ p1 h27_ (la_charAt_2 h23_ h28_)).1 (sm_LN_at h24_ p1 h27_ (la_charAt_2 h23_ h28_)).2.1)
    refine ⟨?_, ?_⟩
    · skip
      intro h35_
      have h36_ : ¬ (0 ≤ S 4 p1 - 1) := fun q_ => h35_ ⟨la_charAt_4, q_⟩
      refine ⟨⟨h22_, ⟨h23_, ⟨h24_, la_charAt_5⟩⟩⟩, ?_⟩
      intro r19
      intro h37_
      intro g15
      rintro ⟨h38_, ⟨h39_, ⟨h40_, ⟨h41_, ⟨h42_, ⟨h43_, ⟨h44_, h45_⟩⟩⟩⟩⟩⟩⟩
      intro g21
      rintro ⟨h46_, h47_⟩
      refine ⟨h7_, ?_⟩
      refine ⟨h8_, ?_⟩
      refine ⟨(sm_PV_m h9_ (Int.le_refl _) h42_ sm_F1_rf), ?_⟩
      refine ⟨h10_, ?_⟩
      refine ⟨h11_, ?_⟩
      refine ⟨h12_, ?_⟩
      refine ⟨h13_, ?_⟩
      refine ⟨h14_, ?_⟩
      refine ⟨h15_, ?_⟩
      refine ⟨h16_, ?_⟩
      refine ⟨h17_, ?_⟩
      refine ⟨h18_, ?_⟩
      refine ⟨h19_, ?_⟩
      refine ⟨?_, ?_⟩
      · skip
        intro h48_
        exact h20_
      refine ⟨la_charAt_7, ?_⟩
      refine ⟨(la_charAt_8 h22_ h42_), ?_⟩
      refine ⟨h43_, ?_⟩
      refine ⟨h44_, ?_⟩
      refine ⟨h42_, ?_⟩
      refine ⟨la_charAt_7, ?_⟩
      refine ⟨la_charAt_9, ?_⟩
      intro h49_
      have h50_ := (h40_ h49_)
      exact (sm_VO_i (la_charAt_10 h46_) (la_charAt_11 h46_) (la_charAt_12 h38_ h39_ h47_) (la_charAt_13 h46_))
    rintro ⟨h51_, h52_⟩
    refine ⟨(la_charAt_14 h23_ h27_ h28_), ?_⟩
    rintro ⟨h53_, h54_⟩
    refine ⟨(la_charAt_15 h53_ h54_), ?_⟩
    intro g29
    intro h55_
    refine ⟨⟨h22_, ⟨h23_, ⟨h24_, (la_charAt_16 h55_)⟩⟩⟩, ?_⟩
    intro r39
    intro h56_
    intro g35
    rintro ⟨h57_, ⟨h58_, ⟨h59_, ⟨h60_, ⟨h61_, ⟨h62_, ⟨h63_, h64_⟩⟩⟩⟩⟩⟩⟩
    intro g41
    rintro ⟨h65_, h66_⟩
    refine ⟨h7_, ?_⟩
    refine ⟨h8_, ?_⟩
    refine ⟨(sm_PV_m h9_ (Int.le_refl _) h61_ sm_F1_rf), ?_⟩
    refine ⟨h10_, ?_⟩
    refine ⟨h11_, ?_⟩
    refine ⟨h12_, ?_⟩
    refine ⟨h13_, ?_⟩
    refine ⟨h14_, ?_⟩
    refine ⟨h15_, ?_⟩
    refine ⟨h16_, ?_⟩
    refine ⟨h17_, ?_⟩
    refine ⟨h18_, ?_⟩
    refine ⟨h19_, ?_⟩
    refine ⟨?_, ?_⟩
    · skip
      intro h67_
      exact h20_
    refine ⟨la_charAt_7, ?_⟩
    refine ⟨(la_charAt_8 h22_ h61_), ?_⟩
    refine ⟨h62_, ?_⟩
    refine ⟨h63_, ?_⟩
    refine ⟨h61_, ?_⟩
    refine ⟨la_charAt_7, ?_⟩
    refine ⟨la_charAt_9, ?_⟩
    intro h68_
    have h69_ := (h59_ h68_)
    exact (sm_VO_i (la_charAt_10 h65_) (la_charAt_11 h65_) (la_charAt_12 h57_ h58_ h66_) (la_charAt_13 h65_))
  intro h70_
  refine ⟨(la_charAt_1 h23_ h27_ h28_), ?_⟩
  intro h71_
  refine ⟨?_, ?_⟩
  · skip
    exact (la_charAt_3 (sm_LN_at h24_ p1 h27_ (la_charAt_2 h23_ h28_)).1 (sm_LN_at h24_ p1 h27_ (la_charAt_2 h23_ h28_)).2.1)
  refine ⟨?_, ?_⟩
  · skip
    intro h72_
    refine ⟨⟨h22_, ⟨h23_, ⟨h24_, la_charAt_5⟩⟩⟩, ?_⟩
    intro r54
    intro h73_
    intro g50
    rintro ⟨h74_, ⟨h75_, ⟨h76_, ⟨h77_, ⟨h78_, ⟨h79_, ⟨h80_, h81_⟩⟩⟩⟩⟩⟩⟩
    intro g56
    rintro ⟨h82_, h83_⟩
    refine ⟨h7_, ?_⟩
    refine ⟨h8_, ?_⟩
    refine ⟨(sm_PV_m h9_ (Int.le_refl _) h78_ sm_F1_rf), ?_⟩
    refine ⟨h10_, ?_⟩
    refine ⟨h11_, ?_⟩
    refine ⟨h12_, ?_⟩
    refine ⟨h13_, ?_⟩
    refine ⟨h14_, ?_⟩
    refine ⟨h15_, ?_⟩
    refine ⟨h16_, ?_⟩
    refine ⟨h17_, ?_⟩
    refine ⟨h18_, ?_⟩
    refine ⟨h19_, ?_⟩
    refine ⟨?_, ?_⟩
    · skip
      intro h84_
      exact h20_
    refine ⟨la_charAt_7, ?_⟩
    refine ⟨(la_charAt_8 h22_ h78_), ?_⟩
    refine ⟨h79_, ?_⟩
    refine ⟨h80_, ?_⟩
    refine ⟨h78_, ?_⟩
    refine ⟨la_charAt_7, ?_⟩
    refine ⟨la_charAt_9, ?_⟩
    intro h85_
    have h86_ := (h76_ h85_)
    exact (sm_VO_i (la_charAt_10 h82_) (la_charAt_11 h82_) (la_charAt_12 h74_ h75_ h83_) (la_charAt_13 h82_))
  rintro ⟨h87_, h88_⟩
  refine ⟨?_, ?_⟩
  · skip
    refine ⟨(la_charAt_18 h27_ h87_), ?_⟩
    exact (la_charAt_19 h88_ (sm_LN_at h24_ p1 h27_ (la_charAt_2 h23_ h28_)).2.2)
  rintro ⟨h89_, h90_⟩
  refine ⟨(la_charAt_15 h89_ h90_), ?_⟩
  intro g64
  intro h91_
  refine ⟨⟨h22_, ⟨h23_, ⟨h24_, (la_charAt_16 h91_)⟩⟩⟩, ?_⟩
  intro r74
  intro h92_
  intro g70
  rintro ⟨h93_, ⟨h94_, ⟨h95_, ⟨h96_, ⟨h97_, ⟨h98_, ⟨h99_, h100_⟩⟩⟩⟩⟩⟩⟩
  intro g76
  rintro ⟨h101_, h102_⟩
  refine ⟨h7_, ?_⟩
  refine ⟨h8_, ?_⟩
  refine ⟨(sm_PV_m h9_ (Int.le_refl _) h97_ sm_F1_rf), ?_⟩
  refine ⟨h10_, ?_⟩
  refine ⟨h11_, ?_⟩
  refine ⟨h12_, ?_⟩
  refine ⟨h13_, ?_⟩
  refine ⟨h14_, ?_⟩
  refine ⟨h15_, ?_⟩
  refine ⟨h16_, ?_⟩
  refine ⟨h17_, ?_⟩
  refine ⟨h18_, ?_⟩
  refine ⟨h19_, ?_⟩
  refine ⟨?_, ?_⟩
  · skip
    intro h103_
    exact h20_
  refine ⟨la_charAt_7, ?_⟩
  refine ⟨(la_charAt_8 h22_ h97_), ?_⟩
  refine ⟨h98_, ?_⟩
  refine ⟨h99_, ?_⟩
  refine ⟨h97_, ?_⟩
  refine ⟨la_charAt_7, ?_⟩
  refine ⟨la_charAt_9, ?_⟩
  intro h104_
  have h105_ := (h95_ h104_)
  exact (sm_VO_i (la_charAt_10 h101_) (la_charAt_11 h101_) (la_charAt_12 h93_ h94_ h102_) (la_charAt_13 h101_))
set_option maxRecDepth 8000 in
set_option maxHeartbeats 2000000 in
theorem t_charAt : ∀ (p1 : Int) (p2 : Int) (p3 : Int) (S : sv_S), sm_ok S → sv_R p1 → sv_R p2 → sv_R p3 → ((S 1075 0) = 0 ∧ (S 1073 0) = 1 ∧ sm_PL (S 1100020) (S 51) (S 52) (S 46) (S 47) (S 1076 0) (S 1086 0) ∧ sm_FR (S 1100020) (S 52) (S 1100021) (S 1100022) (3000 - (S 1084 0)) (S 1085 0) ∧ sm_PV (S 1100020) (S 48) (S 49) (S 50) (S 44) (S 1076 0) (S 1007 0) ∧ sm_AL (S 1100020) (S 48) (S 49) (S 50) (S 44) (S 1076 0) (S 1100032 0) ∧ sm_SV (S 1100020) (S 48) (S 1100029) (S 32) (S 33) (S 1076 0) (S 1032 0) ∧ 0 ≤ (S 1076 0) ∧ (S 1076 0) ≤ 300 ∧ 0 ≤ (S 1084 0) ∧ (S 1084 0) ≤ 3000 ∧ 0 ≤ (S 1086 0) ∧ sm_SC (S 1100029) (S 44) (S 45) (S 43) (S 21) (S 1076 0) (S 1032 0) ∧ sm_PO (S 42) (S 1076 0) ∧ (S 1100032 0) = -1 ∧ sm_FO (S 44) (S 45) (S 1076 0) ∧ 23 ≤ (S 1076 0) ∧ 31 ≤ (S 1007 0) ∧ (S 1007 0) ≤ 400 ∧ sm_LN (S 4) 400 (S 1007 0) ∧ (S 1008 0) ≤ (S 1007 0) ∧ (S 1086 0) ≤ 1900000000 ∧ 0 ≤ p1 ∧ p1 < (S 1007 0) ∧ sm_VO (S 44) (S 1076 0) (S 1007 0) (p2) (p3)) → sv_T sm_XS sm_cs sm_L sm_sh 3 (q_charAt p1 p2 p3 S) 191 0 (lv_args 0 [.ref 0, sv_I p1, sv_I p2, sv_I p3]) [] S := by
  intro p1 p2 p3 S hok hp1 hp2 hp3 hpre
  have h := f_charAt p1 p2 p3 S hok hp1 hp2 hp3 hpre
  have hM := sm_h191
  show sv_T sm_XS sm_cs sm_L sm_sh 3 (q_charAt p1 p2 p3 S) 191 0 [(0, .ref 0), (1, sv_I p1), (2, sv_I p2), (3, sv_I p3)] [] S
  refine sv_aload_n hM dX12_charAt_0 rfl rfl ?_
  refine sv_iload_n hM dX12_charAt_1 rfl rfl ?_
  refine sv_iload_n hM dX12_charAt_2 rfl rfl ?_
  obtain ⟨o1, h⟩ := h
  refine sv_callV hM dX12_charAt_3 sm_iv_816 (by decide) (sm_a0 _) rfl rfl (Nat.le_of_ble_eq_true rfl) sm_h127 (Nat.le_of_ble_eq_true rfl) (Nat.le_of_ble_eq_true rfl) (F' := 2) (Nat.le_of_ble_eq_true rfl) rfl (t_numberOf p2 p3 S hok hp2 hp3 o1) (fun v S1 hq => ?_)
  obtain ⟨r6, rfl, hr6, ok3, md4, hpo5⟩ := hq
  obtain ⟨g2, rfl⟩ : ∃ g, S1 = sv_sts S [1113] g := ⟨_, md4.eq⟩
  show sv_T sm_XS sm_cs sm_L sm_sh 3 (q_charAt p1 p2 p3 S) 191 6 [(0, .ref 0), (1, sv_I p1), (2, sv_I p2), (3, sv_I p3)] [sv_I r6] (sv_sts S [1113] g2)
  have md7 : sv_mod [5, 1011, 3, 4, 1007, 1075, 1113, 1111, 1112] S (sv_sts S [1113] g2) := sv_mod.sts sv_mod.rf (by decide)
  have h := h r6 hr6 g2 hpo5
  refine sv_istore hM dX12_charAt_6 (by decide) rfl ?_
  show sv_T sm_XS sm_cs sm_L sm_sh 3 (q_charAt p1 p2 p3 S) 191 8 [(0, .ref 0), (1, sv_I p1), (2, sv_I p2), (3, sv_I p3), (4, sv_I r6)] [] (sv_sts S [1113] g2)
  refine sv_aload_n hM dX12_charAt_8 rfl rfl ?_
  refine sv_iconst (d := (0 : Int)) hM dX12_charAt_9 rfl rfl ?_
  refine sv_putI sm_X hM dX12_charAt_10 sm_fp_299 (sm_a0 _) sm_q11 (Or.inl rfl) rfl rfl rfl rfl ?_
  have ok8 : sm_ok (sv_up (sv_sts S [1113] g2) 1011 0 (0 : Int)) := sm_upI ok3 sm_r1011 (⟨by decide, by decide⟩ : sv_R (0 : Int))
  have md9 : sv_mod [5, 1011, 3, 4, 1007, 1075, 1113, 1111, 1112] S (sv_up (sv_sts S [1113] g2) 1011 0 (0 : Int)) := sv_mod.up md7 (by decide)
  refine sv_aload_n hM dX12_charAt_13 rfl rfl ?_
  have k10 : (0 ≤ (g2 1113 0) ∧ (g2 1113 0) ≤ 1) := sm_okZ ok8 sm_r1113 0
  have h := h k10
  refine sv_getI hM dX12_charAt_14 sm_fl_806 (sm_a0 _) sm_k113 rfl (x := (g2 1113 0)) rfl ?_
  refine sv_cond_eq hM dX12_charAt_17 (sv_R01 k10) (t := 25) rfl rfl (fun hc => ?_) (fun hc => ?_)
  · have h := h.1 (hc)
    refine sv_iconst (d := (0 : Int)) hM dX12_charAt_25 rfl rfl ?_
    refine sv_istore hM dX12_charAt_26 (by decide) rfl ?_
    show sv_T sm_XS sm_cs sm_L sm_sh 3 (q_charAt p1 p2 p3 S) 191 28 [(0, .ref 0), (1, sv_I p1), (2, sv_I p2), (3, sv_I p3), (4, sv_I (0 : Int))] [] (sv_up (sv_sts S [1113] g2) 1011 0 (0 : Int))
    refine sv_iload hM dX12_charAt_28 rfl rfl ?_
    refine sv_iconst (d := (0 : Int)) hM dX12_charAt_30 rfl rfl ?_
    refine sv_aload_n hM dX12_charAt_31 rfl rfl ?_
    refine sv_getA hM dX12_charAt_32 sm_fl_20 (sm_a0 _) sm_k6 rfl ?_
    refine sv_iload_n hM dX12_charAt_35 rfl rfl ?_
    obtain ⟨o11, h⟩ := h
    have k12 : sv_R (S 4 p1) := sm_okI ok8 sm_r4 p1
    have h := h k12
    refine sv_iald hM dX12_charAt_36 (sm_a4 _) (by decide) o11.1 o11.2 rfl (x := (S 4 p1)) rfl ?_
    refine sv_iconst (d := (1 : Int)) hM dX12_charAt_37 rfl rfl ?_
    refine sv_isub hM dX12_charAt_38 rfl ?_
    obtain ⟨o13, h⟩ := h
    refine sv_callS hM dX12_charAt_39 sm_iv_899 (Nat.le_of_ble_eq_true rfl) rfl rfl (Nat.le_of_ble_eq_true rfl) sm_h4 (Nat.le_of_ble_eq_true rfl) (Nat.le_of_ble_eq_true rfl) (F' := 0) (Nat.le_of_ble_eq_true rfl) rfl (t_in (0 : Int) (0 : Int) ((S 4 p1) - (1 : Int)) (sv_up (sv_sts S [1113] g2) 1011 0 (0 : Int)) ok8 (⟨by decide, by decide⟩ : sv_R (0 : Int)) (⟨by decide, by decide⟩ : sv_R (0 : Int)) o13) (fun v S1 hq => ?_)
    obtain ⟨rfl, hS1⟩ := hq
    obtain rfl : (sv_up (sv_sts S [1113] g2) 1011 0 (0 : Int)) = S1 := hS1.symm
    show sv_T sm_XS sm_cs sm_L sm_sh 3 (q_charAt p1 p2 p3 S) 191 42 [(0, .ref 0), (1, sv_I p1), (2, sv_I p2), (3, sv_I p3), (4, sv_I (0 : Int))] [sv_I (if (0 : Int) ≤ (0 : Int) ∧ (0 : Int) ≤ ((S 4 p1) - (1 : Int)) then 1 else 0)] (sv_up (sv_sts S [1113] g2) 1011 0 (0 : Int))
    refine sv_cond_eq hM dX12_charAt_42 (sv_Rite : sv_R (if (0 : Int) ≤ (0 : Int) ∧ (0 : Int) ≤ ((S 4 p1) - (1 : Int)) then 1 else 0)) (t := 61) rfl rfl (fun hc => ?_) (fun hc => ?_)
    · have h := h.1 (sv_iten hc)
      refine sv_aload_n hM dX12_charAt_61 rfl rfl ?_
      refine sv_bipush (d := (6 : Int)) hM dX12_charAt_62 rfl rfl ?_
      refine sv_aload_n hM dX12_charAt_64 rfl rfl ?_
      obtain ⟨o14, h⟩ := h
      refine sv_callV hM dX12_charAt_65 sm_iv_803 (by decide) (sm_a0 _) rfl rfl (Nat.le_of_ble_eq_true rfl) sm_h123 (Nat.le_of_ble_eq_true rfl) (Nat.le_of_ble_eq_true rfl) (F' := 1) (Nat.le_of_ble_eq_true rfl) rfl (t_made  (sv_up (sv_sts S [1113] g2) 1011 0 (0 : Int)) ok8 o14) (fun v S1 hq => ?_)
      obtain ⟨r19, rfl, hr19, ok16, md17, hpo18⟩ := hq
      obtain ⟨g15, rfl⟩ : ∃ g, S1 = sv_sts (sv_up (sv_sts S [1113] g2) 1011 0 (0 : Int)) [1011, 3, 4, 1007, 1075] g := ⟨_, md17.eq⟩
      show sv_T sm_XS sm_cs sm_L sm_sh 3 (q_charAt p1 p2 p3 S) 191 68 [(0, .ref 0), (1, sv_I p1), (2, sv_I p2), (3, sv_I p3), (4, sv_I (0 : Int))] [sv_I r19, sv_I (6 : Int), .ref 0] (sv_sts (sv_up (sv_sts S [1113] g2) 1011 0 (0 : Int)) [1011, 3, 4, 1007, 1075] g15)
      have md20 : sv_mod [5, 1011, 3, 4, 1007, 1075, 1113, 1111, 1112] S (sv_sts (sv_up (sv_sts S [1113] g2) 1011 0 (0 : Int)) [1011, 3, 4, 1007, 1075] g15) := sv_mod.sts md9 (by decide)
      have h := h r19 hr19 g15 hpo18
      refine sv_callV hM dX12_charAt_68 sm_iv_822 (by decide) (sm_a0 _) rfl rfl (Nat.le_of_ble_eq_true rfl) sm_h122 (Nat.le_of_ble_eq_true rfl) (Nat.le_of_ble_eq_true rfl) (F' := 0) (Nat.le_of_ble_eq_true rfl) rfl (t_give_ (6 : Int) r19 (sv_sts (sv_up (sv_sts S [1113] g2) 1011 0 (0 : Int)) [1011, 3, 4, 1007, 1075] g15) ok16 (⟨by decide, by decide⟩ : sv_R (6 : Int)) hr19) (fun v S1 hq => ?_)
      obtain ⟨rfl, ok22, md23, hpo24⟩ := hq
      obtain ⟨g21, rfl⟩ : ∃ g, S1 = sv_sts (sv_sts (sv_up (sv_sts S [1113] g2) 1011 0 (0 : Int)) [1011, 3, 4, 1007, 1075] g15) [1111, 1112] g := ⟨_, md23.eq⟩
      show sv_T sm_XS sm_cs sm_L sm_sh 3 (q_charAt p1 p2 p3 S) 191 71 [(0, .ref 0), (1, sv_I p1), (2, sv_I p2), (3, sv_I p3), (4, sv_I (0 : Int))] [] (sv_sts (sv_sts (sv_up (sv_sts S [1113] g2) 1011 0 (0 : Int)) [1011, 3, 4, 1007, 1075] g15) [1111, 1112] g21)
      have md25 : sv_mod [5, 1011, 3, 4, 1007, 1075, 1113, 1111, 1112] S (sv_sts (sv_sts (sv_up (sv_sts S [1113] g2) 1011 0 (0 : Int)) [1011, 3, 4, 1007, 1075] g15) [1111, 1112] g21) := sv_mod.sts md20 (by decide)
      have h := h g21 hpo24
      exact sv_vret hM dX12_charAt_71 rfl ⟨rfl, ok22, md25, h⟩
    · have h := h.2 (sv_itep hc)
      refine sv_aload_n hM dX12_charAt_45 rfl rfl ?_
      refine sv_aload_n hM dX12_charAt_46 rfl rfl ?_
      refine sv_getA hM dX12_charAt_47 sm_fl_16 (sm_a0 _) sm_k5 rfl ?_
      refine sv_bipush (d := (60 : Int)) hM dX12_charAt_50 rfl rfl ?_
      refine sv_iload_n hM dX12_charAt_52 rfl rfl ?_
      refine sv_imul hM dX12_charAt_53 rfl ?_
      refine sv_iload hM dX12_charAt_54 rfl rfl ?_
      refine sv_iadd hM dX12_charAt_56 rfl ?_
      obtain ⟨o26, h⟩ := h
      have k27 : (0 ≤ (S 3 (((60 : Int) * p1) + (0 : Int))) ∧ (S 3 (((60 : Int) * p1) + (0 : Int))) ≤ 65535) := sm_okC ok8 sm_r3 (((60 : Int) * p1) + (0 : Int))
      have h := h k27
      refine sv_cald hM dX12_charAt_57 (sm_a3 _) (by decide) o26.1 o26.2 rfl (x := (S 3 (((60 : Int) * p1) + (0 : Int)))) rfl ?_
      obtain ⟨o28, h⟩ := h
      refine sv_callV hM dX12_charAt_58 sm_iv_324 (by decide) (sm_a0 _) rfl rfl (Nat.le_of_ble_eq_true rfl) sm_h7 (Nat.le_of_ble_eq_true rfl) (Nat.le_of_ble_eq_true rfl) (F' := 0) (Nat.le_of_ble_eq_true rfl) rfl (t_put (S 3 (((60 : Int) * p1) + (0 : Int))) (sv_up (sv_sts S [1113] g2) 1011 0 (0 : Int)) ok8 (sv_RC k27) o28) (fun v S1 hq => ?_)
      obtain ⟨rfl, ok30, md31, hpo32⟩ := hq
      obtain ⟨g29, rfl⟩ : ∃ g, S1 = sv_sts (sv_up (sv_sts S [1113] g2) 1011 0 (0 : Int)) [5, 1011] g := ⟨_, md31.eq⟩
      show sv_T sm_XS sm_cs sm_L sm_sh 3 (q_charAt p1 p2 p3 S) 191 61 [(0, .ref 0), (1, sv_I p1), (2, sv_I p2), (3, sv_I p3), (4, sv_I (0 : Int))] [] (sv_sts (sv_up (sv_sts S [1113] g2) 1011 0 (0 : Int)) [5, 1011] g29)
      have md33 : sv_mod [5, 1011, 3, 4, 1007, 1075, 1113, 1111, 1112] S (sv_sts (sv_up (sv_sts S [1113] g2) 1011 0 (0 : Int)) [5, 1011] g29) := sv_mod.sts md9 (by decide)
      have h := h g29 hpo32
      refine sv_aload_n hM dX12_charAt_61 rfl rfl ?_
      refine sv_bipush (d := (6 : Int)) hM dX12_charAt_62 rfl rfl ?_
      refine sv_aload_n hM dX12_charAt_64 rfl rfl ?_
      obtain ⟨o34, h⟩ := h
      refine sv_callV hM dX12_charAt_65 sm_iv_803 (by decide) (sm_a0 _) rfl rfl (Nat.le_of_ble_eq_true rfl) sm_h123 (Nat.le_of_ble_eq_true rfl) (Nat.le_of_ble_eq_true rfl) (F' := 1) (Nat.le_of_ble_eq_true rfl) rfl (t_made  (sv_sts (sv_up (sv_sts S [1113] g2) 1011 0 (0 : Int)) [5, 1011] g29) ok30 o34) (fun v S1 hq => ?_)
      obtain ⟨r39, rfl, hr39, ok36, md37, hpo38⟩ := hq
      obtain ⟨g35, rfl⟩ : ∃ g, S1 = sv_sts (sv_sts (sv_up (sv_sts S [1113] g2) 1011 0 (0 : Int)) [5, 1011] g29) [1011, 3, 4, 1007, 1075] g := ⟨_, md37.eq⟩
      show sv_T sm_XS sm_cs sm_L sm_sh 3 (q_charAt p1 p2 p3 S) 191 68 [(0, .ref 0), (1, sv_I p1), (2, sv_I p2), (3, sv_I p3), (4, sv_I (0 : Int))] [sv_I r39, sv_I (6 : Int), .ref 0] (sv_sts (sv_sts (sv_up (sv_sts S [1113] g2) 1011 0 (0 : Int)) [5, 1011] g29) [1011, 3, 4, 1007, 1075] g35)
      have md40 : sv_mod [5, 1011, 3, 4, 1007, 1075, 1113, 1111, 1112] S (sv_sts (sv_sts (sv_up (sv_sts S [1113] g2) 1011 0 (0 : Int)) [5, 1011] g29) [1011, 3, 4, 1007, 1075] g35) := sv_mod.sts md33 (by decide)
      have h := h r39 hr39 g35 hpo38
      refine sv_callV hM dX12_charAt_68 sm_iv_822 (by decide) (sm_a0 _) rfl rfl (Nat.le_of_ble_eq_true rfl) sm_h122 (Nat.le_of_ble_eq_true rfl) (Nat.le_of_ble_eq_true rfl) (F' := 0) (Nat.le_of_ble_eq_true rfl) rfl (t_give_ (6 : Int) r39 (sv_sts (sv_sts (sv_up (sv_sts S [1113] g2) 1011 0 (0 : Int)) [5, 1011] g29) [1011, 3, 4, 1007, 1075] g35) ok36 (⟨by decide, by decide⟩ : sv_R (6 : Int)) hr39) (fun v S1 hq => ?_)
      obtain ⟨rfl, ok42, md43, hpo44⟩ := hq
      obtain ⟨g41, rfl⟩ : ∃ g, S1 = sv_sts (sv_sts (sv_sts (sv_up (sv_sts S [1113] g2) 1011 0 (0 : Int)) [5, 1011] g29) [1011, 3, 4, 1007, 1075] g35) [1111, 1112] g := ⟨_, md43.eq⟩
      show sv_T sm_XS sm_cs sm_L sm_sh 3 (q_charAt p1 p2 p3 S) 191 71 [(0, .ref 0), (1, sv_I p1), (2, sv_I p2), (3, sv_I p3), (4, sv_I (0 : Int))] [] (sv_sts (sv_sts (sv_sts (sv_up (sv_sts S [1113] g2) 1011 0 (0 : Int)) [5, 1011] g29) [1011, 3, 4, 1007, 1075] g35) [1111, 1112] g41)
      have md45 : sv_mod [5, 1011, 3, 4, 1007, 1075, 1113, 1111, 1112] S (sv_sts (sv_sts (sv_sts (sv_up (sv_sts S [1113] g2) 1011 0 (0 : Int)) [5, 1011] g29) [1011, 3, 4, 1007, 1075] g35) [1111, 1112] g41) := sv_mod.sts md40 (by decide)
      have h := h g41 hpo44
      exact sv_vret hM dX12_charAt_71 rfl ⟨rfl, ok42, md45, h⟩
  · have h := h.2 (hc)
    refine sv_iload hM dX12_charAt_20 rfl rfl ?_
    refine sv_goto hM dX12_charAt_22 (pc' := 26) rfl ?_
    refine sv_istore hM dX12_charAt_26 (by decide) rfl ?_
    show sv_T sm_XS sm_cs sm_L sm_sh 3 (q_charAt p1 p2 p3 S) 191 28 [(0, .ref 0), (1, sv_I p1), (2, sv_I p2), (3, sv_I p3), (4, sv_I r6)] [] (sv_up (sv_sts S [1113] g2) 1011 0 (0 : Int))
    refine sv_iload hM dX12_charAt_28 rfl rfl ?_
    refine sv_iconst (d := (0 : Int)) hM dX12_charAt_30 rfl rfl ?_
    refine sv_aload_n hM dX12_charAt_31 rfl rfl ?_
    refine sv_getA hM dX12_charAt_32 sm_fl_20 (sm_a0 _) sm_k6 rfl ?_
    refine sv_iload_n hM dX12_charAt_35 rfl rfl ?_
    obtain ⟨o46, h⟩ := h
    have k47 : sv_R (S 4 p1) := sm_okI ok8 sm_r4 p1
    have h := h k47
    refine sv_iald hM dX12_charAt_36 (sm_a4 _) (by decide) o46.1 o46.2 rfl (x := (S 4 p1)) rfl ?_
    refine sv_iconst (d := (1 : Int)) hM dX12_charAt_37 rfl rfl ?_
    refine sv_isub hM dX12_charAt_38 rfl ?_
    obtain ⟨o48, h⟩ := h
    refine sv_callS hM dX12_charAt_39 sm_iv_899 (Nat.le_of_ble_eq_true rfl) rfl rfl (Nat.le_of_ble_eq_true rfl) sm_h4 (Nat.le_of_ble_eq_true rfl) (Nat.le_of_ble_eq_true rfl) (F' := 0) (Nat.le_of_ble_eq_true rfl) rfl (t_in r6 (0 : Int) ((S 4 p1) - (1 : Int)) (sv_up (sv_sts S [1113] g2) 1011 0 (0 : Int)) ok8 hr6 (⟨by decide, by decide⟩ : sv_R (0 : Int)) o48) (fun v S1 hq => ?_)
    obtain ⟨rfl, hS1⟩ := hq
    obtain rfl : (sv_up (sv_sts S [1113] g2) 1011 0 (0 : Int)) = S1 := hS1.symm
    show sv_T sm_XS sm_cs sm_L sm_sh 3 (q_charAt p1 p2 p3 S) 191 42 [(0, .ref 0), (1, sv_I p1), (2, sv_I p2), (3, sv_I p3), (4, sv_I r6)] [sv_I (if (0 : Int) ≤ r6 ∧ r6 ≤ ((S 4 p1) - (1 : Int)) then 1 else 0)] (sv_up (sv_sts S [1113] g2) 1011 0 (0 : Int))
    refine sv_cond_eq hM dX12_charAt_42 (sv_Rite : sv_R (if (0 : Int) ≤ r6 ∧ r6 ≤ ((S 4 p1) - (1 : Int)) then 1 else 0)) (t := 61) rfl rfl (fun hc => ?_) (fun hc => ?_)
    · have h := h.1 (sv_iten hc)
      refine sv_aload_n hM dX12_charAt_61 rfl rfl ?_
      refine sv_bipush (d := (6 : Int)) hM dX12_charAt_62 rfl rfl ?_
      refine sv_aload_n hM dX12_charAt_64 rfl rfl ?_
      obtain ⟨o49, h⟩ := h
      refine sv_callV hM dX12_charAt_65 sm_iv_803 (by decide) (sm_a0 _) rfl rfl (Nat.le_of_ble_eq_true rfl) sm_h123 (Nat.le_of_ble_eq_true rfl) (Nat.le_of_ble_eq_true rfl) (F' := 1) (Nat.le_of_ble_eq_true rfl) rfl (t_made  (sv_up (sv_sts S [1113] g2) 1011 0 (0 : Int)) ok8 o49) (fun v S1 hq => ?_)
      obtain ⟨r54, rfl, hr54, ok51, md52, hpo53⟩ := hq
      obtain ⟨g50, rfl⟩ : ∃ g, S1 = sv_sts (sv_up (sv_sts S [1113] g2) 1011 0 (0 : Int)) [1011, 3, 4, 1007, 1075] g := ⟨_, md52.eq⟩
      show sv_T sm_XS sm_cs sm_L sm_sh 3 (q_charAt p1 p2 p3 S) 191 68 [(0, .ref 0), (1, sv_I p1), (2, sv_I p2), (3, sv_I p3), (4, sv_I r6)] [sv_I r54, sv_I (6 : Int), .ref 0] (sv_sts (sv_up (sv_sts S [1113] g2) 1011 0 (0 : Int)) [1011, 3, 4, 1007, 1075] g50)
      have md55 : sv_mod [5, 1011, 3, 4, 1007, 1075, 1113, 1111, 1112] S (sv_sts (sv_up (sv_sts S [1113] g2) 1011 0 (0 : Int)) [1011, 3, 4, 1007, 1075] g50) := sv_mod.sts md9 (by decide)
      have h := h r54 hr54 g50 hpo53
      refine sv_callV hM dX12_charAt_68 sm_iv_822 (by decide) (sm_a0 _) rfl rfl (Nat.le_of_ble_eq_true rfl) sm_h122 (Nat.le_of_ble_eq_true rfl) (Nat.le_of_ble_eq_true rfl) (F' := 0) (Nat.le_of_ble_eq_true rfl) rfl (t_give_ (6 : Int) r54 (sv_sts (sv_up (sv_sts S [1113] g2) 1011 0 (0 : Int)) [1011, 3, 4, 1007, 1075] g50) ok51 (⟨by decide, by decide⟩ : sv_R (6 : Int)) hr54) (fun v S1 hq => ?_)
      obtain ⟨rfl, ok57, md58, hpo59⟩ := hq
      obtain ⟨g56, rfl⟩ : ∃ g, S1 = sv_sts (sv_sts (sv_up (sv_sts S [1113] g2) 1011 0 (0 : Int)) [1011, 3, 4, 1007, 1075] g50) [1111, 1112] g := ⟨_, md58.eq⟩
      show sv_T sm_XS sm_cs sm_L sm_sh 3 (q_charAt p1 p2 p3 S) 191 71 [(0, .ref 0), (1, sv_I p1), (2, sv_I p2), (3, sv_I p3), (4, sv_I r6)] [] (sv_sts (sv_sts (sv_up (sv_sts S [1113] g2) 1011 0 (0 : Int)) [1011, 3, 4, 1007, 1075] g50) [1111, 1112] g56)
      have md60 : sv_mod [5, 1011, 3, 4, 1007, 1075, 1113, 1111, 1112] S (sv_sts (sv_sts (sv_up (sv_sts S [1113] g2) 1011 0 (0 : Int)) [1011, 3, 4, 1007, 1075] g50) [1111, 1112] g56) := sv_mod.sts md55 (by decide)
      have h := h g56 hpo59
      exact sv_vret hM dX12_charAt_71 rfl ⟨rfl, ok57, md60, h⟩
    · have h := h.2 (sv_itep hc)
      refine sv_aload_n hM dX12_charAt_45 rfl rfl ?_
      refine sv_aload_n hM dX12_charAt_46 rfl rfl ?_
      refine sv_getA hM dX12_charAt_47 sm_fl_16 (sm_a0 _) sm_k5 rfl ?_
      refine sv_bipush (d := (60 : Int)) hM dX12_charAt_50 rfl rfl ?_
      refine sv_iload_n hM dX12_charAt_52 rfl rfl ?_
      refine sv_imul hM dX12_charAt_53 rfl ?_
      refine sv_iload hM dX12_charAt_54 rfl rfl ?_
      refine sv_iadd hM dX12_charAt_56 rfl ?_
      obtain ⟨o61, h⟩ := h
      have k62 : (0 ≤ (S 3 (((60 : Int) * p1) + r6)) ∧ (S 3 (((60 : Int) * p1) + r6)) ≤ 65535) := sm_okC ok8 sm_r3 (((60 : Int) * p1) + r6)
      have h := h k62
      refine sv_cald hM dX12_charAt_57 (sm_a3 _) (by decide) o61.1 o61.2 rfl (x := (S 3 (((60 : Int) * p1) + r6))) rfl ?_
      obtain ⟨o63, h⟩ := h
      refine sv_callV hM dX12_charAt_58 sm_iv_324 (by decide) (sm_a0 _) rfl rfl (Nat.le_of_ble_eq_true rfl) sm_h7 (Nat.le_of_ble_eq_true rfl) (Nat.le_of_ble_eq_true rfl) (F' := 0) (Nat.le_of_ble_eq_true rfl) rfl (t_put (S 3 (((60 : Int) * p1) + r6)) (sv_up (sv_sts S [1113] g2) 1011 0 (0 : Int)) ok8 (sv_RC k62) o63) (fun v S1 hq => ?_)
      obtain ⟨rfl, ok65, md66, hpo67⟩ := hq
      obtain ⟨g64, rfl⟩ : ∃ g, S1 = sv_sts (sv_up (sv_sts S [1113] g2) 1011 0 (0 : Int)) [5, 1011] g := ⟨_, md66.eq⟩
      show sv_T sm_XS sm_cs sm_L sm_sh 3 (q_charAt p1 p2 p3 S) 191 61 [(0, .ref 0), (1, sv_I p1), (2, sv_I p2), (3, sv_I p3), (4, sv_I r6)] [] (sv_sts (sv_up (sv_sts S [1113] g2) 1011 0 (0 : Int)) [5, 1011] g64)
      have md68 : sv_mod [5, 1011, 3, 4, 1007, 1075, 1113, 1111, 1112] S (sv_sts (sv_up (sv_sts S [1113] g2) 1011 0 (0 : Int)) [5, 1011] g64) := sv_mod.sts md9 (by decide)
      have h := h g64 hpo67
      refine sv_aload_n hM dX12_charAt_61 rfl rfl ?_
      refine sv_bipush (d := (6 : Int)) hM dX12_charAt_62 rfl rfl ?_
      refine sv_aload_n hM dX12_charAt_64 rfl rfl ?_
      obtain ⟨o69, h⟩ := h
      refine sv_callV hM dX12_charAt_65 sm_iv_803 (by decide) (sm_a0 _) rfl rfl (Nat.le_of_ble_eq_true rfl) sm_h123 (Nat.le_of_ble_eq_true rfl) (Nat.le_of_ble_eq_true rfl) (F' := 1) (Nat.le_of_ble_eq_true rfl) rfl (t_made  (sv_sts (sv_up (sv_sts S [1113] g2) 1011 0 (0 : Int)) [5, 1011] g64) ok65 o69) (fun v S1 hq => ?_)
      obtain ⟨r74, rfl, hr74, ok71, md72, hpo73⟩ := hq
      obtain ⟨g70, rfl⟩ : ∃ g, S1 = sv_sts (sv_sts (sv_up (sv_sts S [1113] g2) 1011 0 (0 : Int)) [5, 1011] g64) [1011, 3, 4, 1007, 1075] g := ⟨_, md72.eq⟩
      show sv_T sm_XS sm_cs sm_L sm_sh 3 (q_charAt p1 p2 p3 S) 191 68 [(0, .ref 0), (1, sv_I p1), (2, sv_I p2), (3, sv_I p3), (4, sv_I r6)] [sv_I r74, sv_I (6 : Int), .ref 0] (sv_sts (sv_sts (sv_up (sv_sts S [1113] g2) 1011 0 (0 : Int)) [5, 1011] g64) [1011, 3, 4, 1007, 1075] g70)
      have md75 : sv_mod [5, 1011, 3, 4, 1007, 1075, 1113, 1111, 1112] S (sv_sts (sv_sts (sv_up (sv_sts S [1113] g2) 1011 0 (0 : Int)) [5, 1011] g64) [1011, 3, 4, 1007, 1075] g70) := sv_mod.sts md68 (by decide)
      have h := h r74 hr74 g70 hpo73
      refine sv_callV hM dX12_charAt_68 sm_iv_822 (by decide) (sm_a0 _) rfl rfl (Nat.le_of_ble_eq_true rfl) sm_h122 (Nat.le_of_ble_eq_true rfl) (Nat.le_of_ble_eq_true rfl) (F' := 0) (Nat.le_of_ble_eq_true rfl) rfl (t_give_ (6 : Int) r74 (sv_sts (sv_sts (sv_up (sv_sts S [1113] g2) 1011 0 (0 : Int)) [5, 1011] g64) [1011, 3, 4, 1007, 1075] g70) ok71 (⟨by decide, by decide⟩ : sv_R (6 : Int)) hr74) (fun v S1 hq => ?_)
      obtain ⟨rfl, ok77, md78, hpo79⟩ := hq
      obtain ⟨g76, rfl⟩ : ∃ g, S1 = sv_sts (sv_sts (sv_sts (sv_up (sv_sts S [1113] g2) 1011 0 (0 : Int)) [5, 1011] g64) [1011, 3, 4, 1007, 1075] g70) [1111, 1112] g := ⟨_, md78.eq⟩
      show sv_T sm_XS sm_cs sm_L sm_sh 3 (q_charAt p1 p2 p3 S) 191 71 [(0, .ref 0), (1, sv_I p1), (2, sv_I p2), (3, sv_I p3), (4, sv_I r6)] [] (sv_sts (sv_sts (sv_sts (sv_up (sv_sts S [1113] g2) 1011 0 (0 : Int)) [5, 1011] g64) [1011, 3, 4, 1007, 1075] g70) [1111, 1112] g76)
      have md80 : sv_mod [5, 1011, 3, 4, 1007, 1075, 1113, 1111, 1112] S (sv_sts (sv_sts (sv_sts (sv_up (sv_sts S [1113] g2) 1011 0 (0 : Int)) [5, 1011] g64) [1011, 3, 4, 1007, 1075] g70) [1111, 1112] g76) := sv_mod.sts md75 (by decide)
      have h := h g76 hpo79
      exact sv_vret hM dX12_charAt_71 rfl ⟨rfl, ok77, md80, h⟩
