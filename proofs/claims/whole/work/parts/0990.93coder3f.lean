theorem dX12_object_0 : decode cX12_object 0 = .ok (.aload_n 0, 1) := by decide +kernel
theorem dX12_object_1 : decode cX12_object 1 = .ok (.bipush 7, 2) := by decide +kernel
theorem dX12_object_3 : decode cX12_object 3 = .ok (.aload_n 0, 1) := by decide +kernel
theorem dX12_object_4 : decode cX12_object 4 = .ok (.getfield 689, 3) := by decide +kernel
theorem dX12_object_7 : decode cX12_object 7 = .ok (.iconst 0, 1) := by decide +kernel
theorem dX12_object_8 : decode cX12_object 8 = .ok (.invokevirtual 615, 3) := by decide +kernel
theorem dX12_object_11 : decode cX12_object 11 = .ok (.aload_n 0, 1) := by decide +kernel
theorem dX12_object_12 : decode cX12_object 12 = .ok (.dup, 1) := by decide +kernel
theorem dX12_object_13 : decode cX12_object 13 = .ok (.getfield 689, 3) := by decide +kernel
theorem dX12_object_16 : decode cX12_object 16 = .ok (.iconst 1, 1) := by decide +kernel
theorem dX12_object_17 : decode cX12_object 17 = .ok (.iadd, 1) := by decide +kernel
theorem dX12_object_18 : decode cX12_object 18 = .ok (.putfield 689, 3) := by decide +kernel
theorem dX12_object_21 : decode cX12_object 21 = .ok (.iload_n 1, 1) := by decide +kernel
theorem dX12_object_22 : decode cX12_object 22 = .ok (.istore_n 2, 1) := by decide +kernel
theorem dX12_object_23 : decode cX12_object 23 = .ok (.iload_n 2, 1) := by decide +kernel
theorem dX12_object_24 : decode cX12_object 24 = .ok (.iconst (-1), 1) := by decide +kernel
theorem dX12_object_25 : decode cX12_object 25 = .ok (.if_icmp .eq 60, 3) := by decide +kernel
theorem dX12_object_28 : decode cX12_object 28 = .ok (.aload_n 0, 1) := by decide +kernel
theorem dX12_object_29 : decode cX12_object 29 = .ok (.getfield 609, 3) := by decide +kernel
theorem dX12_object_32 : decode cX12_object 32 = .ok (.ifCond .ne 53, 3) := by decide +kernel
theorem dX12_object_35 : decode cX12_object 35 = .ok (.aload_n 0, 1) := by decide +kernel
theorem dX12_object_36 : decode cX12_object 36 = .ok (.bipush 18, 2) := by decide +kernel
theorem dX12_object_38 : decode cX12_object 38 = .ok (.invokevirtual 666, 3) := by decide +kernel
theorem dX12_object_41 : decode cX12_object 41 = .ok (.aload_n 0, 1) := by decide +kernel
theorem dX12_object_42 : decode cX12_object 42 = .ok (.bipush 6, 2) := by decide +kernel
theorem dX12_object_44 : decode cX12_object 44 = .ok (.aload_n 0, 1) := by decide +kernel
theorem dX12_object_45 : decode cX12_object 45 = .ok (.iload_n 2, 1) := by decide +kernel
theorem dX12_object_46 : decode cX12_object 46 = .ok (.iconst 1, 1) := by decide +kernel
theorem dX12_object_47 : decode cX12_object 47 = .ok (.invokevirtual 644, 3) := by decide +kernel
theorem dX12_object_50 : decode cX12_object 50 = .ok (.invokevirtual 656, 3) := by decide +kernel
theorem dX12_object_53 : decode cX12_object 53 = .ok (.aload_n 0, 1) := by decide +kernel
theorem dX12_object_54 : decode cX12_object 54 = .ok (.aload_n 0, 1) := by decide +kernel
theorem dX12_object_55 : decode cX12_object 55 = .ok (.iload_n 2, 1) := by decide +kernel
theorem dX12_object_56 : decode cX12_object 56 = .ok (.iconst 0, 1) := by decide +kernel
theorem dX12_object_57 : decode cX12_object 57 = .ok (.invokevirtual 644, 3) := by decide +kernel
theorem dX12_object_60 : decode cX12_object 60 = .ok (.invokevirtual 668, 3) := by decide +kernel
theorem dX12_object_63 : decode cX12_object 63 = .ok (.aload_n 0, 1) := by decide +kernel
theorem dX12_object_64 : decode cX12_object 64 = .ok (.bipush 11, 2) := by decide +kernel
theorem dX12_object_66 : decode cX12_object 66 = .ok (.invokevirtual 666, 3) := by decide +kernel
theorem dX12_object_69 : decode cX12_object 69 = .ok (.aload_n 0, 1) := by decide +kernel
theorem dX12_object_70 : decode cX12_object 70 = .ok (.bipush 17, 2) := by decide +kernel
theorem dX12_object_72 : decode cX12_object 72 = .ok (.invokevirtual 666, 3) := by decide +kernel
theorem dX12_object_75 : decode cX12_object 75 = .ok (.aload_n 0, 1) := by decide +kernel
theorem dX12_object_76 : decode cX12_object 76 = .ok (.getfield 49, 3) := by decide +kernel
theorem dX12_object_79 : decode cX12_object 79 = .ok (.iload_n 2, 1) := by decide +kernel
theorem dX12_object_80 : decode cX12_object 80 = .ok (.iaload, 1) := by decide +kernel
theorem dX12_object_81 : decode cX12_object 81 = .ok (.istore_n 2, 1) := by decide +kernel
theorem dX12_object_82 : decode cX12_object 82 = .ok (.goto (-59), 3) := by decide +kernel
theorem dX12_object_85 : decode cX12_object 85 = .ok (.return_, 1) := by decide +kernel

theorem la_object_0 {x0 x1 x2 : Int} (h0 : x0 ≤ 600) (h1 : 0 ≤ x1) (h2 : x1 ≤ x0) (h3 : x2 = x1 + 1) : sv_R x2 := by omega
theorem la_object_1 {x0 x1 : Int} (h0 : x0 ≤ 600) (h1 : x1 ≤ x0) : x1 ≤ 600 := by omega
theorem la_object_2 {x0 x1 : Int} (h0 : x0 = x1 + 1) : ¬ x0 = x1 := by omega
theorem la_object_3 : (0 : Int) ≤ 7 := by omega
theorem la_object_4 : (7 : Int) ≤ 30 := by omega
theorem la_object_5 {x0 x1 x2 x3 x4 x5 x6 x7 x8 x9 : Int} (h0 : 0 ≤ x0) (h1 : 0 ≤ x1) (h2 : 0 ≤ x2 → x3 ≤ x0) (h3 : 0 ≤ x4 → x5 ≤ x0) (h4 : x6 = x1 + 1) (h5 : x7 = 1) (h6 : x8 = x2) (h7 : x9 = x4) : (0 ≤ x1 ∧ x1 < x6) ∧ (0 ≤ x0 ∧ (0 ≤ x2 → x3 ≤ x0) ∧ (0 ≤ x4 → x5 ≤ x0)) ∧ x0 + x7 = x0 + 1 ∧ x8 = x2 ∧ x9 = x4 := by omega
theorem la_object_6 {x0 x1 x2 x3 : Int} : (21 : Int) ≤ 7 ∧ (7 : Int) ≤ 24 ∨ (7 : Int) = 27 ∨ (7 : Int) = 30 → 0 ≤ x0 ∧ x0 < x1 ∧ x2 = x3 := by omega
theorem la_object_7 : ¬ (7 : Int) = 1 := by omega
theorem la_object_8 {x0 x1 : Int} (h0 : (7 : Int) = 2) : x0 = x1 := by omega
theorem la_object_9 {x0 : Int} (h0 : (7 : Int) = 2) : 0 ≤ x0 := by omega
theorem la_object_10 (h0 : (7 : Int) = 2) : False := by omega
theorem la_object_11 {x0 : Int} (h0 : x0 = (-1)) : ¬ ¬ x0 = (-1) := by omega
theorem la_object_12 {x0 x1 : Int} (h0 : x0 ≤ 600) (h1 : x1 = 0) : 0 + 1 ≤ x1 + (600 - x0) + 8 := by omega
theorem la_object_13 {x0 : Int} (h0 : (-1) ≤ x0) (h1 : ¬ x0 = (-1)) : (-1) < x0 := by omega
theorem la_object_14 {x0 x1 x2 : Int} (h0 : x0 ≤ 600) (h1 : x1 = x2) (h2 : 0 ≤ x2) : 0 + 1 ≤ x1 + (600 - x0) + 8 := by omega
theorem la_object_15 {x0 : Int} (h0 : x0 = 0) : ¬ x0 = 1 := by omega
theorem la_object_16 {x0 x1 : Int} (h0 : 0 ≤ x0) (h1 : x1 = x0 + 1) (h2 : x1 ≤ 601) : sv_R (x0 + 1) := by omega
theorem la_object_17 {x0 : Int} (h0 : 1 ≤ x0) : 0 ≤ x0 := by omega
theorem la_object_18 {x0 : Int} (h0 : (-1) ≤ x0) : x0 = (-1) → x0 = (-1) := by omega
theorem la_object_19 {x0 x1 x2 x3 x4 : Int} (h0 : (-1) < x0) (h1 : x0 < x1) (h2 : x2 = 4) : x0 = (-1) ∨ 0 ≤ x0 ∧ x0 < x1 ∧ x2 = 4 ∧ x3 ≤ x3 ∧ x4 ≤ x4 := by omega
theorem la_object_20 {x0 : Int} : x0 ≤ x0 := by omega
theorem la_object_21 {x0 : Int} : x0 = x0 := by omega
theorem la_object_22 {x0 x1 : Int} : x0 = 1 → x1 = x1 := by omega
theorem la_object_23 {x0 : Int} (h0 : x0 = 1) : ¬ x0 = 0 := by omega
theorem la_object_24 {x0 x1 x2 : Int} (h0 : x0 = 600) (h1 : x1 = 0) : x2 ≤ x2 + 3 * (600 - x0) + x1 := by omega
theorem la_object_25 {x0 x1 x2 x3 : Int} (h0 : x0 = 600) (h1 : x1 = x2) (h2 : 0 ≤ x2) : x3 ≤ x3 + 3 * (600 - x0) + x1 := by omega
theorem la_object_26 {x0 : Int} (h0 : x0 ≤ 1) (h1 : ¬ x0 = 1) : x0 < 1 := by omega
theorem la_object_27 {x0 : Int} (h0 : 0 ≤ x0) (h1 : x0 < 1) : x0 = 0 := by omega
theorem la_object_28 : ¬ (7 : Int) = 29 := by omega
theorem la_object_29 : ¬ (7 : Int) = 17 := by omega
theorem la_object_30 {x0 x1 x2 : Int} : (7 : Int) = 17 → 0 ≤ x0 → x1 < x2 := by omega
theorem la_object_31 {x0 x1 x2 x3 : Int} (h0 : x0 < x1) (h1 : x2 = x3) (h2 : x3 = x0) : x2 < x1 + 1 := by omega
theorem la_object_32 {x0 x1 x2 : Int} (h0 : x0 = x1) (h1 : x1 = x2) : x0 = x2 := by omega
theorem la_object_33 {x0 x1 x2 x3 : Int} (h0 : x0 ≤ 600) (h1 : x0 = x1 + 1) (h2 : x2 = 0) : x3 ≤ x3 + 3 * (600 - x1) + x2 := by omega
theorem la_object_34 {x0 x1 x2 x3 x4 : Int} (h0 : x0 ≤ 600) (h1 : x0 = x1 + 1) (h2 : x2 = x3) (h3 : 0 ≤ x3) : x4 ≤ x4 + 3 * (600 - x1) + x2 := by omega
theorem la_object_35 {x0 x1 x2 : Int} (h0 : x0 = x1 + 1) (h1 : x2 = x1 + 1) : x0 = x2 := by omega
theorem la_object_36 {x0 x1 : Int} (h0 : 0 ≤ x0) (h1 : x1 = x0 + 1) : 0 ≤ x1 := by omega
theorem la_object_37 {x0 x1 x2 x3 : Int} (h0 : x0 ≤ x1) (h1 : x2 = x0 + 1) (h2 : x3 = x1 + 1) : x2 ≤ x3 := by omega
theorem la_object_38 {x0 x1 : Int} (h0 : x0 = x1 + 1) : x1 + 1 ≤ x0 := by omega
theorem la_object_39 {x0 x1 x2 : Int} (h0 : x0 = x1 + x2) (h1 : x2 = 1) : x0 = x1 + 1 := by omega
theorem la_object_40 {x0 : Int} : x0 < x0 + 1 := by omega
theorem la_object_41 {x0 x1 x2 x3 : Int} (h0 : x0 = x1 + 1) (h1 : x2 = 10) : 2 * x3 ≤ 2 * x3 + (x0 - x1) + x2 := by omega
theorem la_object_42 {x0 x1 x2 x3 x4 : Int} (h0 : x0 = x1 + 1) (h1 : x2 = 8 * x3 + 18) (h2 : 0 ≤ x3) : 2 * x4 ≤ 2 * x4 + (x0 - x1) + x2 := by omega
theorem la_object_43 {x0 x1 x2 : Int} (h0 : x0 = x1 + 1) : x2 ≤ x2 + 3 * (x0 - x1) := by omega
theorem la_object_44 {x0 : Int} (h0 : x0 = 0) : 0 ≤ x0 := by omega
theorem la_object_45 {x0 : Int} (h0 : 0 ≤ x0) : (-1) ≤ x0 := by omega
theorem la_object_46 {x0 x1 x2 : Int} (h0 : x0 = x1 - x2) (h1 : x2 < x1) : 0 ≤ x0 := by omega
theorem la_object_47 {x0 : Int} (h0 : x0 = 4) : ¬ x0 = 1 := by omega
theorem la_object_48 {x0 : Int} (h0 : x0 = 4) : ¬ x0 = 2 := by omega
theorem la_object_49 {x0 : Int} (h0 : x0 = 4) : ¬ x0 = 6 := by omega
theorem la_object_50 {x0 : Int} (h0 : x0 = 4) : ¬ x0 = 3 := by omega
theorem la_object_51 {x0 : Int} (h0 : x0 = 4) : 2 ≤ x0 := by omega
theorem la_object_52 {x0 : Int} (h0 : x0 = 1) : ¬ x0 = 2 := by omega
theorem la_object_53 {x0 : Int} (h0 : x0 = 1) : ¬ x0 = 6 := by omega
theorem la_object_54 {x0 : Int} (h0 : x0 = 1) : ¬ x0 = 3 := by omega
theorem la_object_55 {x0 : Int} (h0 : 0 ≤ x0) (h1 : ¬ x0 = 0) : 0 < x0 := by omega
theorem la_object_56 {x0 : Int} : 5 * x0 + 0 = 5 * x0 := by omega
theorem la_object_57 {x0 : Int} (h0 : 0 < x0) (h1 : x0 = 0) : False := by omega
theorem la_object_58 {x0 x1 x2 x3 x4 : Int} (h0 : x0 ≤ x1) (h1 : 0 ≤ x2) (h2 : x3 = 8 * x2 + 18) : 2 * x4 ≤ 2 * x4 + (x1 - x0) + x3 := by omega
theorem la_object_59 {x0 : Int} (h0 : 0 ≤ x0) (h1 : ¬ ¬ x0 = 0) : x0 = 0 := by omega
theorem la_object_60 : (0 : Int) ≤ 18 := by omega
theorem la_object_61 : (18 : Int) ≤ 30 := by omega
theorem la_object_62 {x0 x1 x2 x3 x4 x5 x6 x7 x8 x9 x10 x11 x12 : Int} (h0 : 0 ≤ x0) (h1 : 0 ≤ x1 → x2 ≤ x0) (h2 : 0 ≤ x3 → x4 ≤ x0) (h3 : x5 = x0 + 1) (h4 : x6 = x1) (h5 : x7 = x3) (h6 : x8 = x2) (h7 : x9 = x4) (h8 : x10 = 1) (h9 : x11 = x6) (h10 : x12 = x7) : (0 ≤ x5 - 1 ∧ (0 ≤ x6 → x8 ≤ x5 - 1) ∧ (0 ≤ x7 → x9 ≤ x5 - 1)) ∧ x5 + x10 = x5 + 1 ∧ x11 = x6 ∧ x12 = x7 := by omega
theorem la_object_63 {x0 x1 x2 : Int} : (21 : Int) ≤ 18 ∧ (18 : Int) ≤ 24 ∨ (18 : Int) = 27 ∨ (18 : Int) = 30 → (0 : Int) ≤ 0 ∧ 0 < x0 ∧ x1 = x2 := by omega
theorem la_object_64 : ¬ (18 : Int) = 1 := by omega
theorem la_object_65 {x0 : Int} (h0 : (18 : Int) = 2) : x0 = 0 := by omega
theorem la_object_66 {x0 : Int} (h0 : (18 : Int) = 2) : 0 ≤ x0 := by omega
theorem la_object_67 {x0 : Int} (h0 : (18 : Int) = 2) : x0 = 1 := by omega
theorem la_object_68 {x0 : Int} (h0 : (18 : Int) = 2) : ¬ x0 = (-1) := by omega
theorem la_object_69 {x0 : Int} (h0 : (18 : Int) = 2) : x0 = 3 := by omega
theorem la_object_70 {x0 : Int} (h0 : (18 : Int) = 2) : x0 = 4 ∨ x0 = 5 ∨ x0 = 8 ∨ x0 = 9 := by omega
theorem la_object_71 (h0 : (18 : Int) = 2) : (7 : Int) = 29 := by omega
theorem la_object_72 (h0 : (18 : Int) = 2) : (7 : Int) = 17 := by omega
theorem la_object_73 {x0 : Int} (h0 : (18 : Int) = 2) : ¬ x0 = 1 := by omega
theorem la_object_74 {x0 : Int} (h0 : (18 : Int) = 2) : x0 = 3 ∨ x0 = 6 := by omega
theorem la_object_75 {x0 : Int} (h0 : (18 : Int) = 2) : x0 = 6 := by omega
theorem la_object_76 {x0 : Int} (h0 : (18 : Int) = 2) : x0 = 2 := by omega
theorem la_object_77 {x0 x1 : Int} (h0 : (18 : Int) = 2) : x0 = x1 := by omega
theorem la_object_78 {x0 : Int} (h0 : (18 : Int) = 2) : x0 < x0 := by omega
theorem la_object_79 {x0 x1 : Int} (h0 : (18 : Int) = 2) : x0 < x1 + 1 := by omega
theorem la_object_80 {x0 x1 : Int} (h0 : (18 : Int) = 2) : 5 * x0 + 1 = 5 * x1 := by omega
theorem la_object_81 {x0 x1 : Int} (h0 : (18 : Int) = 2) : 5 * x0 + 0 = 5 * x1 + 1 := by omega
theorem la_object_82 {x0 : Int} (h0 : (18 : Int) = 2) : 5 * x0 + 1 = 5 * x0 := by omega
theorem la_object_83 {x0 x1 : Int} (h0 : (18 : Int) = 2) : 5 * x0 + 1 = 5 * x1 + 1 := by omega
theorem la_object_84 {x0 : Int} (h0 : (18 : Int) = 2) : 5 * x0 + 1 = 5 * x0 + 0 := by omega
theorem la_object_85 (h0 : (18 : Int) = 2) : False := by omega
theorem la_object_86 {x0 x1 x2 x3 x4 : Int} (h0 : x0 ≤ x1) (h1 : x1 ≤ x0 + 3 * (600 - x2) + x3) (h2 : 0 ≤ x4) (h3 : x3 = x4) : 1 + 1 ≤ x3 + (600 - x2) + 8 := by omega
theorem la_object_87 {x0 : Int} (h0 : ¬ ¬ x0 = 0) : ¬ x0 = 1 := by omega
theorem la_object_88 {x0 x1 : Int} (h0 : x0 ≤ 12000) (h1 : 0 ≤ x1) (h2 : x1 < x0) : 0 ≤ x1 ∧ x1 < 12000 ∧ (0 : Int) ≤ 1 ∧ (1 : Int) ≤ 4 := by omega
theorem la_object_89 : ¬ (18 : Int) = 29 := by omega
theorem la_object_90 : ¬ (18 : Int) = 17 := by omega
theorem la_object_91 {x0 x1 x2 : Int} : (18 : Int) = 17 → 0 ≤ x0 → x1 < x2 := by omega
theorem la_object_92 : (0 : Int) ≤ 6 := by omega
theorem la_object_93 : (6 : Int) ≤ 6 := by omega
theorem la_object_94 {x0 x1 : Int} (h0 : 0 ≤ x0) (h1 : x0 < x1) : (6 : Int) = 6 → 0 ≤ x0 ∧ x0 < x1 := by omega
theorem la_object_95 {x0 x1 x2 x3 x4 x5 x6 x7 x8 x9 x10 x11 : Int} (h0 : 0 ≤ x0 → x1 ≤ x2) (h1 : x3 = x2 + 1) (h2 : x4 = x0) (h3 : x5 = x1) (h4 : x6 = x3 + x7) (h5 : x7 = 1) (h6 : x8 = x9) (h7 : x9 = x4) (h8 : x10 = x11) (h9 : x11 = x5) : 0 ≤ x8 → x10 ≤ x6 := by omega
theorem la_object_96 {x0 x1 x2 x3 : Int} (h0 : x0 = x1) (h1 : x2 = x3) (h2 : x3 = x0) (h3 : 0 ≤ x2) : 0 ≤ x1 := by omega
theorem la_object_97 {x0 x1 x2 x3 x4 x5 x6 : Int} (h0 : x0 = x1 + 1) (h1 : x2 = x3) (h2 : x4 = x0 + x5) (h3 : x5 = 1) (h4 : x6 = x2) (h5 : x3 ≤ x1) : x6 ≤ x4 := by omega
theorem la_object_98 {x0 x1 : Int} (h0 : x0 ≤ 12000) (h1 : 0 ≤ x1) (h2 : x1 < x0) : 0 ≤ x1 ∧ x1 < 12000 ∧ (0 : Int) ≤ 0 ∧ (0 : Int) ≤ 4 := by omega
theorem la_object_99 {x0 x1 x2 : Int} (h0 : x0 < x1) (h1 : x2 = x0) : x2 < x1 + 1 := by omega
theorem la_object_100 {x0 x1 : Int} (h0 : 0 ≤ x0) (h1 : x1 = x0) : 0 ≤ x1 := by omega
theorem la_object_101 {x0 x1 x2 : Int} (h0 : x0 < x1) (h1 : x2 = x0) : x2 < x1 := by omega
theorem la_object_102 {x0 x1 : Int} (h0 : x0 = 1) (h1 : x1 = x0) : x1 = 1 := by omega
theorem la_object_103 {x0 x1 : Int} (h0 : x0 = x1) : x0 ≤ x1 := by omega
theorem la_object_104 {x0 x1 x2 x3 x4 x5 x6 : Int} (h0 : x0 ≤ 12000) (h1 : x1 ≤ x2) (h2 : x3 < x0) (h3 : x4 ≤ x1) (h4 : x5 = x4) (h5 : x6 = x3) : 12001 * x5 + x6 ≤ 12001 * (x2 + 1) := by omega
theorem la_object_105 : ¬ (0 : Int) = 29 := by omega
theorem la_object_106 : ¬ (0 : Int) = 17 := by omega
theorem la_object_107 {x0 x1 x2 : Int} : (0 : Int) = 17 → 0 ≤ x0 → x1 < x2 := by omega
theorem la_object_108 {x0 x1 x2 x3 : Int} (h0 : x0 ≤ x1) (h1 : x2 = x3 + 1) (h2 : x3 = x1 + 1) : x0 ≤ x2 := by omega
theorem la_object_109 {x0 x1 x2 x3 x4 x5 x6 x7 x8 x9 x10 x11 x12 x13 x14 x15 x16 x17 : Int} (h0 : 0 ≤ x0 → x1 ≤ x2) (h1 : x3 = x2 + 1) (h2 : x4 = x0) (h3 : x5 = x1) (h4 : x6 = x7 + x8) (h5 : x8 = 1) (h6 : x9 = x10) (h7 : x10 = x11) (h8 : x12 = x13) (h9 : x13 = x14) (h10 : x7 = x3 + x15) (h11 : x15 = 1) (h12 : x11 = x16) (h13 : x16 = x4) (h14 : x14 = x17) (h15 : x17 = x5) : 0 ≤ x9 → x12 ≤ x6 := by omega
theorem la_object_110 {x0 x1 x2 x3 x4 x5 x6 x7 x8 x9 x10 x11 x12 x13 x14 x15 : Int} (h0 : 0 ≤ x0 → x1 ≤ x2) (h1 : x3 = x2 + 1) (h2 : x4 = x0) (h3 : x5 = x1) (h4 : x6 = x7 + x8) (h5 : x8 = 1) (h6 : x9 = x10) (h7 : x10 = x11) (h8 : x7 = x3 + x12) (h9 : x12 = 1) (h10 : x11 = x13) (h11 : x13 = x4) (h12 : x14 = x15) (h13 : x15 = x5) : 0 ≤ x9 → x14 ≤ x6 := by omega
theorem la_object_111 {x0 x1 x2 x3 x4 x5 x6 x7 x8 x9 : Int} (h0 : x0 ≤ x1) (h1 : x1 + 1 ≤ x2) (h2 : x3 = x0 + 1) (h3 : x4 = x5 + 1) (h4 : x6 = x7 + x8) (h5 : x8 = 1) (h6 : x5 = x2 + 1) (h7 : x7 = x3 + x9) (h8 : x9 = 1) : x6 ≤ x4 := by omega
theorem la_object_112 {x0 x1 x2 x3 x4 x5 x6 x7 x8 x9 x10 : Int} (h0 : x0 + 3 * (600 - x1) + x2 ≤ 8000) (h1 : x2 = x3) (h2 : x4 ≤ x3) (h3 : x5 ≤ x4) (h4 : x6 = x5) (h5 : x7 ≤ x0 + 3 * (x8 - x1)) (h6 : x9 = x10 + 1) (h7 : x10 = x8 + 1) : x7 + 3 * (600 - x9) + x6 ≤ 8000 := by omega
theorem la_object_113 {x0 x1 x2 x3 : Int} (h0 : 0 ≤ x0) (h1 : x1 = x0) (h2 : x2 ≤ 600) (h3 : x3 = x1 + (600 - x2) + 8) : 0 ≤ x3 := by omega
theorem la_object_114 {x0 : Int} (h0 : x0 ≤ 1) (h1 : 0 < x0) : x0 = 1 := by omega
theorem la_object_115 {x0 : Int} (h0 : x0 = 4) : 0 ≤ x0 := by omega
theorem la_object_116 {x0 x1 x2 : Int} (h0 : x0 ≤ 600) (h1 : x1 + 1 ≤ x0) (h2 : 0 ≤ x2) (h3 : x1 = 600) : x2 = 0 := by omega
theorem la_object_117 {x0 x1 x2 x3 : Int} (h0 : x0 + 1 ≤ x1) (h1 : x2 ≤ 600) (h2 : x0 = 600) (h3 : x2 = x1 + 1) : x3 = 0 := by omega
theorem la_object_118 {x0 x1 x2 x3 x4 : Int} (h0 : x0 + 1 ≤ x1) (h1 : x2 ≤ 600) (h2 : x0 = 600) (h3 : x3 = x1 + 1) (h4 : x2 = x3 + 1) : x4 = 0 := by omega
theorem la_object_119 {x0 x1 x2 x3 : Int} (h0 : x0 + 1 ≤ x1) (h1 : x2 ≤ 600) (h2 : x0 = 600) (h3 : x2 = x1 + 1) : 0 ≤ x3 := by omega
theorem la_object_120 {x0 x1 x2 x3 x4 : Int} (h0 : x0 + 1 ≤ x1) (h1 : x2 ≤ 600) (h2 : x0 = 600) (h3 : x3 = x1 + 1) (h4 : x4 = 0) (h5 : x2 = x3 + 1) : x4 = 1 := by omega
theorem la_object_121 {x0 x1 x2 x3 x4 : Int} (h0 : x0 + 1 ≤ x1) (h1 : x2 ≤ 600) (h2 : x0 = 600) (h3 : x3 = x1 + 1) (h4 : x2 = x3 + 1) : ¬ x4 = 1 := by omega
theorem la_object_122 {x0 x1 x2 x3 x4 x5 : Int} (h0 : x0 + 1 ≤ x1) (h1 : x2 ≤ 600) (h2 : x0 = 600) (h3 : x3 = x1 + 1) (h4 : x2 = x3 + 1) : x4 < x5 := by omega
theorem la_object_123 {x0 x1 x2 x3 : Int} (h0 : x0 = x1) (h1 : x2 = x3) (h2 : x3 = x1) : x0 = x2 := by omega
theorem la_object_124 {x0 x1 x2 x3 x4 x5 x6 x7 x8 x9 x10 : Int} (h0 : x0 + (600 - x1) + 8 = x2) (h1 : x0 = x3) (h2 : x4 ≤ x3) (h3 : x5 ≤ x4) (h4 : x6 = x5) (h5 : x1 + 1 ≤ x7) (h6 : x8 = x6 + (600 - x9) + 8) (h7 : x9 = x10 + 1) (h8 : x10 = x7 + 1) : x8 < x2 := by omega
theorem la_object_125 {x0 x1 x2 x3 x4 x5 : Int} (h0 : x0 + (600 - x1) + 8 = x2) (h1 : x3 ≤ 600) (h2 : 0 ≤ x4) (h3 : x0 = x4) (h4 : x3 = x1 + 1) (h5 : x5 = 4) : x5 < x2 := by omega
theorem la_object_126 {x0 x1 x2 x3 x4 x5 : Int} (h0 : x0 + 1 ≤ x1) (h1 : x2 ≤ 600) (h2 : x0 = 600) (h3 : x3 = x1 + 1) (h4 : x2 = x3 + 1) : x4 + 1 ≤ x5 + (600 - x0) + 8 := by omega
theorem la_object_127 {x0 x1 x2 x3 x4 x5 : Int} (h0 : x0 ≤ x1) (h1 : x1 ≤ x0 + 3 * (600 - x2) + x3) (h2 : 0 ≤ x4) (h3 : x3 = x4) (h4 : x5 = 4) : x5 + 1 ≤ x3 + (600 - x2) + 8 := by omega
theorem la_object_128 {x0 x1 x2 x3 x4 x5 : Int} (h0 : x0 < x1) (h1 : x1 + 1 ≤ x2) (h2 : x3 = x0) (h3 : x4 = x5) (h4 : x5 = x3) : x4 < x2 + 1 := by omega
theorem la_object_129 {x0 x1 x2 x3 x4 : Int} (h0 : x0 < x1) (h1 : x2 = x0) (h2 : x3 = x4) (h3 : x4 = x2) : x3 < x1 + 1 := by omega
theorem la_object_130 {x0 x1 x2 x3 : Int} (h0 : x0 = x1) (h1 : x2 = x3) (h2 : x3 = x0) : x2 = x1 := by omega
theorem la_object_131 {x0 x1 x2 x3 x4 x5 : Int} (h0 : x0 = x1) (h1 : x2 = x3) (h2 : x3 = x1) (h3 : x4 = x5) (h4 : x5 = x0) : x4 = x2 := by omega
theorem la_object_132 {x0 x1 x2 x3 x4 x5 x6 x7 x8 x9 : Int} (h0 : x0 = x1) (h1 : x2 ≤ x1) (h2 : x3 ≤ x2) (h3 : x4 = x3) (h4 : x5 + 1 ≤ x6) (h5 : x7 = x4 + (600 - x8) + 8) (h6 : x8 = x9 + 1) (h7 : x9 = x6 + 1) : x7 + 1 ≤ x0 + (600 - x5) + 8 := by omega
theorem la_object_133 : (0 : Int) ≤ 11 := by omega
theorem la_object_134 : (11 : Int) ≤ 30 := by omega
theorem la_object_135 {x0 x1 x2 x3 x4 x5 x6 x7 x8 x9 x10 x11 x12 x13 x14 x15 x16 x17 x18 x19 x20 x21 x22 x23 x24 x25 x26 x27 x28 x29 x30 x31 x32 x33 x34 x35 : Int} (h0 : 0 ≤ x0) (h1 : 0 ≤ x1 → x2 ≤ x0) (h2 : 0 ≤ x3 → x4 ≤ x0) (h3 : x5 = x0 + 1) (h4 : x6 = x1) (h5 : x7 = x3) (h6 : x8 = x2) (h7 : x9 = x4) (h8 : x10 = x11 + 1) (h9 : x12 = x13) (h10 : x14 = x15) (h11 : x16 = x17) (h12 : x18 = x19) (h13 : x11 = x20 + x21) (h14 : x21 = 1) (h15 : x13 = x22) (h16 : x22 = x23) (h17 : x15 = x24) (h18 : x24 = x25) (h19 : x17 = x26) (h20 : x26 = x27) (h21 : x20 = x5 + x28) (h22 : x28 = 1) (h23 : x23 = x29) (h24 : x29 = x6) (h25 : x25 = x30) (h26 : x30 = x7) (h27 : x27 = x31) (h28 : x31 = x8) (h29 : x19 = x32) (h30 : x32 = x9) (h31 : x33 = (-2)) (h32 : x34 = x12) (h33 : x35 = x14) : (0 ≤ x10 - 3 ∧ (0 ≤ x12 → x16 ≤ x10 - 3) ∧ (0 ≤ x14 → x18 ≤ x10 - 3)) ∧ x10 + x33 = x10 - 2 ∧ x34 = x12 ∧ x35 = x14 := by omega
theorem la_object_136 {x0 x1 x2 : Int} : (21 : Int) ≤ 11 ∧ (11 : Int) ≤ 24 ∨ (11 : Int) = 27 ∨ (11 : Int) = 30 → (0 : Int) ≤ 0 ∧ 0 < x0 ∧ x1 = x2 := by omega
theorem la_object_137 : ¬ (11 : Int) = 1 := by omega
theorem la_object_138 {x0 x1 : Int} (h0 : (11 : Int) = 2) : x0 < x1 + 1 := by omega
theorem la_object_139 {x0 : Int} (h0 : (11 : Int) = 2) : x0 < x0 := by omega
theorem la_object_140 {x0 x1 : Int} (h0 : (11 : Int) = 2) : x0 < x1 := by omega
theorem la_object_141 {x0 : Int} (h0 : (11 : Int) = 2) : 0 ≤ x0 := by omega
theorem la_object_142 {x0 : Int} (h0 : (11 : Int) = 2) : x0 = 1 := by omega
theorem la_object_143 {x0 : Int} (h0 : (11 : Int) = 2) : ¬ x0 = (-1) := by omega
theorem la_object_144 {x0 : Int} (h0 : (11 : Int) = 2) : x0 = 3 := by omega
theorem la_object_145 {x0 : Int} (h0 : (11 : Int) = 2) : x0 = 4 ∨ x0 = 5 ∨ x0 = 8 ∨ x0 = 9 := by omega
theorem la_object_146 {x0 : Int} (h0 : (11 : Int) = 2) : ¬ x0 = 1 := by omega
theorem la_object_147 {x0 : Int} (h0 : (11 : Int) = 2) : x0 = 3 ∨ x0 = 6 := by omega
theorem la_object_148 {x0 : Int} (h0 : (11 : Int) = 2) : x0 = 6 := by omega
theorem la_object_149 {x0 : Int} (h0 : (11 : Int) = 2) : x0 = 2 := by omega
theorem la_object_150 {x0 x1 : Int} (h0 : (11 : Int) = 2) : x0 = x1 := by omega
theorem la_object_151 {x0 x1 : Int} (h0 : (11 : Int) = 2) : 5 * x0 + 1 = 5 * x1 := by omega
theorem la_object_152 {x0 x1 : Int} (h0 : (11 : Int) = 2) : 5 * x0 + 0 = 5 * x1 + 1 := by omega
theorem la_object_153 {x0 : Int} (h0 : (11 : Int) = 2) : 5 * x0 + 1 = 5 * x0 := by omega
theorem la_object_154 {x0 x1 : Int} (h0 : (11 : Int) = 2) : 5 * x0 + 1 = 5 * x1 + 1 := by omega
theorem la_object_155 {x0 : Int} (h0 : (11 : Int) = 2) : 5 * x0 + 1 = 5 * x0 + 0 := by omega
theorem la_object_156 (h0 : (11 : Int) = 2) : False := by omega
theorem la_object_157 : ¬ (11 : Int) = 29 := by omega
theorem la_object_158 : ¬ (11 : Int) = 17 := by omega
theorem la_object_159 {x0 x1 x2 : Int} : (11 : Int) = 17 → 0 ≤ x0 → x1 < x2 := by omega
theorem la_object_160 : (0 : Int) ≤ 17 := by omega
theorem la_object_161 : (17 : Int) ≤ 30 := by omega
theorem la_object_162 {x0 x1 x2 x3 x4 x5 x6 x7 x8 x9 x10 x11 x12 x13 x14 x15 x16 x17 x18 x19 x20 x21 x22 x23 x24 x25 x26 x27 x28 x29 x30 x31 x32 x33 x34 x35 x36 x37 x38 x39 x40 x41 x42 x43 x44 x45 : Int} (h0 : 0 ≤ x0) (h1 : 0 ≤ x1 → x2 ≤ x0) (h2 : 0 ≤ x3 → x4 ≤ x0) (h3 : x5 = x0 + 1) (h4 : x6 = x1) (h5 : x7 = x3) (h6 : x8 = x2) (h7 : x9 = x4) (h8 : x10 = x11 + x12) (h9 : x12 = (-2)) (h10 : x13 = x14) (h11 : x14 = x15) (h12 : x16 = x17) (h13 : x17 = x18) (h14 : x19 = x20) (h15 : x20 = x21) (h16 : x11 = x22 + 1) (h17 : x15 = x23) (h18 : x18 = x24) (h19 : x21 = x25) (h20 : x26 = x27) (h21 : x28 = x26) (h22 : x22 = x29 + x30) (h23 : x30 = 1) (h24 : x23 = x31) (h25 : x31 = x32) (h26 : x24 = x33) (h27 : x33 = x34) (h28 : x25 = x35) (h29 : x35 = x36) (h30 : x29 = x5 + x37) (h31 : x37 = 1) (h32 : x32 = x38) (h33 : x38 = x6) (h34 : x34 = x39) (h35 : x39 = x7) (h36 : x36 = x40) (h37 : x40 = x8) (h38 : x27 = x41) (h39 : x41 = x9) (h40 : x42 = (-1)) (h41 : x43 = x13) (h42 : (0 ≤ x16 → x28 < x10) → x44 = x16) : 1 ≤ x10 ∧ (0 ≤ x13 → x19 ≤ x10 - 1) ∧ (0 ≤ x16 ∧ x28 = x10 ∧ x10 + x42 = x10 - 1 ∧ x43 = x13 ∧ x44 = x45 ∨ (0 ≤ x16 → x28 ≤ x10 - 1) ∧ x10 + x42 = x10 - 1 ∧ x43 = x13 ∧ x44 = x16) := by omega
theorem la_object_163 {x0 x1 x2 : Int} : (21 : Int) ≤ 17 ∧ (17 : Int) ≤ 24 ∨ (17 : Int) = 27 ∨ (17 : Int) = 30 → (0 : Int) ≤ 0 ∧ 0 < x0 ∧ x1 = x2 := by omega
theorem la_object_164 : ¬ (17 : Int) = 1 := by omega
theorem la_object_165 {x0 x1 : Int} (h0 : (17 : Int) = 2) : x0 < x1 + 1 := by omega
theorem la_object_166 {x0 : Int} (h0 : (17 : Int) = 2) : x0 < x0 := by omega
theorem la_object_167 {x0 x1 : Int} (h0 : (17 : Int) = 2) : x0 < x1 := by omega
theorem la_object_168 {x0 : Int} (h0 : (17 : Int) = 2) : 0 ≤ x0 := by omega
theorem la_object_169 {x0 : Int} (h0 : (17 : Int) = 2) : x0 = 1 := by omega
theorem la_object_170 {x0 : Int} (h0 : (17 : Int) = 2) : ¬ x0 = (-1) := by omega
theorem la_object_171 {x0 : Int} (h0 : (17 : Int) = 2) : x0 = 3 := by omega
theorem la_object_172 {x0 : Int} (h0 : (17 : Int) = 2) : x0 = 4 ∨ x0 = 5 ∨ x0 = 8 ∨ x0 = 9 := by omega
theorem la_object_173 {x0 x1 x2 : Int} (h0 : (17 : Int) = 2) : 0 ≤ x0 → x1 < x2 := by omega
theorem la_object_174 {x0 : Int} (h0 : (17 : Int) = 2) : ¬ x0 = 1 := by omega
theorem la_object_175 {x0 : Int} (h0 : (17 : Int) = 2) : x0 = 3 ∨ x0 = 6 := by omega
theorem la_object_176 {x0 : Int} (h0 : (17 : Int) = 2) : x0 = 6 := by omega
theorem la_object_177 {x0 : Int} (h0 : (17 : Int) = 2) : x0 = 2 := by omega
theorem la_object_178 {x0 x1 : Int} (h0 : (17 : Int) = 2) : x0 = x1 := by omega
theorem la_object_179 {x0 x1 : Int} (h0 : (17 : Int) = 2) : 5 * x0 + 1 = 5 * x1 := by omega
theorem la_object_180 {x0 x1 : Int} (h0 : (17 : Int) = 2) : 5 * x0 + 0 = 5 * x1 + 1 := by omega
theorem la_object_181 {x0 : Int} (h0 : (17 : Int) = 2) : 5 * x0 + 1 = 5 * x0 := by omega
theorem la_object_182 {x0 x1 : Int} (h0 : (17 : Int) = 2) : 5 * x0 + 1 = 5 * x1 + 1 := by omega
theorem la_object_183 {x0 : Int} (h0 : (17 : Int) = 2) : 5 * x0 + 1 = 5 * x0 + 0 := by omega
theorem la_object_184 (h0 : (17 : Int) = 2) : False := by omega
theorem la_object_185 {x0 x1 : Int} (h0 : x0 ≤ 12000) (h1 : 0 ≤ x1) (h2 : x1 < x0) : 0 ≤ x1 ∧ x1 < 12000 := by omega
theorem la_object_186 {x0 x1 : Int} (h0 : 0 ≤ x0) : x0 = (-1) → x1 = (-1) := by omega
theorem la_object_187 {x0 x1 x2 x3 x4 x5 x6 x7 x8 x9 x10 x11 x12 x13 x14 x15 : Int} (h0 : 0 ≤ x0) (h1 : x0 < x1) (h2 : (-1) < x0) (h3 : 0 ≤ x2) (h4 : x3 = 4) (h5 : x4 ≤ x5) (h6 : x6 ≤ x7) (h7 : (-1) < x2) (h8 : x8 = (-1) ∨ x2 < x8 ∧ x8 < x1 ∧ x9 = x3 ∧ x10 ≤ x4 ∧ x11 ≤ x6 ∧ x12 ≤ x13 ∧ x14 ≤ x15 ∧ (x3 = 3 ∨ x3 = 6 → x10 < x4) ∧ (x3 = 6 → x15 = 2 → x14 < 2)) : ¬ x0 = (-1) → x8 = (-1) ∨ 0 ≤ x8 ∧ x8 < x1 ∧ x9 = 4 ∧ x10 ≤ x5 ∧ x11 ≤ x7 := by omega
theorem la_object_188 {x0 x1 x2 x3 x4 x5 x6 : Int} (h0 : x0 + 1 ≤ x1) (h1 : x1 ≤ x2) (h2 : x2 ≤ x3) (h3 : x3 ≤ x4) (h4 : x4 ≤ x5) (h5 : x5 ≤ x6) : x0 ≤ x6 := by omega
theorem la_object_189 {x0 x1 : Int} (h0 : x0 = 0) (h1 : x1 ≤ 1) : x0 = 1 → x1 = 1 := by omega
theorem la_object_190 {x0 x1 x2 x3 x4 x5 : Int} (h0 : x0 + 1 ≤ x1) (h1 : x1 ≤ x2) (h2 : x2 ≤ x3) (h3 : x3 ≤ x4) (h4 : x4 ≤ x5) : x0 ≤ x5 := by omega
theorem la_object_191 {x0 x1 x2 x3 x4 : Int} (h0 : x0 + 1 ≤ x1) (h1 : x1 ≤ x2) (h2 : x2 ≤ x3) (h3 : x3 ≤ x4) : x0 ≤ x4 := by omega
theorem la_object_192 {x0 x1 x2 x3 : Int} (h0 : x0 + 1 ≤ x1) (h1 : x1 ≤ x2) (h2 : x2 ≤ x3) : x0 ≤ x3 := by omega
theorem la_object_193 {x0 x1 x2 : Int} (h0 : x0 + 1 ≤ x1) (h1 : x1 ≤ x2) : x0 ≤ x2 := by omega
theorem la_object_194 {x0 x1 x2 x3 x4 x5 : Int} (h0 : x0 + 1 ≤ x1) (h1 : x1 ≤ x2) (h2 : x2 ≤ x3) (h3 : x3 ≤ x4) (h4 : x4 ≤ x5) : x0 + 1 ≤ x5 + 1 := by omega
theorem la_object_195 {x0 x1 x2 x3 x4 : Int} (h0 : x0 + 1 ≤ x1) (h1 : x1 ≤ x2) (h2 : x2 ≤ x3) (h3 : x3 ≤ x4) : x0 + 1 ≤ x4 + 1 := by omega
theorem la_object_196 {x0 x1 x2 x3 : Int} (h0 : x0 + 1 ≤ x1) (h1 : x1 ≤ x2) (h2 : x2 ≤ x3) : x0 + 1 ≤ x3 + 1 := by omega
theorem la_object_197 {x0 x1 x2 : Int} (h0 : x0 + 1 ≤ x1) (h1 : x1 ≤ x2) : x0 + 1 ≤ x2 + 1 := by omega
theorem la_object_198 {x0 x1 : Int} (h0 : x0 + 1 ≤ x1) : x0 + 1 ≤ x1 + 1 := by omega
theorem la_object_199 {x0 x1 x2 : Int} (h0 : x0 ≤ x1) (h1 : x1 ≤ x2) : x0 ≤ x2 := by omega
theorem la_object_200 {x0 x1 x2 : Int} (h0 : x0 = x1) (h1 : x2 = x0) : x2 = x1 := by omega
theorem la_object_201 {x0 x1 : Int} (h0 : x0 = x1) : x1 ≤ x0 := by omega
theorem la_object_202 {x0 x1 x2 : Int} (h0 : x0 = 0) : x0 = 1 → x1 = x2 := by omega
theorem la_object_203 {x0 x1 x2 x3 x4 x5 x6 x7 x8 x9 x10 x11 x12 x13 : Int} (h0 : x0 ≤ x1 + 3 * (600 - x2) + x3) (h1 : x3 = x4) (h2 : x5 ≤ x4) (h3 : x6 ≤ x5) (h4 : x7 = x6) (h5 : x0 ≤ x1 + 3 * (x8 - x2)) (h6 : x8 ≤ x9) (h7 : 0 ≤ x10) (h8 : x10 ≤ 1) (h9 : x9 ≤ x11) (h10 : x10 = 1 → x12 = x0) (h11 : x10 = 0 → x12 ≤ x0 + 3 * (600 - x11) + x7) : x13 = 0 → x12 ≤ x1 + 3 * (600 - x2) + x3 := by omega
theorem la_object_204 : ¬ (17 : Int) = 29 := by omega
theorem la_object_205 : (17 : Int) = 17 := by omega
theorem la_object_206 {x0 x1 x2 x3 : Int} (h0 : x0 = x1 + 1) (h1 : x1 = x2 + 1) (h2 : x3 ≤ x2) : x3 ≤ x0 := by omega
theorem la_object_207 {x0 x1 x2 x3 x4 x5 x6 : Int} (h0 : x0 + 1 ≤ x1) (h1 : x2 = x3 + 1) (h2 : x3 = x4 + 1) (h3 : x5 + 1 ≤ x4) (h4 : x5 = x6 + 1) (h5 : x6 = x1 + 1) : x0 + 1 ≤ x2 := by omega
theorem la_object_208 {x0 x1 x2 x3 x4 x5 : Int} (h0 : x0 + 1 ≤ x1) (h1 : x2 = x3 + 1) (h2 : x4 + 1 ≤ x3) (h3 : x4 = x5 + 1) (h4 : x5 = x1 + 1) : x0 < x2 := by omega
theorem la_object_209 {x0 x1 x2 x3 x4 : Int} (h0 : x0 + 1 ≤ x1) (h1 : x2 + 1 ≤ x3) (h2 : x2 = x4 + 1) (h3 : x4 = x1 + 1) : x0 < x3 := by omega
theorem la_object_210 {x0 x1 x2 x3 : Int} (h0 : x0 + 1 ≤ x1) (h1 : x2 = x3 + 1) (h2 : x3 = x1 + 1) : x0 < x2 := by omega
theorem la_object_211 {x0 x1 x2 : Int} (h0 : x0 + 1 ≤ x1) (h1 : x2 = x1 + 1) : x0 < x2 := by omega
theorem la_object_212 {x0 x1 : Int} (h0 : x0 + 1 ≤ x1) : x0 < x1 := by omega
theorem la_object_213 {x0 x1 x2 x3 x4 : Int} (h0 : x0 = x1 + 1) (h1 : x2 + 1 ≤ x1) (h2 : x2 = x3 + 1) (h3 : x3 = x4 + 1) : x4 ≤ x0 := by omega
theorem la_object_214 {x0 x1 x2 x3 : Int} (h0 : x0 + 1 ≤ x1) (h1 : x0 = x2 + 1) (h2 : x2 = x3 + 1) : x3 ≤ x1 := by omega
theorem la_object_215 {x0 x1 x2 : Int} (h0 : x0 = x1 + 1) (h1 : x1 = x2 + 1) : x2 ≤ x0 := by omega
theorem la_object_216 {x0 x1 x2 x3 x4 : Int} (h0 : x0 = x1 + 1) (h1 : x2 + 1 ≤ x1) (h2 : x2 = x3 + 1) (h3 : x3 = x4 + 1) : x4 < x0 := by omega
theorem la_object_217 {x0 x1 x2 x3 : Int} (h0 : x0 + 1 ≤ x1) (h1 : x0 = x2 + 1) (h2 : x2 = x3 + 1) : x3 < x1 := by omega
theorem la_object_218 {x0 x1 x2 : Int} (h0 : x0 = x1 + 1) (h1 : x1 = x2 + 1) : x2 < x0 := by omega
theorem la_object_219 {x0 x1 : Int} (h0 : x0 = x1 + 1) : x1 < x0 := by omega
theorem la_object_220 {x0 x1 x2 x3 x4 : Int} (h0 : x0 = x1 + 1) (h1 : x2 + 1 ≤ x1) (h2 : x2 = x3 + 1) (h3 : x3 = x4 + 1) : x4 + 1 < x0 := by omega
theorem la_object_221 {x0 x1 x2 x3 : Int} (h0 : x0 + 1 ≤ x1) (h1 : x0 = x2 + 1) (h2 : x2 = x3 + 1) : x3 + 1 < x1 := by omega
theorem la_object_222 {x0 x1 x2 : Int} (h0 : x0 = x1 + 1) (h1 : x1 = x2 + 1) : x2 + 1 < x0 := by omega
theorem la_object_223 {x0 x1 : Int} (h0 : x0 ≤ x1 + 1) (h1 : x0 = x1 + 1) : x1 + 1 = x0 := by omega
theorem la_object_224 {x0 x1 x2 x3 x4 : Int} (h0 : x0 = x1 + 1) (h1 : x2 + 1 ≤ x1) (h2 : x2 = x3 + 1) (h3 : x3 = x4 + 1) : x4 + 1 + 1 < x0 := by omega
theorem la_object_225 {x0 x1 x2 x3 : Int} (h0 : x0 + 1 ≤ x1) (h1 : x0 = x2 + 1) (h2 : x2 = x3 + 1) : x3 + 1 + 1 < x1 := by omega
theorem la_object_226 {x0 x1 x2 : Int} (h0 : x0 = x1 + 1) (h1 : x1 = x2 + 1) : x0 ≤ x2 + 1 + 1 := by omega
theorem la_object_227 {x0 x1 x2 x3 : Int} (h0 : x0 + 1 ≤ x1) (h1 : x0 = x2 + 1) (h2 : x2 = x3 + 1) : x3 + 1 + 1 ≤ x1 := by omega
theorem la_object_228 {x0 x1 x2 : Int} (h0 : x0 ≤ x1 + 1) (h1 : x1 = x2 + 1) : x0 ≤ x2 + 1 + 1 := by omega
theorem la_object_229 {x0 x1 x2 x3 x4 x5 x6 x7 x8 x9 x10 : Int} (h0 : x0 = x1 + 1) (h1 : x2 = x3 + x4) (h2 : x4 = (-1)) (h3 : x3 = x5 + x6) (h4 : x6 = (-2)) (h5 : x5 = x7 + 1) (h6 : x7 = x8 + x9) (h7 : x9 = 1) (h8 : x8 = x0 + x10) (h9 : x10 = 1) : x2 = x1 + 1 := by omega
theorem la_object_230 {x0 x1 x2 x3 x4 x5 x6 x7 x8 x9 x10 : Int} (h0 : x0 = x1) (h1 : x2 = x3) (h2 : x3 = x4) (h3 : x4 = x5) (h4 : x5 = x6) (h5 : x6 = x7) (h6 : x7 = x8) (h7 : x8 = x9) (h8 : x9 = x10) (h9 : x10 = x0) : x2 = x1 := by omega
theorem la_object_231 {x0 x1 x2 x3 : Int} (h0 : x0 = x1) (h1 : x1 = x2) (h2 : x2 < x3) : x0 < x3 + 1 := by omega
theorem la_object_232 {x0 x1 x2 : Int} (h0 : x0 = x1) (h1 : x1 < x2) : x0 < x2 + 1 := by omega
theorem la_object_233 {x0 x1 x2 x3 x4 x5 : Int} (h0 : x0 = x1) (h1 : x1 = x2) (h2 : x3 + 1 ≤ x4) (h3 : x2 = x5) (h4 : x5 < x3) : x0 < x4 + 1 := by omega
theorem la_object_234 {x0 x1 x2 : Int} (h0 : x0 ≤ x1 + 1) (h1 : x2 < x0) : x2 < x1 + 1 := by omega
theorem la_object_235 {x0 x1 x2 x3 x4 x5 x6 x7 : Int} (h0 : x0 < x1) (h1 : x1 + 1 ≤ x2) (h2 : x3 = x0) (h3 : x4 = x5) (h4 : x5 = x6) (h5 : x6 = x7) (h6 : x7 = x3) : x4 < x2 + 1 := by omega
theorem la_object_236 {x0 x1 x2 x3 x4 : Int} (h0 : x0 = x1) (h1 : x1 = x2) (h2 : x2 = x3) (h3 : x3 < x4) : x0 < x4 + 1 := by omega
theorem la_object_237 {x0 x1 x2 x3 x4 x5 x6 x7 x8 x9 : Int} (h0 : x0 < x1) (h1 : x1 + 1 ≤ x2) (h2 : x3 = x0) (h3 : x4 = x5) (h4 : x5 = x6) (h5 : x6 = x7) (h6 : x8 = x2 + 1) (h7 : x7 = x9) (h8 : x9 = x3) : x4 < x8 + 1 := by omega
theorem la_object_238 {x0 x1 x2 x3 x4 x5 x6 x7 : Int} (h0 : x0 = x1) (h1 : x1 = x2) (h2 : x2 = x3) (h3 : x3 = x4) (h4 : x5 + 1 ≤ x6) (h5 : x4 = x7) (h6 : x7 < x5) : x0 < x6 + 1 := by omega
theorem la_object_239 {x0 x1 x2 x3 x4 x5 x6 : Int} (h0 : x0 < x1) (h1 : x2 = x0) (h2 : x3 = x4) (h3 : x4 = x5) (h4 : x5 = x6) (h5 : x6 = x2) : x3 < x1 + 1 := by omega
theorem la_object_240 {x0 x1 x2 x3 x4 x5 x6 x7 x8 : Int} (h0 : x0 < x1) (h1 : x1 + 1 ≤ x2) (h2 : x3 = x0) (h3 : x4 = x5) (h4 : x5 = x6) (h5 : x6 = x7) (h6 : x7 = x8) (h7 : x8 = x3) : x4 < x2 + 1 := by omega
theorem la_object_241 {x0 x1 x2 x3 x4 x5 x6 x7 x8 x9 x10 x11 : Int} (h0 : x0 < x1) (h1 : x1 + 1 ≤ x2) (h2 : x3 = x0) (h3 : x4 = x5) (h4 : x5 = x6) (h5 : x6 = x7) (h6 : x7 = x8) (h7 : x8 = x9) (h8 : x10 = x2 + 1) (h9 : x9 = x11) (h10 : x11 = x3) : x4 < x10 + 1 := by omega
theorem la_object_242 {x0 x1 x2 x3 x4 x5 x6 x7 x8 x9 : Int} (h0 : x0 = x1) (h1 : x1 = x2) (h2 : x2 = x3) (h3 : x3 = x4) (h4 : x4 = x5) (h5 : x6 = x7 + 1) (h6 : x5 = x8) (h7 : x8 = x9) (h8 : x9 < x7) : x0 < x6 + 1 := by omega
theorem la_object_243 {x0 x1 x2 x3 x4 x5 : Int} (h0 : x0 = x1) (h1 : x2 = x3) (h2 : x3 = x4) (h3 : x4 = x5) (h4 : x5 = x0) : x2 = x1 := by omega
theorem la_object_244 {x0 x1 x2 x3 x4 : Int} (h0 : x0 = x1) (h1 : x1 = x2) (h2 : x2 = x3) (h3 : x3 = x4) : x0 = x4 := by omega
theorem la_object_245 {x0 x1 x2 x3 x4 x5 : Int} (h0 : x0 = x1) (h1 : x1 = x2) (h2 : x2 = x3) (h3 : x3 = x4) (h4 : x4 = x5) : x0 = x5 := by omega
theorem la_object_246 {x0 x1 x2 x3 : Int} (h0 : x0 = x1) (h1 : x1 = x2) (h2 : x2 = x3) : x0 = x3 := by omega
theorem la_object_247 {x0 x1 x2 x3 x4 x5 x6 x7 x8 x9 x10 x11 x12 x13 x14 x15 x16 x17 x18 x19 x20 x21 x22 x23 x24 x25 : Int} (h0 : 0 ≤ x0 → x1 ≤ x2) (h1 : x3 = x2 + 1) (h2 : x4 = x0) (h3 : x5 = x1) (h4 : (-1) ≤ x6) (h5 : x6 = x7) (h6 : (0 ≤ x8 → x9 < x10) → x7 = x8) (h7 : x10 = x11 + x12) (h8 : x12 = (-2)) (h9 : x8 = x13) (h10 : x13 = x14) (h11 : x11 = x15 + 1) (h12 : x14 = x16) (h13 : x17 = x18) (h14 : x9 = x17) (h15 : x15 = x19 + x20) (h16 : x20 = 1) (h17 : x16 = x21) (h18 : x21 = x22) (h19 : x19 = x3 + x23) (h20 : x23 = 1) (h21 : x22 = x24) (h22 : x24 = x4) (h23 : x18 = x25) (h24 : x25 = x5) : x6 = x8 := by omega
theorem la_object_248 {x0 x1 x2 x3 x4 x5 x6 x7 x8 x9 x10 x11 x12 x13 x14 x15 x16 x17 x18 x19 x20 x21 x22 x23 x24 x25 : Int} (h0 : 0 ≤ x0 → x1 ≤ x2) (h1 : x3 = x2 + 1) (h2 : x4 = x0) (h3 : x5 = x1) (h4 : (-1) ≤ x6) (h5 : x6 = x7) (h6 : (0 ≤ x8 → x9 < x10) → x7 = x8) (h7 : x10 = x11 + x12) (h8 : x12 = (-2)) (h9 : x8 = x13) (h10 : x13 = x14) (h11 : x11 = x15 + 1) (h12 : x14 = x16) (h13 : x17 = x18) (h14 : x9 = x17) (h15 : x15 = x19 + x20) (h16 : x20 = 1) (h17 : x16 = x21) (h18 : x21 = x22) (h19 : x19 = x3 + x23) (h20 : x23 = 1) (h21 : x22 = x24) (h22 : x24 = x4) (h23 : x18 = x25) (h24 : x25 = x5) : x6 = x0 := by omega
theorem la_object_249 {x0 x1 x2 x3 x4 x5 x6 x7 : Int} (h0 : x0 = x1) (h1 : x2 = x3) (h2 : x4 = x2) (h3 : x3 = x5) (h4 : x5 = x0) (h5 : x6 = x7) (h6 : x7 = x4) : x6 = x1 := by omega
theorem la_object_250 {x0 x1 x2 x3 x4 x5 : Int} (h0 : x0 + 1 ≤ x1) (h1 : x2 = x3 + 1) (h2 : x4 + 1 ≤ x3) (h3 : x4 = x5 + 1) (h4 : x5 = x1 + 1) : x0 < x2 + 1 := by omega
theorem la_object_251 {x0 x1 x2 x3 x4 : Int} (h0 : x0 + 1 ≤ x1) (h1 : x2 + 1 ≤ x3) (h2 : x2 = x4 + 1) (h3 : x4 = x1 + 1) : x0 < x3 + 1 := by omega
theorem la_object_252 {x0 x1 x2 x3 : Int} (h0 : x0 + 1 ≤ x1) (h1 : x2 = x3 + 1) (h2 : x3 = x1 + 1) : x0 < x2 + 1 := by omega
theorem la_object_253 {x0 x1 x2 : Int} (h0 : x0 + 1 ≤ x1) (h1 : x2 = x1 + 1) : x0 < x2 + 1 := by omega
theorem la_object_254 {x0 x1 : Int} (h0 : x0 + 1 ≤ x1) : x0 < x1 + 1 := by omega
theorem la_object_255 {x0 x1 x2 x3 x4 x5 x6 x7 x8 x9 : Int} (h0 : 0 ≤ x0) (h1 : x1 = 8 * x0 + 18) (h2 : x2 + 1 ≤ x3) (h3 : x4 = x5 + 1) (h4 : x5 = x6 + 1) (h5 : x7 + 1 ≤ x6) (h6 : x7 = x8 + 1) (h7 : x8 = x3 + 1) : 2 * x9 ≤ 2 * x9 + (x4 - x2) + x1 := by omega
theorem la_object_256 {x0 x1 x2 x3 x4 x5 : Int} (h0 : x0 + 1 ≤ x1) (h1 : x2 = x3 + 1) (h2 : x4 + 1 ≤ x3) (h3 : x4 = x5 + 1) (h4 : x5 = x1 + 1) : x0 + 1 < x2 + 1 := by omega
theorem la_object_257 {x0 x1 x2 x3 x4 : Int} (h0 : x0 + 1 ≤ x1) (h1 : x2 + 1 ≤ x3) (h2 : x2 = x4 + 1) (h3 : x4 = x1 + 1) : x0 + 1 < x3 + 1 := by omega
theorem la_object_258 {x0 x1 x2 x3 : Int} (h0 : x0 + 1 ≤ x1) (h1 : x2 = x3 + 1) (h2 : x3 = x1 + 1) : x0 + 1 < x2 + 1 := by omega
theorem la_object_259 {x0 x1 x2 : Int} (h0 : x0 + 1 ≤ x1) (h1 : x2 = x1 + 1) : x0 + 1 < x2 + 1 := by omega
theorem la_object_260 {x0 x1 : Int} (h0 : x0 + 1 ≤ x1) : x0 + 1 < x1 + 1 := by omega
theorem la_object_261 {x0 : Int} : x0 ≤ x0 + 1 := by omega
theorem la_object_262 {x0 x1 x2 x3 x4 x5 x6 x7 x8 : Int} (h0 : x0 = x1 + 1) (h1 : x1 = x2 + 1) (h2 : x3 + 1 ≤ x2) (h3 : x3 = x4 + 1) (h4 : x4 = x5 + 1) : 2 * x6 + (x5 - x7) + x8 ≤ 2 * x6 + (x0 - x7) + x8 := by omega
theorem la_object_263 {x0 x1 x2 x3 x4 : Int} (h0 : x0 = x1 + 1) (h1 : x2 + 1 ≤ x1) (h2 : x2 = x3 + 1) (h3 : x3 = x4 + 1) : x4 ≤ x0 + 1 := by omega
theorem la_object_264 {x0 x1 x2 x3 : Int} (h0 : x0 + 1 ≤ x1) (h1 : x0 = x2 + 1) (h2 : x2 = x3 + 1) : x3 ≤ x1 + 1 := by omega
theorem la_object_265 {x0 x1 x2 : Int} (h0 : x0 = x1 + 1) (h1 : x1 = x2 + 1) : x2 ≤ x0 + 1 := by omega
theorem la_object_266 {x0 x1 : Int} (h0 : x0 = x1 + 1) : x1 ≤ x0 + 1 := by omega
theorem la_object_267 {x0 x1 x2 x3 x4 : Int} (h0 : x0 = x1 + 1) (h1 : x2 + 1 ≤ x1) (h2 : x2 = x3 + 1) (h3 : x3 = x4 + 1) : x4 < x0 + 1 := by omega
theorem la_object_268 {x0 x1 x2 x3 : Int} (h0 : x0 + 1 ≤ x1) (h1 : x0 = x2 + 1) (h2 : x2 = x3 + 1) : x3 < x1 + 1 := by omega
theorem la_object_269 {x0 x1 x2 : Int} (h0 : x0 = x1 + 1) (h1 : x1 = x2 + 1) : x2 < x0 + 1 := by omega
theorem la_object_270 {x0 x1 : Int} (h0 : x0 = x1 + 1) : x1 < x0 + 1 := by omega
theorem la_object_271 {x0 x1 x2 x3 x4 x5 x6 x7 x8 x9 x10 : Int} (h0 : 0 ≤ x0) (h1 : x1 = 8 * x0 + 18) (h2 : x2 + 1 ≤ x3) (h3 : x4 = x5 + 1) (h4 : x6 = x7 + 1) (h5 : x7 = x8 + 1) (h6 : x9 + 1 ≤ x8) (h7 : x9 = x10 + 1) (h8 : x10 = x3 + 1) : 2 * x4 ≤ 2 * x5 + (x6 - x2) + x1 := by omega
theorem la_object_272 {x0 x1 x2 x3 x4 : Int} (h0 : x0 = x1 + 1) (h1 : x2 + 1 ≤ x1) (h2 : x2 = x3 + 1) (h3 : x3 = x4 + 1) : x4 + 1 < x0 + 1 := by omega
theorem la_object_273 {x0 x1 x2 x3 : Int} (h0 : x0 + 1 ≤ x1) (h1 : x0 = x2 + 1) (h2 : x2 = x3 + 1) : x3 + 1 < x1 + 1 := by omega
theorem la_object_274 {x0 x1 x2 : Int} (h0 : x0 = x1 + 1) (h1 : x1 = x2 + 1) : x2 + 1 < x0 + 1 := by omega
theorem la_object_275 {x0 x1 : Int} (h0 : x0 = x1 + 1) : x1 + 1 < x0 + 1 := by omega
theorem la_object_276 {x0 x1 x2 x3 x4 x5 x6 x7 x8 x9 x10 x11 : Int} (h0 : 0 ≤ x0) (h1 : x1 = 8 * x0 + 18) (h2 : x2 + 1 ≤ x3) (h3 : x4 = x5 + 1) (h4 : x6 = x7 + 1) (h5 : x7 = x8 + 1) (h6 : x9 + 1 ≤ x8) (h7 : x9 = x10 + 1) (h8 : x10 = x3 + 1) (h9 : x11 = 1) : 2 * (x4 + x11) ≤ 2 * x5 + (x6 - x2) + x1 := by omega
theorem la_object_277 {x0 x1 x2 x3 x4 : Int} (h0 : x0 = x1 + 1) (h1 : x2 + 1 ≤ x1) (h2 : x2 = x3 + 1) (h3 : x3 = x4 + 1) : x4 + 1 + 1 < x0 + 1 := by omega
theorem la_object_278 {x0 x1 x2 x3 : Int} (h0 : x0 + 1 ≤ x1) (h1 : x0 = x2 + 1) (h2 : x2 = x3 + 1) : x3 + 1 + 1 < x1 + 1 := by omega
theorem la_object_279 {x0 x1 x2 : Int} (h0 : x0 = x1 + 1) (h1 : x1 = x2 + 1) : x2 + 1 + 1 < x0 + 1 := by omega
theorem la_object_280 {x0 x1 x2 : Int} (h0 : x0 = x1 + 1) (h1 : x1 = x2 + 1) : x2 + 1 + 1 = x0 := by omega
theorem la_object_281 {x0 x1 x2 x3 x4 x5 x6 x7 x8 x9 x10 x11 x12 x13 : Int} (h0 : 0 ≤ x0) (h1 : x1 = 8 * x0 + 18) (h2 : x2 + 1 ≤ x3) (h3 : x4 = x5 + 1) (h4 : x6 = x7 + 1) (h5 : x7 = x8 + 1) (h6 : x9 + 1 ≤ x8) (h7 : x9 = x10 + 1) (h8 : x11 = 1) (h9 : x10 = x3 + 1) (h10 : x12 = x4 + x13) (h11 : x13 = 1) : 2 * (x12 + x11) ≤ 2 * x5 + (x6 - x2) + x1 := by omega
theorem la_object_282 {x0 x1 x2 x3 x4 : Int} (h0 : x0 = x1 + 1) (h1 : x2 + 1 ≤ x1) (h2 : x2 = x3 + 1) (h3 : x3 = x4 + 1) : x4 + 1 + 1 + 1 < x0 + 1 := by omega
theorem la_object_283 {x0 x1 x2 x3 : Int} (h0 : x0 + 1 ≤ x1) (h1 : x0 = x2 + 1) (h2 : x2 = x3 + 1) : x3 + 1 + 1 + 1 < x1 + 1 := by omega
theorem la_object_284 {x0 x1 x2 : Int} (h0 : x0 = x1 + 1) (h1 : x1 = x2 + 1) : x0 ≤ x2 + 1 + 1 + 1 := by omega
theorem la_object_285 {x0 x1 x2 x3 : Int} (h0 : x0 + 1 ≤ x1) (h1 : x0 = x2 + 1) (h2 : x2 = x3 + 1) : x3 + 1 + 1 + 1 ≤ x1 := by omega
theorem la_object_286 {x0 x1 x2 x3 x4 x5 x6 x7 x8 x9 x10 x11 x12 x13 x14 x15 x16 x17 : Int} (h0 : x0 = 8 * x1 + 18) (h1 : x2 ≤ x1) (h2 : x3 ≤ x2) (h3 : x4 = x3) (h4 : x5 + 1 ≤ x6) (h5 : x7 = x8 + 1) (h6 : x9 = x10 + 1) (h7 : x10 = x11 + 1) (h8 : x12 = x13 + 1) (h9 : x14 = x15 + x16) (h10 : x16 = 1) (h11 : x13 = x6 + 1) (h12 : x15 = x7 + x17) (h13 : x17 = 1) : 2 * x14 + (x11 - x12) + 8 * x4 + 10 ≤ 2 * x8 + (x9 - x5) + x0 := by omega
theorem la_object_287 {x0 x1 x2 x3 x4 x5 x6 x7 x8 x9 x10 x11 x12 x13 x14 x15 : Int} (h0 : 0 ≤ x0) (h1 : x1 = 8 * x0 + 18) (h2 : x2 + 1 ≤ x3) (h3 : x4 = x5 + 1) (h4 : x6 = x7 + 1) (h5 : x7 = x8 + 1) (h6 : x9 + 1 ≤ x8) (h7 : x10 = x11 + 1) (h8 : x9 = x12 + 1) (h9 : x11 = x13 + x14) (h10 : x14 = 1) (h11 : x12 = x3 + 1) (h12 : x13 = x4 + x15) (h13 : x15 = 1) : 2 * x10 ≤ 2 * x5 + (x6 - x2) + x1 := by omega
theorem la_object_288 {x0 x1 x2 x3 x4 x5 x6 x7 x8 x9 x10 x11 x12 x13 x14 x15 x16 : Int} (h0 : 0 ≤ x0) (h1 : x1 = 8 * x0 + 18) (h2 : x2 + 1 ≤ x3) (h3 : x4 = x5 + 1) (h4 : x6 = x7 + 1) (h5 : x7 = x8 + 1) (h6 : x9 = (-2)) (h7 : x10 + 1 ≤ x8) (h8 : x11 = x12 + 1) (h9 : x10 = x13 + 1) (h10 : x12 = x14 + x15) (h11 : x15 = 1) (h12 : x13 = x3 + 1) (h13 : x14 = x4 + x16) (h14 : x16 = 1) : 2 * (x11 + x9) ≤ 2 * x5 + (x6 - x2) + x1 := by omega
theorem la_object_289 {x0 x1 x2 x3 x4 x5 x6 x7 x8 x9 : Int} (h0 : x0 ≤ x1 + 3 * (x2 - x3)) (h1 : x4 = x5 + 1) (h2 : x5 = x6 + 1) (h3 : x7 ≤ x0 + 3 * (x6 - x8)) (h4 : x8 = x9 + 1) (h5 : x9 = x2 + 1) : x7 ≤ x1 + 3 * (x4 - x3) := by omega
theorem la_object_290 {x0 x1 x2 x3 x4 x5 x6 x7 x8 x9 x10 x11 x12 : Int} (h0 : 0 ≤ x0) (h1 : x1 = 4) (h2 : (-1) < x0) (h3 : x2 = (-1)) : ¬ (x0 < x2 ∧ x2 < x3 ∧ x4 = x1 ∧ x5 ≤ x6 ∧ x7 ≤ x8 ∧ x9 ≤ x10 ∧ x11 ≤ x12 ∧ (x1 = 3 ∨ x1 = 6 → x5 < x6) ∧ (x1 = 6 → x12 = 2 → x11 < 2)) := by omega
theorem la_object_291 {x0 x1 x2 x3 : Int} (h0 : x0 < x1) (h1 : x2 = x1 - x0) (h2 : x3 = 0) : x3 < x2 := by omega
theorem la_object_292 {x0 x1 : Int} (h0 : 0 ≤ x0) (h1 : x0 < x1) : (-1) ≤ x1 := by omega
theorem la_object_293 {x0 : Int} (h0 : x0 = 4) : ¬ (x0 = 3 ∨ x0 = 6) := by omega
theorem la_object_294 {x0 x1 x2 x3 x4 : Int} (h0 : x0 = x1 - x2) (h1 : x3 = x1 - x4) (h2 : x2 < x4) : x3 < x0 := by omega
set_option maxHeartbeats 16000000 in
theorem f_object : ∀ (d : Int) (p1 : Int) (S : sv_S), sm_ok S → sv_R p1 → (sm_WF (S 11) (S 12) (S 13) (S 1100001) (S 1100002) (S 1100005) (S 1100003) (S 1100004) (S 1024 0) (S 1007 0) (S 1009 0) (sm_fn (S 1032 0) (S 21) (S 1056 0)) ∧ (S 1009 0) = 0 ∧ 0 ≤ (S 1007 0) ∧ (S 1007 0) ≤ 90 ∧ 0 ≤ (S 1024 0) ∧ (S 1024 0) ≤ 12000 ∧ 1 ≤ (S 1032 0) ∧ (S 1032 0) ≤ 11 ∧ 0 ≤ (S 1056 0) ∧ (S 1056 0) < (S 1032 0) ∧ sm_VB (S 33) (S 21) (S 1032 0) ∧ 0 ≤ (S 1046 0) ∧ (S 1046 0) ≤ 600 ∧ 0 ≤ (S 1047 0) ∧ (S 1047 0) ≤ 1 ∧ 0 ≤ (S 1053 0) ∧ 0 ≤ (S 1066 0) ∧ -1 ≤ p1 ∧ (¬ p1 = -1 → 0 ≤ p1 ∧ p1 < (S 1024 0) ∧ (S 1100001 p1) = 4 ∧ 0 ≤ (S 1100005 p1) ∧ 0 ≤ (S 1100002 p1) ∧ sm_LF (S 39) (S 1100002) (S 1066 0) (S 1024 0) (12001 * ((S 1100002 p1) + 1))) ∧ (S 1047 0) = 0 ∧ sm_KC (S 26) (S 27) (S 28) (S 29) (S 1100007) (S 1100023) (S 1100024) (S 1100025) (S 31) (S 1100009) (S 1100027) (S 1100028) (S 1100026) (S 1100030) (S 21) (S 32) (S 33) (S 1046 0) (S 1053 0) (S 1056 0) (S 1032 0) (S 1007 0) (S 1100033 0) ∧ (S 1100033 0) = (S 1055 0) ∧ 0 ≤ (S 1055 0) ∧ (S 1055 0) ≤ (S 1046 0) ∧ (0 ≤ (S 1100023 (S 1046 0)) → (S 1100007 (S 1100023 (S 1046 0))) ≤ (S 1100007 (S 1046 0))) ∧ (0 ≤ (S 1100025 (S 1046 0)) → (S 1100007 (S 1100025 (S 1046 0))) ≤ (S 1100007 (S 1046 0))) ∧ (S 1100007 (S 1046 0)) ≤ (S 1046 0) ∧ (S 1053 0) + 3 * (600 - (S 1046 0)) + (if p1 = -1 then 0 else (S 1100002 p1)) ≤ 8000) → (((if p1 = -1 then 0 else (S 1100002 p1))) + (600 - (S 1046 0)) + 8) = d → (sv_R ((if (S 1047 0) = 0 then (S 1055 0) + 1 else 0))) ∧ (((S 1047 0) = 0 → (S 1100033 0) = (S 1055 0) → sm_KC (S 26) (S 27) (S 28) (S 29) (S 1100007) (S 1100023) (S 1100024) (S 1100025) (S 31) (S 1100009) (S 1100027) (S 1100028) (S 1100026) (S 1100030) (S 21) (S 32) (S 33) (S 1046 0) (S 1053 0) (S 1056 0) (S 1032 0) (S 1007 0) (S 1100033 0) → sm_KC (S 26) (S 27) (S 28) (S 29) (S 1100007) (S 1100023) (S 1100024) (S 1100025) (S 31) (S 1100009) (S 1100027) (S 1100028) (S 1100026) (S 1100030) (S 21) (S 32) (S 33) (S 1046 0) (S 1053 0) (S 1056 0) (S 1032 0) (S 1007 0) ((if (S 1047 0) = 0 then (S 1055 0) + 1 else 0))) → (((S 1047 0) = 0 → (if (S 1047 0) = 0 then (S 1055 0) + 1 else 0) = (S 1055 0) + 1) → (((S 1047 0) = 0 → 0 ≤ (S 1055 0) → (S 1055 0) ≤ 600 → 0 ≤ (if (S 1047 0) = 0 then (S 1055 0) + 1 else 0) ∧ (if (S 1047 0) = 0 then (S 1055 0) + 1 else 0) ≤ 601) → (((S 1047 0) = 0 → ((if (S 1047 0) = 0 then (S 1055 0) + 1 else 0)) = (S 1055 0) → sm_KC (S 26) (S 27) (S 28) (S 29) (S 1100007) (S 1100023) (S 1100024) (S 1100025) (S 31) (S 1100009) (S 1100027) (S 1100028) (S 1100026) (S 1100030) (S 21) (S 32) (S 33) (S 1046 0) (S 1053 0) (S 1056 0) (S 1032 0) (S 1007 0) ((if (S 1047 0) = 0 then (S 1055 0) + 1 else 0)) → sm_KC (S 26) (S 27) (S 28) (S 29) (S 1100007) (S 1100023) (S 1100024) (S 1100025) (S 31) (S 1100009) (S 1100027) (S 1100028) (S 1100026) (S 1100030) (S 21) (S 32) (S 33) (S 1046 0) (S 1053 0) (S 1056 0) (S 1032 0) (S 1007 0) ((if (S 1047 0) = 0 then (S 1055 0) + 1 else 0))) → (((S 1047 0) = 0 → (if (S 1047 0) = 0 then (S 1055 0) + 1 else 0) = (S 1055 0) + 1) → (sv_R (S 1055 0) → (0 ≤ (S 1046 0) ∧ (S 1046 0) ≤ 600 ∧ 0 ≤ (S 1047 0) ∧ (S 1047 0) ≤ 1 ∧ ((S 1047 0) = 0 → sm_KC (S 26) (S 27) (S 28) (S 29) (S 1100007) (S 1100023) (S 1100024) (S 1100025) (S 31) (S 1100009) (S 1100027) (S 1100028) (S 1100026) (S 1100030) (S 21) (S 32) (S 33) (S 1046 0) (S 1053 0) (S 1056 0) (S 1032 0) (S 1007 0) ((if (S 1047 0) = 0 then (S 1055 0) + 1 else 0)) ∧ 0 ≤ (7 : Int) ∧ (7 : Int) ≤ 30 ∧ sm_ci (7 : Int) ((S 1055 0)) ((0 : Int)) (S 1100007 (S 1046 0)) (S 1100023 (S 1046 0)) (S 1100024 (S 1046 0)) (S 1100025 (S 1046 0)) (S 1100007 (S 1100023 (S 1046 0))) (S 1100007 (S 1100025 (S 1046 0))) (S 1100023 (S 1100023 (S 1046 0))) (S 1100025 (S 1100025 (S 1046 0))) (S 1046 0) ((if (S 1047 0) = 0 then (S 1055 0) + 1 else 0)) (S 1032 0) (S 1007 0) (S 21 (S 1055 0)) (S 1056 0) ((S 1100007 (S 1046 0)) + sm_dl (7 : Int) ((S 1055 0))) (sm_nt (7 : Int) (S 1046 0) (S 1100023 (S 1046 0)) (S 1100023 (S 1100023 (S 1046 0)))) (sm_nl (7 : Int) (S 1046 0) (S 1100007 (S 1046 0)) (S 1100025 (S 1046 0)) (S 1100007 (S 1100025 (S 1046 0))) (S 1100025 (S 1100025 (S 1046 0)))) (S 1100009 (S 1055 0)) (S 1100027 (S 1055 0)) (S 1100028 (S 1055 0)) ∧ ((21 ≤ (7 : Int) ∧ (7 : Int) ≤ 24) ∨ (7 : Int) = 27 ∨ (7 : Int) = 30 → 0 ≤ (S 1055 0) ∧ (S 1055 0) < (S 1053 0) ∧ (S 1100026 (S 1055 0)) = (S 1056 0)) ∧ ((7 : Int) = 1 ∨ (7 : Int) = 2 → sm_vv (S 21) (S 32) (S 33) (S 1056 0) (S 1055 0) (0 : Int)))) ∧ (0 + 1 ≤ (((if p1 = -1 then 0 else (S 1100002 p1))) + (600 - (S 1046 0)) + 8)) ∧ (∀ g14 : sv_S, (0 ≤ (g14 1047 0) ∧ (g14 1047 0) ≤ 1 ∧ 1 ≤ (g14 1046 0) ∧ (S 1046 0) ≤ (g14 1046 0) ∧ (g14 1046 0) ≤ (S 1046 0) + 1 ∧ (g14 1046 0) ≤ 600 ∧ ((S 1047 0) = 1 → (g14 1047 0) = 1) ∧ ((g14 1047 0) = 1 → (S 1047 0) = 1 ∨ (S 1046 0) = 600) ∧ sm_F1 (S 26) (g14 26) (S 1046 0) ∧ sm_F1 (S 27) (g14 27) (S 1046 0) ∧ sm_F1 (S 28) (g14 28) (S 1046 0) ∧ sm_F1 (S 29) (g14 29) (S 1046 0) ∧ sm_F1 (S 1100007) (g14 1100007) ((S 1046 0) + 1) ∧ sm_F1 (S 1100023) (g14 1100023) ((S 1046 0) + 1) ∧ sm_F1 (S 1100024) (g14 1100024) ((S 1046 0) + 1) ∧ sm_F1 (S 1100025) (g14 1100025) ((S 1046 0) + 1) ∧ ((g14 1047 0) = 0 → (S 1047 0) = 0 ∧ (g14 1046 0) = (S 1046 0) + 1 ∧ sm_KC (g14 26) (g14 27) (g14 28) (g14 29) (g14 1100007) (g14 1100023) (g14 1100024) (g14 1100025) (S 31) (S 1100009) (S 1100027) (S 1100028) (S 1100026) (S 1100030) (S 21) (S 32) (S 33) (g14 1046 0) (S 1053 0) (S 1056 0) (S 1032 0) (S 1007 0) ((if (S 1047 0) = 0 then (S 1055 0) + 1 else 0)) ∧ sm_MB (S 31) (S 1100030) (S 1053 0) (g14 1046 0) ∧ (g14 26 (S 1046 0)) = (7 : Int) ∧ (g14 29 (S 1046 0)) = (S 1056 0) ∧ (g14 1100007 (g14 1046 0)) = ((S 1100007 (S 1046 0)) + sm_dl (7 : Int) ((S 1055 0))) ∧ (g14 1100023 (g14 1046 0)) = (sm_nt (7 : Int) (S 1046 0) (S 1100023 (S 1046 0)) (S 1100023 (S 1100023 (S 1046 0)))) ∧ (g14 1100024 (g14 1046 0)) = (sm_nd (7 : Int) (S 1100024 (S 1046 0))) ∧ (g14 1100025 (g14 1046 0)) = (sm_nl (7 : Int) (S 1046 0) (S 1100007 (S 1046 0)) (S 1100025 (S 1046 0)) (S 1100007 (S 1100025 (S 1046 0))) (S 1100025 (S 1100025 (S 1046 0)))) ∧ (g14 1100007 (g14 1100023 (g14 1046 0))) = sm_nt (7 : Int) (S 1100007 (S 1046 0)) (S 1100007 (S 1100023 (S 1046 0))) (S 1100007 (S 1100023 (S 1100023 (S 1046 0)))) ∧ ((7 : Int) = 29 → (g14 1100007 (g14 1100025 (g14 1046 0))) = (S 1100007 (S 1046 0))) ∧ ((7 : Int) = 17 → 0 ≤ (S 1100025 (S 1046 0)) → (S 1100007 (S 1100025 (S 1046 0))) = (S 1100007 (S 1046 0)) → (g14 1100007 (g14 1100025 (g14 1046 0))) = (S 1100007 (S 1100025 (S 1100025 (S 1046 0))))) ∧ (¬ (7 : Int) = 29 → ((7 : Int) = 17 → 0 ≤ (S 1100025 (S 1046 0)) → (S 1100007 (S 1100025 (S 1046 0))) < (S 1100007 (S 1046 0))) → (g14 1100007 (g14 1100025 (g14 1046 0))) = (S 1100007 (S 1100025 (S 1046 0)))))) → (∀ r19 : Int, sv_R r19 → (sv_R ((S 1055 0) + (1 : Int)) → r19 = ((S 1055 0) + (1 : Int))) → ((0 ≤ (g14 1046 0) ∧ (g14 1046 0) ≤ 600 ∧ 0 ≤ (g14 1047 0) ∧ (g14 1047 0) ≤ 1 ∧ 0 ≤ (S 1053 0) ∧ 0 ≤ (S 1066 0) ∧ (p1 = -1 → p1 = -1) ∧ (¬ p1 = -1 → (p1 = -1 ∨ (0 ≤ p1 ∧ p1 < (S 1024 0) ∧ (S 1100001 p1) = 4 ∧ (S 1100002 p1) ≤ (S 1100002 p1) ∧ (S 1100005 p1) ≤ (S 1100005 p1)))) ∧ (¬ p1 = -1 → sm_LF (S 39) (S 1100002) (S 1066 0) (S 1024 0) (12001 * ((S 1100002 p1) + 1))) ∧ 0 ≤ (g14 1046 0) ∧ (g14 1046 0) ≤ 600 ∧ 0 ≤ (g14 1047 0) ∧ (g14 1047 0) ≤ 1 ∧ 0 ≤ (S 1053 0) ∧ 0 ≤ (S 1066 0) ∧ (S 1046 0) ≤ (g14 1046 0) ∧ ((S 1047 0) = 1 → (g14 1047 0) = 1) ∧ sm_F1 (S 26) (g14 26) (S 1046 0) ∧ sm_F1 (S 27) (g14 27) (S 1046 0) ∧ sm_F1 (S 28) (g14 28) (S 1046 0) ∧ sm_F1 (S 29) (g14 29) (S 1046 0) ∧ sm_F1 (S 1100007) (g14 1100007) ((S 1046 0) + 1) ∧ sm_F1 (S 1100023) (g14 1100023) ((S 1046 0) + 1) ∧ sm_F1 (S 1100024) (g14 1100024) ((S 1046 0) + 1) ∧ sm_F1 (S 1100025) (g14 1100025) ((S 1046 0) + 1) ∧ sm_F1 (S 1100009) (S 1100009) (S 1053 0) ∧ sm_F1 (S 1100027) (S 1100027) (S 1053 0) ∧ sm_F1 (S 1100028) (S 1100028) (S 1053 0) ∧ sm_F1 (S 1100026) (S 1100026) (S 1053 0) ∧ sm_F1 (S 1100030) (S 1100030) (S 1053 0) ∧ sm_F1 (S 31) (S 31) (S 1053 0) ∧ (S 1053 0) ≤ (S 1053 0) ∧ (S 1066 0) = (S 1066 0) ∧ sm_F1 (S 39) (S 39) (S 1066 0) ∧ ((S 1047 0) = 1 → (S 1053 0) = (S 1053 0)) ∧ ((S 1047 0) = 0 → (S 1053 0) ≤ (S 1053 0) + 3 * (600 - (S 1046 0)) + (if p1 = -1 then 0 else (S 1100002 p1))) ∧ ((g14 1047 0) = 0 → (S 1047 0) = 0 ∧ sm_KC (g14 26) (g14 27) (g14 28) (g14 29) (g14 1100007) (g14 1100023) (g14 1100024) (g14 1100025) (S 31) (S 1100009) (S 1100027) (S 1100028) (S 1100026) (S 1100030) (S 21) (S 32) (S 33) (g14 1046 0) (S 1053 0) (S 1056 0) (S 1032 0) (S 1007 0) ((if (S 1047 0) = 0 then (S 1055 0) + 1 else 0)) ∧ ((if (S 1047 0) = 0 then (S 1055 0) + 1 else 0)) = r19 ∧ 0 ≤ r19 ∧ r19 ≤ (g14 1046 0) ∧ (S 1046 0) + 1 ≤ (g14 1046 0) ∧ sm_FC (g14 29) (S 1046 0) (g14 1046 0) (S 1056 0) ∧ (g14 1100007 (g14 1046 0)) = (S 1100007 (S 1046 0)) + 1 ∧ (g14 1100023 (g14 1046 0)) = (S 1100023 (S 1046 0)) ∧ (g14 1100024 (g14 1046 0)) = (S 1100024 (S 1046 0)) ∧ (g14 1100025 (g14 1046 0)) = (S 1100025 (S 1046 0)) ∧ (g14 1100007 (g14 1100023 (g14 1046 0))) = (S 1100007 (S 1100023 (S 1046 0))) ∧ (g14 1100007 (g14 1100025 (g14 1046 0))) = (S 1100007 (S 1100025 (S 1046 0))) ∧ sm_AP (S 1100030) (S 1053 0) (S 1053 0) ∧ sm_HB (g14 1100007) (S 1046 0) (g14 1046 0) (2 * (S 1100007 (S 1046 0)) + ((g14 1046 0) - (S 1046 0)) + (if p1 = -1 then 10 else 8 * (S 1100005 p1) + 18)) ∧ (S 1053 0) ≤ (S 1053 0) + 3 * ((g14 1046 0) - (S 1046 0)) ∧ True)) ∧ (∀ l2_23 : Int, sv_R l2_23 → ∀ g22 : sv_S, (0 ≤ (g22 1046 0) ∧ (g22 1046 0) ≤ 600 ∧ 0 ≤ (g22 1047 0) ∧ (g22 1047 0) ≤ 1 ∧ 0 ≤ (g22 1053 0) ∧ 0 ≤ (g22 1066 0) ∧ (p1 = -1 → l2_23 = -1) ∧ (¬ p1 = -1 → (l2_23 = -1 ∨ (0 ≤ l2_23 ∧ l2_23 < (S 1024 0) ∧ (S 1100001 l2_23) = 4 ∧ (S 1100002 l2_23) ≤ (S 1100002 p1) ∧ (S 1100005 l2_23) ≤ (S 1100005 p1)))) ∧ (¬ p1 = -1 → sm_LF (g22 39) (S 1100002) (g22 1066 0) (S 1024 0) (12001 * ((S 1100002 p1) + 1))) ∧ 0 ≤ (g22 1046 0) ∧ (g22 1046 0) ≤ 600 ∧ 0 ≤ (g22 1047 0) ∧ (g22 1047 0) ≤ 1 ∧ 0 ≤ (g22 1053 0) ∧ 0 ≤ (g22 1066 0) ∧ (S 1046 0) ≤ (g22 1046 0) ∧ ((S 1047 0) = 1 → (g22 1047 0) = 1) ∧ sm_F1 (S 26) (g22 26) (S 1046 0) ∧ sm_F1 (S 27) (g22 27) (S 1046 0) ∧ sm_F1 (S 28) (g22 28) (S 1046 0) ∧ sm_F1 (S 29) (g22 29) (S 1046 0) ∧ sm_F1 (S 1100007) (g22 1100007) ((S 1046 0) + 1) ∧ sm_F1 (S 1100023) (g22 1100023) ((S 1046 0) + 1) ∧ sm_F1 (S 1100024) (g22 1100024) ((S 1046 0) + 1) ∧ sm_F1 (S 1100025) (g22 1100025) ((S 1046 0) + 1) ∧ sm_F1 (S 1100009) (g22 1100009) (S 1053 0) ∧ sm_F1 (S 1100027) (g22 1100027) (S 1053 0) ∧ sm_F1 (S 1100028) (g22 1100028) (S 1053 0) ∧ sm_F1 (S 1100026) (g22 1100026) (S 1053 0) ∧ sm_F1 (S 1100030) (g22 1100030) (S 1053 0) ∧ sm_F1 (S 31) (g22 31) (S 1053 0) ∧ (S 1053 0) ≤ (g22 1053 0) ∧ (g22 1066 0) = (S 1066 0) ∧ sm_F1 (S 39) (g22 39) (S 1066 0) ∧ ((S 1047 0) = 1 → (g22 1053 0) = (S 1053 0)) ∧ ((S 1047 0) = 0 → (g22 1053 0) ≤ (S 1053 0) + 3 * (600 - (S 1046 0)) + (if p1 = -1 then 0 else (S 1100002 p1))) ∧ ((g22 1047 0) = 0 → (S 1047 0) = 0 ∧ sm_KC (g22 26) (g22 27) (g22 28) (g22 29) (g22 1100007) (g22 1100023) (g22 1100024) (g22 1100025) (g22 31) (g22 1100009) (g22 1100027) (g22 1100028) (g22 1100026) (g22 1100030) (S 21) (S 32) (S 33) (g22 1046 0) (g22 1053 0) (S 1056 0) (S 1032 0) (S 1007 0) (g22 1100033 0) ∧ (g22 1100033 0) = (g22 1055 0) ∧ 0 ≤ (g22 1055 0) ∧ (g22 1055 0) ≤ (g22 1046 0) ∧ (S 1046 0) + 1 ≤ (g22 1046 0) ∧ sm_FC (g22 29) (S 1046 0) (g22 1046 0) (S 1056 0) ∧ (g22 1100007 (g22 1046 0)) = (S 1100007 (S 1046 0)) + 1 ∧ (g22 1100023 (g22 1046 0)) = (S 1100023 (S 1046 0)) ∧ (g22 1100024 (g22 1046 0)) = (S 1100024 (S 1046 0)) ∧ (g22 1100025 (g22 1046 0)) = (S 1100025 (S 1046 0)) ∧ (g22 1100007 (g22 1100023 (g22 1046 0))) = (S 1100007 (S 1100023 (S 1046 0))) ∧ (g22 1100007 (g22 1100025 (g22 1046 0))) = (S 1100007 (S 1100025 (S 1046 0))) ∧ sm_AP (g22 1100030) (S 1053 0) (g22 1053 0) ∧ sm_HB (g22 1100007) (S 1046 0) (g22 1046 0) (2 * (S 1100007 (S 1046 0)) + ((g22 1046 0) - (S 1046 0)) + (if p1 = -1 then 10 else 8 * (S 1100005 p1) + 18)) ∧ (g22 1053 0) ≤ (S 1053 0) + 3 * ((g22 1046 0) - (S 1046 0)) ∧ True)) → (0 ≤ (if l2_23 = -1 then 0 else (S 1024 0) - l2_23)) ∧ (((l2_23 = (-1 : Int)) → (0 ≤ (g22 1046 0) ∧ (g22 1046 0) ≤ 600 ∧ 0 ≤ (g22 1047 0) ∧ (g22 1047 0) ≤ 1 ∧ 0 ≤ (g22 1053 0) ∧ 0 ≤ (g22 1066 0) ∧ (S 1046 0) ≤ (g22 1046 0) ∧ ((S 1047 0) = 1 → (g22 1047 0) = 1) ∧ sm_F1 (S 26) (g22 26) (S 1046 0) ∧ sm_F1 (S 27) (g22 27) (S 1046 0) ∧ sm_F1 (S 28) (g22 28) (S 1046 0) ∧ sm_F1 (S 29) (g22 29) (S 1046 0) ∧ sm_F1 (S 1100007) (g22 1100007) ((S 1046 0) + 1) ∧ sm_F1 (S 1100023) (g22 1100023) ((S 1046 0) + 1) ∧ sm_F1 (S 1100024) (g22 1100024) ((S 1046 0) + 1) ∧ sm_F1 (S 1100025) (g22 1100025) ((S 1046 0) + 1) ∧ sm_F1 (S 1100009) (g22 1100009) (S 1053 0) ∧ sm_F1 (S 1100027) (g22 1100027) (S 1053 0) ∧ sm_F1 (S 1100028) (g22 1100028) (S 1053 0) ∧ sm_F1 (S 1100026) (g22 1100026) (S 1053 0) ∧ sm_F1 (S 1100030) (g22 1100030) (S 1053 0) ∧ sm_F1 (S 31) (g22 31) (S 1053 0) ∧ (S 1053 0) ≤ (g22 1053 0) ∧ (g22 1066 0) = (S 1066 0) ∧ sm_F1 (S 39) (g22 39) (S 1066 0) ∧ ((S 1047 0) = 1 → (g22 1053 0) = (S 1053 0)) ∧ ((S 1047 0) = 0 → (g22 1053 0) ≤ (S 1053 0) + 3 * (600 - (S 1046 0)) + (if p1 = -1 then 0 else (S 1100002 p1))) ∧ ((g22 1047 0) = 0 → (S 1047 0) = 0 ∧ sm_KC (g22 26) (g22 27) (g22 28) (g22 29) (g22 1100007) (g22 1100023) (g22 1100024) (g22 1100025) (g22 31) (g22 1100009) (g22 1100027) (g22 1100028) (g22 1100026) (g22 1100030) (S 21) (S 32) (S 33) (g22 1046 0) (g22 1053 0) (S 1056 0) (S 1032 0) (S 1007 0) (g22 1100033 0) ∧ (g22 1100033 0) = (g22 1055 0) ∧ 0 ≤ (g22 1055 0) ∧ (g22 1055 0) ≤ (g22 1046 0) ∧ (S 1046 0) + 1 ≤ (g22 1046 0) ∧ sm_FC (g22 29) (S 1046 0) (g22 1046 0) (S 1056 0) ∧ (g22 1100007 (g22 1046 0)) = (S 1100007 (S 1046 0)) + 1 ∧ (g22 1100023 (g22 1046 0)) = (S 1100023 (S 1046 0)) ∧ (g22 1100024 (g22 1046 0)) = (S 1100024 (S 1046 0)) ∧ (g22 1100025 (g22 1046 0)) = (S 1100025 (S 1046 0)) ∧ (g22 1100007 (g22 1100023 (g22 1046 0))) = (S 1100007 (S 1100023 (S 1046 0))) ∧ (g22 1100007 (g22 1100025 (g22 1046 0))) = (S 1100007 (S 1100025 (S 1046 0))) ∧ sm_AP (g22 1100030) (S 1053 0) (g22 1053 0) ∧ sm_HB (g22 1100007) (S 1046 0) (g22 1046 0) (2 * (S 1100007 (S 1046 0)) + ((g22 1046 0) - (S 1046 0)) + (if p1 = -1 then 10 else 8 * (S 1100005 p1) + 18)) ∧ (g22 1053 0) ≤ (S 1053 0) + 3 * ((g22 1046 0) - (S 1046 0)) ∧ True))) ∧ ((¬ (l2_23 = (-1 : Int))) → (((p1 = -1 → l2_23 = -1) → ¬ l2_23 = -1 → ¬ p1 = -1) → ((sm_WF (S 11) (S 12) (S 13) (S 1100001) (S 1100002) (S 1100005) (S 1100003) (S 1100004) (S 1024 0) (S 1007 0) (S 1009 0) (sm_fn (S 1032 0) (S 21) (S 1056 0)) → 0 ≤ l2_23 → l2_23 < (S 1024 0) → ((S 1100001 (l2_23)) = 1 → 0 ≤ (S 1100002 (l2_23)) ∧ ((S 11 (l2_23)) = 3 → (S 12 (5 * (l2_23) + 1)) < (l2_23)) ∧ ((S 11 (l2_23)) = 4 ∨ (S 11 (l2_23)) = 5 ∨ (S 11 (l2_23)) = 8 ∨ (S 11 (l2_23)) = 9 → 17 * (S 1100005 (l2_23)) + 2 ≤ (S 1100002 (l2_23))) ∧ 0 ≤ (S 1100005 (l2_23))) ∧ ((S 1100001 (l2_23)) = 2 → 0 ≤ (S 1100005 (l2_23)) ∧ (S 1100002 (l2_23)) ≤ 17 * (S 1100005 (l2_23)) + 5 ∧ ((S 11 (l2_23)) = 33 → 1 ≤ (S 1100005 (l2_23)))) ∧ ((S 1100001 (l2_23)) = 6 → 0 ≤ (S 1100002 (l2_23)) ∧ 1 ≤ (S 1100004 (l2_23)) ∧ ((S 12 (5 * (l2_23))) = - 1 → (S 1100004 (l2_23)) = 2)) ∧ ((S 1100001 (l2_23)) = 3 → 1 ≤ (S 1100002 (l2_23)))) → ((sm_WF (S 11) (S 12) (S 13) (S 1100001) (S 1100002) (S 1100005) (S 1100003) (S 1100004) (S 1024 0) (S 1007 0) (S 1009 0) (sm_fn (S 1032 0) (S 21) (S 1056 0)) → 0 ≤ l2_23 → l2_23 < (S 1024 0) → (S 1100001 l2_23) = 4 → sm_ex (S 1100001) (S 1100002) (S 1100005) (S 1024 0) 1 ((S 12 (5 * (l2_23)))) ((S 1100002 (l2_23))) ((S 1100005 (l2_23))) ∧ sm_nm (S 1007 0) (S 1009 0) ((S 12 (5 * (l2_23) + 1)))) → ((sm_nm (S 1007 0) (S 1009 0) ((S 12 (5 * l2_23 + 1))) → (S 1009 0) = 0 → 0 ≤ (S 12 (5 * l2_23 + 1)) ∧ (S 12 (5 * l2_23 + 1)) < (S 1007 0)) → ((sm_WF (S 11) (S 12) (S 13) (S 1100001) (S 1100002) (S 1100005) (S 1100003) (S 1100004) (S 1024 0) (S 1007 0) (S 1009 0) (sm_fn (S 1032 0) (S 21) (S 1056 0)) → 0 ≤ l2_23 → l2_23 < (S 1024 0) → 2 ≤ (S 1100001 l2_23) → (S 13 (l2_23)) = - 1 ∨ ((l2_23) < (S 13 (l2_23)) ∧ (S 13 (l2_23)) < (S 1024 0) ∧ (S 1100001 ((S 13 (l2_23)))) = (S 1100001 (l2_23)) ∧ (S 1100002 ((S 13 (l2_23)))) ≤ (S 1100002 (l2_23)) ∧ (S 1100005 ((S 13 (l2_23)))) ≤ (S 1100005 (l2_23)) ∧ (S 1100003 ((S 13 (l2_23)))) ≤ (S 1100003 (l2_23)) ∧ (S 1100004 ((S 13 (l2_23)))) ≤ (S 1100004 (l2_23)) ∧ ((S 1100001 (l2_23)) = 3 ∨ (S 1100001 (l2_23)) = 6 → (S 1100002 ((S 13 (l2_23)))) < (S 1100002 (l2_23))) ∧ ((S 1100001 (l2_23)) = 6 → (S 1100004 (l2_23)) = 2 → (S 1100004 ((S 13 (l2_23)))) < 2))) → ((sm_WF (S 11) (S 12) (S 13) (S 1100001) (S 1100002) (S 1100005) (S 1100003) (S 1100004) (S 1024 0) (S 1007 0) (S 1009 0) (sm_fn (S 1032 0) (S 21) (S 1056 0)) → 0 ≤ (S 12 (5 * l2_23)) → (S 12 (5 * l2_23)) < (S 1024 0) → ((S 1100001 ((S 12 (5 * l2_23)))) = 1 → 0 ≤ (S 1100002 ((S 12 (5 * l2_23)))) ∧ ((S 11 ((S 12 (5 * l2_23)))) = 3 → (S 12 (5 * ((S 12 (5 * l2_23))) + 1)) < ((S 12 (5 * l2_23)))) ∧ ((S 11 ((S 12 (5 * l2_23)))) = 4 ∨ (S 11 ((S 12 (5 * l2_23)))) = 5 ∨ (S 11 ((S 12 (5 * l2_23)))) = 8 ∨ (S 11 ((S 12 (5 * l2_23)))) = 9 → 17 * (S 1100005 ((S 12 (5 * l2_23)))) + 2 ≤ (S 1100002 ((S 12 (5 * l2_23))))) ∧ 0 ≤ (S 1100005 ((S 12 (5 * l2_23))))) ∧ ((S 1100001 ((S 12 (5 * l2_23)))) = 2 → 0 ≤ (S 1100005 ((S 12 (5 * l2_23)))) ∧ (S 1100002 ((S 12 (5 * l2_23)))) ≤ 17 * (S 1100005 ((S 12 (5 * l2_23)))) + 5 ∧ ((S 11 ((S 12 (5 * l2_23)))) = 33 → 1 ≤ (S 1100005 ((S 12 (5 * l2_23)))))) ∧ ((S 1100001 ((S 12 (5 * l2_23)))) = 6 → 0 ≤ (S 1100002 ((S 12 (5 * l2_23)))) ∧ 1 ≤ (S 1100004 ((S 12 (5 * l2_23)))) ∧ ((S 12 (5 * ((S 12 (5 * l2_23))))) = - 1 → (S 1100004 ((S 12 (5 * l2_23)))) = 2)) ∧ ((S 1100001 ((S 12 (5 * l2_23)))) = 3 → 1 ≤ (S 1100002 ((S 12 (5 * l2_23)))))) → (((S 1100005 (S 12 (5 * l2_23 + 0))) = (S 1100005 (S 12 (5 * l2_23)))) → (((S 1100002 (S 12 (5 * l2_23 + 0))) = (S 1100002 (S 12 (5 * l2_23)))) → ((0 ≤ (g22 1047 0) ∧ (g22 1047 0) ≤ 1) → (((¬ (g22 1047 0) = (0 : Int)) → (0 ≤ (g22 1046 0) ∧ (g22 1046 0) ≤ 600 ∧ 0 ≤ (g22 1047 0) ∧ (g22 1047 0) ≤ 1 ∧ 0 ≤ (g22 1053 0) ∧ 0 ≤ (g22 1066 0) ∧ (S 1046 0) ≤ (g22 1046 0) ∧ ((S 1047 0) = 1 → (g22 1047 0) = 1) ∧ sm_F1 (S 26) (g22 26) (S 1046 0) ∧ sm_F1 (S 27) (g22 27) (S 1046 0) ∧ sm_F1 (S 28) (g22 28) (S 1046 0) ∧ sm_F1 (S 29) (g22 29) (S 1046 0) ∧ sm_F1 (S 1100007) (g22 1100007) ((S 1046 0) + 1) ∧ sm_F1 (S 1100023) (g22 1100023) ((S 1046 0) + 1) ∧ sm_F1 (S 1100024) (g22 1100024) ((S 1046 0) + 1) ∧ sm_F1 (S 1100025) (g22 1100025) ((S 1046 0) + 1) ∧ sm_F1 (S 1100009) (g22 1100009) (S 1053 0) ∧ sm_F1 (S 1100027) (g22 1100027) (S 1053 0) ∧ sm_F1 (S 1100028) (g22 1100028) (S 1053 0) ∧ sm_F1 (S 1100026) (g22 1100026) (S 1053 0) ∧ sm_F1 (S 1100030) (g22 1100030) (S 1053 0) ∧ sm_F1 (S 31) (g22 31) (S 1053 0) ∧ (S 1053 0) ≤ (g22 1053 0) ∧ (g22 1066 0) = (S 1066 0) ∧ sm_F1 (S 39) (g22 39) (S 1066 0) ∧ ((S 1047 0) = 1 → (g22 1053 0) = (S 1053 0)) ∧ ((S 1047 0) = 0 → (g22 1053 0) ≤ (S 1053 0) + 3 * (600 - (S 1046 0)) + (if p1 = -1 then 0 else (S 1100002 p1))) ∧ ((g22 1047 0) = 0 → (S 1047 0) = 0 ∧ sm_KC (g22 26) (g22 27) (g22 28) (g22 29) (g22 1100007) (g22 1100023) (g22 1100024) (g22 1100025) (g22 31) (g22 1100009) (g22 1100027) (g22 1100028) (g22 1100026) (g22 1100030) (S 21) (S 32) (S 33) (g22 1046 0) (g22 1053 0) (S 1056 0) (S 1032 0) (S 1007 0) (g22 1100033 0) ∧ (g22 1100033 0) = (g22 1055 0) ∧ 0 ≤ (g22 1055 0) ∧ (g22 1055 0) ≤ (g22 1046 0) ∧ (S 1046 0) + 1 ≤ (g22 1046 0) ∧ sm_FC (g22 29) (S 1046 0) (g22 1046 0) (S 1056 0) ∧ (g22 1100007 (g22 1046 0)) = (S 1100007 (S 1046 0)) + 1 ∧ (g22 1100023 (g22 1046 0)) = (S 1100023 (S 1046 0)) ∧ (g22 1100024 (g22 1046 0)) = (S 1100024 (S 1046 0)) ∧ (g22 1100025 (g22 1046 0)) = (S 1100025 (S 1046 0)) ∧ (g22 1100007 (g22 1100023 (g22 1046 0))) = (S 1100007 (S 1100023 (S 1046 0))) ∧ (g22 1100007 (g22 1100025 (g22 1046 0))) = (S 1100007 (S 1100025 (S 1046 0))) ∧ sm_AP (g22 1100030) (S 1053 0) (g22 1053 0) ∧ sm_HB (g22 1100007) (S 1046 0) (g22 1046 0) (2 * (S 1100007 (S 1046 0)) + ((g22 1046 0) - (S 1046 0)) + (if p1 = -1 then 10 else 8 * (S 1100005 p1) + 18)) ∧ (g22 1053 0) ≤ (S 1053 0) + 3 * ((g22 1046 0) - (S 1046 0)) ∧ True))) ∧ ((¬ (¬ (g22 1047 0) = (0 : Int))) → (0 ≤ (g22 1046 0) ∧ (g22 1046 0) ≤ 600 ∧ 0 ≤ (g22 1047 0) ∧ (g22 1047 0) ≤ 1 ∧ ((g22 1047 0) = 0 → sm_KC (g22 26) (g22 27) (g22 28) (g22 29) (g22 1100007) (g22 1100023) (g22 1100024) (g22 1100025) (g22 31) (g22 1100009) (g22 1100027) (g22 1100028) (g22 1100026) (g22 1100030) (S 21) (S 32) (S 33) (g22 1046 0) (g22 1053 0) (S 1056 0) (S 1032 0) (S 1007 0) (g22 1100033 0) ∧ 0 ≤ (18 : Int) ∧ (18 : Int) ≤ 30 ∧ sm_ci (18 : Int) ((0 : Int)) ((0 : Int)) (g22 1100007 (g22 1046 0)) (g22 1100023 (g22 1046 0)) (g22 1100024 (g22 1046 0)) (g22 1100025 (g22 1046 0)) (g22 1100007 (g22 1100023 (g22 1046 0))) (g22 1100007 (g22 1100025 (g22 1046 0))) (g22 1100023 (g22 1100023 (g22 1046 0))) (g22 1100025 (g22 1100025 (g22 1046 0))) (g22 1046 0) (g22 1100033 0) (S 1032 0) (S 1007 0) (S 21 (0 : Int)) (S 1056 0) ((g22 1100007 (g22 1046 0)) + sm_dl (18 : Int) ((0 : Int))) (sm_nt (18 : Int) (g22 1046 0) (g22 1100023 (g22 1046 0)) (g22 1100023 (g22 1100023 (g22 1046 0)))) (sm_nl (18 : Int) (g22 1046 0) (g22 1100007 (g22 1046 0)) (g22 1100025 (g22 1046 0)) (g22 1100007 (g22 1100025 (g22 1046 0))) (g22 1100025 (g22 1100025 (g22 1046 0)))) (g22 1100009 (0 : Int)) (g22 1100027 (0 : Int)) (g22 1100028 (0 : Int)) ∧ ((21 ≤ (18 : Int) ∧ (18 : Int) ≤ 24) ∨ (18 : Int) = 27 ∨ (18 : Int) = 30 → 0 ≤ (0 : Int) ∧ (0 : Int) < (g22 1053 0) ∧ (g22 1100026 (0 : Int)) = (S 1056 0)) ∧ ((18 : Int) = 1 ∨ (18 : Int) = 2 → sm_vv (S 21) (S 32) (S 33) (S 1056 0) (0 : Int) (0 : Int)))) ∧ (1 + 1 ≤ (((if p1 = -1 then 0 else (S 1100002 p1))) + (600 - (S 1046 0)) + 8)) ∧ (∀ g40 : sv_S, (0 ≤ (g40 1047 0) ∧ (g40 1047 0) ≤ 1 ∧ 1 ≤ (g40 1046 0) ∧ (g22 1046 0) ≤ (g40 1046 0) ∧ (g40 1046 0) ≤ (g22 1046 0) + 1 ∧ (g40 1046 0) ≤ 600 ∧ ((g22 1047 0) = 1 → (g40 1047 0) = 1) ∧ ((g40 1047 0) = 1 → (g22 1047 0) = 1 ∨ (g22 1046 0) = 600) ∧ sm_F1 (g22 26) (g40 26) (g22 1046 0) ∧ sm_F1 (g22 27) (g40 27) (g22 1046 0) ∧ sm_F1 (g22 28) (g40 28) (g22 1046 0) ∧ sm_F1 (g22 29) (g40 29) (g22 1046 0) ∧ sm_F1 (g22 1100007) (g40 1100007) ((g22 1046 0) + 1) ∧ sm_F1 (g22 1100023) (g40 1100023) ((g22 1046 0) + 1) ∧ sm_F1 (g22 1100024) (g40 1100024) ((g22 1046 0) + 1) ∧ sm_F1 (g22 1100025) (g40 1100025) ((g22 1046 0) + 1) ∧ ((g40 1047 0) = 0 → (g22 1047 0) = 0 ∧ (g40 1046 0) = (g22 1046 0) + 1 ∧ sm_KC (g40 26) (g40 27) (g40 28) (g40 29) (g40 1100007) (g40 1100023) (g40 1100024) (g40 1100025) (g22 31) (g22 1100009) (g22 1100027) (g22 1100028) (g22 1100026) (g22 1100030) (S 21) (S 32) (S 33) (g40 1046 0) (g22 1053 0) (S 1056 0) (S 1032 0) (S 1007 0) (g22 1100033 0) ∧ sm_MB (g22 31) (g22 1100030) (g22 1053 0) (g40 1046 0) ∧ (g40 26 (g22 1046 0)) = (18 : Int) ∧ (g40 29 (g22 1046 0)) = (S 1056 0) ∧ (g40 1100007 (g40 1046 0)) = ((g22 1100007 (g22 1046 0)) + sm_dl (18 : Int) ((0 : Int))) ∧ (g40 1100023 (g40 1046 0)) = (sm_nt (18 : Int) (g22 1046 0) (g22 1100023 (g22 1046 0)) (g22 1100023 (g22 1100023 (g22 1046 0)))) ∧ (g40 1100024 (g40 1046 0)) = (sm_nd (18 : Int) (g22 1100024 (g22 1046 0))) ∧ (g40 1100025 (g40 1046 0)) = (sm_nl (18 : Int) (g22 1046 0) (g22 1100007 (g22 1046 0)) (g22 1100025 (g22 1046 0)) (g22 1100007 (g22 1100025 (g22 1046 0))) (g22 1100025 (g22 1100025 (g22 1046 0)))) ∧ (g40 1100007 (g40 1100023 (g40 1046 0))) = sm_nt (18 : Int) (g22 1100007 (g22 1046 0)) (g22 1100007 (g22 1100023 (g22 1046 0))) (g22 1100007 (g22 1100023 (g22 1100023 (g22 1046 0)))) ∧ ((18 : Int) = 29 → (g40 1100007 (g40 1100025 (g40 1046 0))) = (g22 1100007 (g22 1046 0))) ∧ ((18 : Int) = 17 → 0 ≤ (g22 1100025 (g22 1046 0)) → (g22 1100007 (g22 1100025 (g22 1046 0))) = (g22 1100007 (g22 1046 0)) → (g40 1100007 (g40 1100025 (g40 1046 0))) = (g22 1100007 (g22 1100025 (g22 1100025 (g22 1046 0))))) ∧ (¬ (18 : Int) = 29 → ((18 : Int) = 17 → 0 ≤ (g22 1100025 (g22 1046 0)) → (g22 1100007 (g22 1100025 (g22 1046 0))) < (g22 1100007 (g22 1046 0))) → (g40 1100007 (g40 1100025 (g40 1046 0))) = (g22 1100007 (g22 1100025 (g22 1046 0)))))) → (0 ≤ l2_23 ∧ l2_23 < 12000 ∧ 0 ≤ (1 : Int) ∧ (1 : Int) ≤ 4) ∧ (0 ≤ (g40 1046 0) ∧ (g40 1046 0) ≤ 600 ∧ 0 ≤ (g40 1047 0) ∧ (g40 1047 0) ≤ 1 ∧ ((g40 1047 0) = 0 → sm_KC (g40 26) (g40 27) (g40 28) (g40 29) (g40 1100007) (g40 1100023) (g40 1100024) (g40 1100025) (g22 31) (g22 1100009) (g22 1100027) (g22 1100028) (g22 1100026) (g22 1100030) (S 21) (S 32) (S 33) (g40 1046 0) (g22 1053 0) (S 1056 0) (S 1032 0) (S 1007 0) (g22 1100033 0) ∧ 0 ≤ (6 : Int) ∧ (6 : Int) ≤ 6 ∧ ((6 : Int) = 6 → 0 ≤ ((S 12 (5 * l2_23 + (1 : Int)))) ∧ ((S 12 (5 * l2_23 + (1 : Int)))) < (S 1007 0)) ∧ (0 ≤ (g40 1100023 (g40 1046 0)) → (g40 1100007 (g40 1100023 (g40 1046 0))) ≤ (g40 1100007 (g40 1046 0))) ∧ (0 ≤ (g40 1100025 (g40 1046 0)) → (g40 1100007 (g40 1100025 (g40 1046 0))) ≤ (g40 1100007 (g40 1046 0))))) ∧ (∀ g48 : sv_S, (0 ≤ (g48 1047 0) ∧ (g48 1047 0) ≤ 1 ∧ 1 ≤ (g48 1046 0) ∧ (g40 1046 0) ≤ (g48 1046 0) ∧ (g48 1046 0) ≤ (g40 1046 0) + 1 ∧ (g48 1046 0) ≤ 600 ∧ ((g40 1047 0) = 1 → (g48 1047 0) = 1) ∧ ((g48 1047 0) = 1 → (g40 1047 0) = 1 ∨ (g40 1046 0) = 600) ∧ sm_F1 (g40 26) (g48 26) (g40 1046 0) ∧ sm_F1 (g40 27) (g48 27) (g40 1046 0) ∧ sm_F1 (g40 28) (g48 28) (g40 1046 0) ∧ sm_F1 (g40 29) (g48 29) (g40 1046 0) ∧ sm_F1 (g40 1100007) (g48 1100007) ((g40 1046 0) + 1) ∧ sm_F1 (g40 1100023) (g48 1100023) ((g40 1046 0) + 1) ∧ sm_F1 (g40 1100024) (g48 1100024) ((g40 1046 0) + 1) ∧ sm_F1 (g40 1100025) (g48 1100025) ((g40 1046 0) + 1) ∧ ((g48 1047 0) = 0 → (g40 1047 0) = 0 ∧ (g48 1046 0) = (g40 1046 0) + 1 ∧ sm_KC (g48 26) (g48 27) (g48 28) (g48 29) (g48 1100007) (g48 1100023) (g48 1100024) (g48 1100025) (g22 31) (g22 1100009) (g22 1100027) (g22 1100028) (g22 1100026) (g22 1100030) (S 21) (S 32) (S 33) (g48 1046 0) (g22 1053 0) (S 1056 0) (S 1032 0) (S 1007 0) (g22 1100033 0) ∧ sm_MB (g22 31) (g22 1100030) (g22 1053 0) (g48 1046 0) ∧ (g48 26 (g40 1046 0)) = (0 : Int) ∧ (g48 29 (g40 1046 0)) = (S 1056 0) ∧ (g48 1100007 (g48 1046 0)) = ((g40 1100007 (g40 1046 0)) + sm_dl (0 : Int) ((6 : Int))) ∧ (g48 1100023 (g48 1046 0)) = (sm_nt (0 : Int) (g40 1046 0) (g40 1100023 (g40 1046 0)) (g40 1100023 (g40 1100023 (g40 1046 0)))) ∧ (g48 1100024 (g48 1046 0)) = (sm_nd (0 : Int) (g40 1100024 (g40 1046 0))) ∧ (g48 1100025 (g48 1046 0)) = (sm_nl (0 : Int) (g40 1046 0) (g40 1100007 (g40 1046 0)) (g40 1100025 (g40 1046 0)) (g40 1100007 (g40 1100025 (g40 1046 0))) (g40 1100025 (g40 1100025 (g40 1046 0)))) ∧ (g48 1100007 (g48 1100023 (g48 1046 0))) = sm_nt (0 : Int) (g40 1100007 (g40 1046 0)) (g40 1100007 (g40 1100023 (g40 1046 0))) (g40 1100007 (g40 1100023 (g40 1100023 (g40 1046 0)))) ∧ ((0 : Int) = 29 → (g48 1100007 (g48 1100025 (g48 1046 0))) = (g40 1100007 (g40 1046 0))) ∧ ((0 : Int) = 17 → 0 ≤ (g40 1100025 (g40 1046 0)) → (g40 1100007 (g40 1100025 (g40 1046 0))) = (g40 1100007 (g40 1046 0)) → (g48 1100007 (g48 1100025 (g48 1046 0))) = (g40 1100007 (g40 1100025 (g40 1100025 (g40 1046 0))))) ∧ (¬ (0 : Int) = 29 → ((0 : Int) = 17 → 0 ≤ (g40 1100025 (g40 1046 0)) → (g40 1100007 (g40 1100025 (g40 1046 0))) < (g40 1100007 (g40 1046 0))) → (g48 1100007 (g48 1100025 (g48 1046 0))) = (g40 1100007 (g40 1100025 (g40 1046 0)))))) → (0 ≤ l2_23 ∧ l2_23 < 12000 ∧ 0 ≤ (0 : Int) ∧ (0 : Int) ≤ 4) ∧ (sm_WF (S 11) (S 12) (S 13) (S 1100001) (S 1100002) (S 1100005) (S 1100003) (S 1100004) (S 1024 0) (S 1007 0) (S 1009 0) (sm_fn (S 1032 0) (S 21) (S 1056 0)) ∧ (S 1009 0) = 0 ∧ 0 ≤ (S 1007 0) ∧ (S 1007 0) ≤ 90 ∧ 0 ≤ (S 1024 0) ∧ (S 1024 0) ≤ 12000 ∧ 1 ≤ (S 1032 0) ∧ (S 1032 0) ≤ 11 ∧ 0 ≤ (S 1056 0) ∧ (S 1056 0) < (S 1032 0) ∧ sm_VB (S 33) (S 21) (S 1032 0) ∧ 0 ≤ (g48 1046 0) ∧ (g48 1046 0) ≤ 600 ∧ 0 ≤ (g48 1047 0) ∧ (g48 1047 0) ≤ 1 ∧ 0 ≤ (g22 1053 0) ∧ 0 ≤ (g22 1066 0) ∧ 0 ≤ ((S 12 (5 * l2_23 + (0 : Int)))) ∧ ((S 12 (5 * l2_23 + (0 : Int)))) < (S 1024 0) ∧ (S 1100001 ((S 12 (5 * l2_23 + (0 : Int))))) = 1 ∧ sm_LF (g22 39) (S 1100002) (g22 1066 0) (S 1024 0) (12001 * (S 1100002 ((S 12 (5 * l2_23 + (0 : Int))))) + ((S 12 (5 * l2_23 + (0 : Int))))) ∧ ((g48 1047 0) = 0 → sm_KC (g48 26) (g48 27) (g48 28) (g48 29) (g48 1100007) (g48 1100023) (g48 1100024) (g48 1100025) (g22 31) (g22 1100009) (g22 1100027) (g22 1100028) (g22 1100026) (g22 1100030) (S 21) (S 32) (S 33) (g48 1046 0) (g22 1053 0) (S 1056 0) (S 1032 0) (S 1007 0) (g22 1100033 0) ∧ (g22 1100033 0) = (g22 1055 0) ∧ 0 ≤ (g22 1055 0) ∧ (g22 1055 0) ≤ (g48 1046 0) ∧ (0 ≤ (g48 1100023 (g48 1046 0)) → (g48 1100007 (g48 1100023 (g48 1046 0))) ≤ (g48 1100007 (g48 1046 0))) ∧ (0 ≤ (g48 1100025 (g48 1046 0)) → (g48 1100007 (g48 1100025 (g48 1046 0))) ≤ (g48 1100007 (g48 1046 0))) ∧ (g48 1100007 (g48 1046 0)) ≤ (g48 1046 0) ∧ (g22 1053 0) + 3 * (600 - (g48 1046 0)) + (S 1100002 ((S 12 (5 * l2_23 + (0 : Int))))) ≤ 8000)) ∧ (0 ≤ ((if (g48 1047 0) = 0 then (S 1100002 ((S 12 (5 * l2_23 + (0 : Int))))) + (600 - (g48 1046 0)) + 8 else 4)) ∧ ((if (g48 1047 0) = 0 then (S 1100002 ((S 12 (5 * l2_23 + (0 : Int))))) + (600 - (g48 1046 0)) + 8 else 4)) < d) ∧ (0 ≤ ((if (g48 1047 0) = 0 then (S 1100002 ((S 12 (5 * l2_23 + (0 : Int))))) + (600 - (g48 1046 0)) + 8 else 4)) ∧ ((if (g48 1047 0) = 0 then (S 1100002 ((S 12 (5 * l2_23 + (0 : Int))))) + (600 - (g48 1046 0)) + 8 else 4)) + 1 ≤ (((if p1 = -1 then 0 else (S 1100002 p1))) + (600 - (S 1046 0)) + 8)) ∧ (∀ g58 : sv_S, (0 ≤ (g58 1046 0) ∧ (g58 1046 0) ≤ 600 ∧ 0 ≤ (g58 1047 0) ∧ (g58 1047 0) ≤ 1 ∧ 0 ≤ (g58 1053 0) ∧ 0 ≤ (g58 1066 0) ∧ (g48 1046 0) ≤ (g58 1046 0) ∧ ((g48 1047 0) = 1 → (g58 1047 0) = 1) ∧ sm_F1 (g48 26) (g58 26) (g48 1046 0) ∧ sm_F1 (g48 27) (g58 27) (g48 1046 0) ∧ sm_F1 (g48 28) (g58 28) (g48 1046 0) ∧ sm_F1 (g48 29) (g58 29) (g48 1046 0) ∧ sm_F1 (g48 1100007) (g58 1100007) ((g48 1046 0) + 1) ∧ sm_F1 (g48 1100023) (g58 1100023) ((g48 1046 0) + 1) ∧ sm_F1 (g48 1100024) (g58 1100024) ((g48 1046 0) + 1) ∧ sm_F1 (g48 1100025) (g58 1100025) ((g48 1046 0) + 1) ∧ sm_F1 (g22 1100009) (g58 1100009) (g22 1053 0) ∧ sm_F1 (g22 1100027) (g58 1100027) (g22 1053 0) ∧ sm_F1 (g22 1100028) (g58 1100028) (g22 1053 0) ∧ sm_F1 (g22 1100026) (g58 1100026) (g22 1053 0) ∧ sm_F1 (g22 1100030) (g58 1100030) (g22 1053 0) ∧ sm_F1 (g22 31) (g58 31) (g22 1053 0) ∧ (g22 1053 0) ≤ (g58 1053 0) ∧ (g58 1066 0) = (g22 1066 0) ∧ sm_F1 (g22 39) (g58 39) (g22 1066 0) ∧ ((g48 1047 0) = 1 → (g58 1053 0) = (g22 1053 0)) ∧ ((g48 1047 0) = 0 → (g58 1053 0) ≤ (g22 1053 0) + 3 * (600 - (g48 1046 0)) + (S 1100002 ((S 12 (5 * l2_23 + (0 : Int)))))) ∧ ((g58 1047 0) = 0 → (g48 1047 0) = 0 ∧ sm_KC (g58 26) (g58 27) (g58 28) (g58 29) (g58 1100007) (g58 1100023) (g58 1100024) (g58 1100025) (g58 31) (g58 1100009) (g58 1100027) (g58 1100028) (g58 1100026) (g58 1100030) (S 21) (S 32) (S 33) (g58 1046 0) (g58 1053 0) (S 1056 0) (S 1032 0) (S 1007 0) (g58 1100033 0) ∧ (g58 1100033 0) = (g58 1055 0) ∧ 0 ≤ (g58 1055 0) ∧ (g58 1055 0) ≤ (g58 1046 0) ∧ (g48 1046 0) + 1 ≤ (g58 1046 0) ∧ sm_FC (g58 29) (g48 1046 0) (g58 1046 0) (S 1056 0) ∧ (g58 1100007 (g58 1046 0)) = (g48 1100007 (g48 1046 0)) + 1 ∧ (g58 1100023 (g58 1046 0)) = (g48 1100023 (g48 1046 0)) ∧ (g58 1100024 (g58 1046 0)) = (g48 1100024 (g48 1046 0)) ∧ (g58 1100025 (g58 1046 0)) = (g48 1100025 (g48 1046 0)) ∧ (g58 1100007 (g58 1100023 (g58 1046 0))) = (g48 1100007 (g48 1100023 (g48 1046 0))) ∧ (g58 1100007 (g58 1100025 (g58 1046 0))) = (g48 1100007 (g48 1100025 (g48 1046 0))) ∧ sm_AP (g58 1100030) (g22 1053 0) (g58 1053 0) ∧ sm_HB (g58 1100007) (g48 1046 0) (g58 1046 0) (2 * (g48 1100007 (g48 1046 0)) + ((g58 1046 0) - (g48 1046 0)) + 8 * (S 1100005 ((S 12 (5 * l2_23 + (0 : Int))))) + 10) ∧ (g58 1053 0) ≤ (g22 1053 0) + 3 * ((g58 1046 0) - (g48 1046 0)) ∧ True)) → (0 ≤ (g58 1046 0) ∧ (g58 1046 0) ≤ 600 ∧ 0 ≤ (g58 1047 0) ∧ (g58 1047 0) ≤ 1 ∧ ((g58 1047 0) = 0 → sm_KC (g58 26) (g58 27) (g58 28) (g58 29) (g58 1100007) (g58 1100023) (g58 1100024) (g58 1100025) (g58 31) (g58 1100009) (g58 1100027) (g58 1100028) (g58 1100026) (g58 1100030) (S 21) (S 32) (S 33) (g58 1046 0) (g58 1053 0) (S 1056 0) (S 1032 0) (S 1007 0) (g58 1100033 0) ∧ 0 ≤ (11 : Int) ∧ (11 : Int) ≤ 30 ∧ sm_ci (11 : Int) ((0 : Int)) ((0 : Int)) (g58 1100007 (g58 1046 0)) (g58 1100023 (g58 1046 0)) (g58 1100024 (g58 1046 0)) (g58 1100025 (g58 1046 0)) (g58 1100007 (g58 1100023 (g58 1046 0))) (g58 1100007 (g58 1100025 (g58 1046 0))) (g58 1100023 (g58 1100023 (g58 1046 0))) (g58 1100025 (g58 1100025 (g58 1046 0))) (g58 1046 0) (g58 1100033 0) (S 1032 0) (S 1007 0) (S 21 (0 : Int)) (S 1056 0) ((g58 1100007 (g58 1046 0)) + sm_dl (11 : Int) ((0 : Int))) (sm_nt (11 : Int) (g58 1046 0) (g58 1100023 (g58 1046 0)) (g58 1100023 (g58 1100023 (g58 1046 0)))) (sm_nl (11 : Int) (g58 1046 0) (g58 1100007 (g58 1046 0)) (g58 1100025 (g58 1046 0)) (g58 1100007 (g58 1100025 (g58 1046 0))) (g58 1100025 (g58 1100025 (g58 1046 0)))) (g58 1100009 (0 : Int)) (g58 1100027 (0 : Int)) (g58 1100028 (0 : Int)) ∧ ((21 ≤ (11 : Int) ∧ (11 : Int) ≤ 24) ∨ (11 : Int) = 27 ∨ (11 : Int) = 30 → 0 ≤ (0 : Int) ∧ (0 : Int) < (g58 1053 0) ∧ (g58 1100026 (0 : Int)) = (S 1056 0)) ∧ ((11 : Int) = 1 ∨ (11 : Int) = 2 → sm_vv (S 21) (S 32) (S 33) (S 1056 0) (0 : Int) (0 : Int)))) ∧ (∀ g65 : sv_S, (0 ≤ (g65 1047 0) ∧ (g65 1047 0) ≤ 1 ∧ 1 ≤ (g65 1046 0) ∧ (g58 1046 0) ≤ (g65 1046 0) ∧ (g65 1046 0) ≤ (g58 1046 0) + 1 ∧ (g65 1046 0) ≤ 600 ∧ ((g58 1047 0) = 1 → (g65 1047 0) = 1) ∧ ((g65 1047 0) = 1 → (g58 1047 0) = 1 ∨ (g58 1046 0) = 600) ∧ sm_F1 (g58 26) (g65 26) (g58 1046 0) ∧ sm_F1 (g58 27) (g65 27) (g58 1046 0) ∧ sm_F1 (g58 28) (g65 28) (g58 1046 0) ∧ sm_F1 (g58 29) (g65 29) (g58 1046 0) ∧ sm_F1 (g58 1100007) (g65 1100007) ((g58 1046 0) + 1) ∧ sm_F1 (g58 1100023) (g65 1100023) ((g58 1046 0) + 1) ∧ sm_F1 (g58 1100024) (g65 1100024) ((g58 1046 0) + 1) ∧ sm_F1 (g58 1100025) (g65 1100025) ((g58 1046 0) + 1) ∧ ((g65 1047 0) = 0 → (g58 1047 0) = 0 ∧ (g65 1046 0) = (g58 1046 0) + 1 ∧ sm_KC (g65 26) (g65 27) (g65 28) (g65 29) (g65 1100007) (g65 1100023) (g65 1100024) (g65 1100025) (g58 31) (g58 1100009) (g58 1100027) (g58 1100028) (g58 1100026) (g58 1100030) (S 21) (S 32) (S 33) (g65 1046 0) (g58 1053 0) (S 1056 0) (S 1032 0) (S 1007 0) (g58 1100033 0) ∧ sm_MB (g58 31) (g58 1100030) (g58 1053 0) (g65 1046 0) ∧ (g65 26 (g58 1046 0)) = (11 : Int) ∧ (g65 29 (g58 1046 0)) = (S 1056 0) ∧ (g65 1100007 (g65 1046 0)) = ((g58 1100007 (g58 1046 0)) + sm_dl (11 : Int) ((0 : Int))) ∧ (g65 1100023 (g65 1046 0)) = (sm_nt (11 : Int) (g58 1046 0) (g58 1100023 (g58 1046 0)) (g58 1100023 (g58 1100023 (g58 1046 0)))) ∧ (g65 1100024 (g65 1046 0)) = (sm_nd (11 : Int) (g58 1100024 (g58 1046 0))) ∧ (g65 1100025 (g65 1046 0)) = (sm_nl (11 : Int) (g58 1046 0) (g58 1100007 (g58 1046 0)) (g58 1100025 (g58 1046 0)) (g58 1100007 (g58 1100025 (g58 1046 0))) (g58 1100025 (g58 1100025 (g58 1046 0)))) ∧ (g65 1100007 (g65 1100023 (g65 1046 0))) = sm_nt (11 : Int) (g58 1100007 (g58 1046 0)) (g58 1100007 (g58 1100023 (g58 1046 0))) (g58 1100007 (g58 1100023 (g58 1100023 (g58 1046 0)))) ∧ ((11 : Int) = 29 → (g65 1100007 (g65 1100025 (g65 1046 0))) = (g58 1100007 (g58 1046 0))) ∧ ((11 : Int) = 17 → 0 ≤ (g58 1100025 (g58 1046 0)) → (g58 1100007 (g58 1100025 (g58 1046 0))) = (g58 1100007 (g58 1046 0)) → (g65 1100007 (g65 1100025 (g65 1046 0))) = (g58 1100007 (g58 1100025 (g58 1100025 (g58 1046 0))))) ∧ (¬ (11 : Int) = 29 → ((11 : Int) = 17 → 0 ≤ (g58 1100025 (g58 1046 0)) → (g58 1100007 (g58 1100025 (g58 1046 0))) < (g58 1100007 (g58 1046 0))) → (g65 1100007 (g65 1100025 (g65 1046 0))) = (g58 1100007 (g58 1100025 (g58 1046 0)))))) → (0 ≤ (g65 1046 0) ∧ (g65 1046 0) ≤ 600 ∧ 0 ≤ (g65 1047 0) ∧ (g65 1047 0) ≤ 1 ∧ ((g65 1047 0) = 0 → sm_KC (g65 26) (g65 27) (g65 28) (g65 29) (g65 1100007) (g65 1100023) (g65 1100024) (g65 1100025) (g58 31) (g58 1100009) (g58 1100027) (g58 1100028) (g58 1100026) (g58 1100030) (S 21) (S 32) (S 33) (g65 1046 0) (g58 1053 0) (S 1056 0) (S 1032 0) (S 1007 0) (g58 1100033 0) ∧ 0 ≤ (17 : Int) ∧ (17 : Int) ≤ 30 ∧ sm_ci (17 : Int) ((0 : Int)) ((0 : Int)) (g65 1100007 (g65 1046 0)) (g65 1100023 (g65 1046 0)) (g65 1100024 (g65 1046 0)) (g65 1100025 (g65 1046 0)) (g65 1100007 (g65 1100023 (g65 1046 0))) (g65 1100007 (g65 1100025 (g65 1046 0))) (g65 1100023 (g65 1100023 (g65 1046 0))) (g65 1100025 (g65 1100025 (g65 1046 0))) (g65 1046 0) (g58 1100033 0) (S 1032 0) (S 1007 0) (S 21 (0 : Int)) (S 1056 0) ((g65 1100007 (g65 1046 0)) + sm_dl (17 : Int) ((0 : Int))) (sm_nt (17 : Int) (g65 1046 0) (g65 1100023 (g65 1046 0)) (g65 1100023 (g65 1100023 (g65 1046 0)))) (sm_nl (17 : Int) (g65 1046 0) (g65 1100007 (g65 1046 0)) (g65 1100025 (g65 1046 0)) (g65 1100007 (g65 1100025 (g65 1046 0))) (g65 1100025 (g65 1100025 (g65 1046 0)))) (g58 1100009 (0 : Int)) (g58 1100027 (0 : Int)) (g58 1100028 (0 : Int)) ∧ ((21 ≤ (17 : Int) ∧ (17 : Int) ≤ 24) ∨ (17 : Int) = 27 ∨ (17 : Int) = 30 → 0 ≤ (0 : Int) ∧ (0 : Int) < (g58 1053 0) ∧ (g58 1100026 (0 : Int)) = (S 1056 0)) ∧ ((17 : Int) = 1 ∨ (17 : Int) = 2 → sm_vv (S 21) (S 32) (S 33) (S 1056 0) (0 : Int) (0 : Int)))) ∧ (∀ g72 : sv_S, (0 ≤ (g72 1047 0) ∧ (g72 1047 0) ≤ 1 ∧ 1 ≤ (g72 1046 0) ∧ (g65 1046 0) ≤ (g72 1046 0) ∧ (g72 1046 0) ≤ (g65 1046 0) + 1 ∧ (g72 1046 0) ≤ 600 ∧ ((g65 1047 0) = 1 → (g72 1047 0) = 1) ∧ ((g72 1047 0) = 1 → (g65 1047 0) = 1 ∨ (g65 1046 0) = 600) ∧ sm_F1 (g65 26) (g72 26) (g65 1046 0) ∧ sm_F1 (g65 27) (g72 27) (g65 1046 0) ∧ sm_F1 (g65 28) (g72 28) (g65 1046 0) ∧ sm_F1 (g65 29) (g72 29) (g65 1046 0) ∧ sm_F1 (g65 1100007) (g72 1100007) ((g65 1046 0) + 1) ∧ sm_F1 (g65 1100023) (g72 1100023) ((g65 1046 0) + 1) ∧ sm_F1 (g65 1100024) (g72 1100024) ((g65 1046 0) + 1) ∧ sm_F1 (g65 1100025) (g72 1100025) ((g65 1046 0) + 1) ∧ ((g72 1047 0) = 0 → (g65 1047 0) = 0 ∧ (g72 1046 0) = (g65 1046 0) + 1 ∧ sm_KC (g72 26) (g72 27) (g72 28) (g72 29) (g72 1100007) (g72 1100023) (g72 1100024) (g72 1100025) (g58 31) (g58 1100009) (g58 1100027) (g58 1100028) (g58 1100026) (g58 1100030) (S 21) (S 32) (S 33) (g72 1046 0) (g58 1053 0) (S 1056 0) (S 1032 0) (S 1007 0) (g58 1100033 0) ∧ sm_MB (g58 31) (g58 1100030) (g58 1053 0) (g72 1046 0) ∧ (g72 26 (g65 1046 0)) = (17 : Int) ∧ (g72 29 (g65 1046 0)) = (S 1056 0) ∧ (g72 1100007 (g72 1046 0)) = ((g65 1100007 (g65 1046 0)) + sm_dl (17 : Int) ((0 : Int))) ∧ (g72 1100023 (g72 1046 0)) = (sm_nt (17 : Int) (g65 1046 0) (g65 1100023 (g65 1046 0)) (g65 1100023 (g65 1100023 (g65 1046 0)))) ∧ (g72 1100024 (g72 1046 0)) = (sm_nd (17 : Int) (g65 1100024 (g65 1046 0))) ∧ (g72 1100025 (g72 1046 0)) = (sm_nl (17 : Int) (g65 1046 0) (g65 1100007 (g65 1046 0)) (g65 1100025 (g65 1046 0)) (g65 1100007 (g65 1100025 (g65 1046 0))) (g65 1100025 (g65 1100025 (g65 1046 0)))) ∧ (g72 1100007 (g72 1100023 (g72 1046 0))) = sm_nt (17 : Int) (g65 1100007 (g65 1046 0)) (g65 1100007 (g65 1100023 (g65 1046 0))) (g65 1100007 (g65 1100023 (g65 1100023 (g65 1046 0)))) ∧ ((17 : Int) = 29 → (g72 1100007 (g72 1100025 (g72 1046 0))) = (g65 1100007 (g65 1046 0))) ∧ ((17 : Int) = 17 → 0 ≤ (g65 1100025 (g65 1046 0)) → (g65 1100007 (g65 1100025 (g65 1046 0))) = (g65 1100007 (g65 1046 0)) → (g72 1100007 (g72 1100025 (g72 1046 0))) = (g65 1100007 (g65 1100025 (g65 1100025 (g65 1046 0))))) ∧ (¬ (17 : Int) = 29 → ((17 : Int) = 17 → 0 ≤ (g65 1100025 (g65 1046 0)) → (g65 1100007 (g65 1100025 (g65 1046 0))) < (g65 1100007 (g65 1046 0))) → (g72 1100007 (g72 1100025 (g72 1046 0))) = (g65 1100007 (g65 1100025 (g65 1046 0)))))) → (0 ≤ l2_23 ∧ l2_23 < 12000) ∧ (sv_R (S 13 l2_23) → ((0 ≤ (g72 1046 0) ∧ (g72 1046 0) ≤ 600 ∧ 0 ≤ (g72 1047 0) ∧ (g72 1047 0) ≤ 1 ∧ 0 ≤ (g58 1053 0) ∧ 0 ≤ (g58 1066 0) ∧ (p1 = -1 → (S 13 l2_23) = -1) ∧ (¬ p1 = -1 → ((S 13 l2_23) = -1 ∨ (0 ≤ (S 13 l2_23) ∧ (S 13 l2_23) < (S 1024 0) ∧ (S 1100001 (S 13 l2_23)) = 4 ∧ (S 1100002 (S 13 l2_23)) ≤ (S 1100002 p1) ∧ (S 1100005 (S 13 l2_23)) ≤ (S 1100005 p1)))) ∧ (¬ p1 = -1 → sm_LF (g58 39) (S 1100002) (g58 1066 0) (S 1024 0) (12001 * ((S 1100002 p1) + 1))) ∧ 0 ≤ (g72 1046 0) ∧ (g72 1046 0) ≤ 600 ∧ 0 ≤ (g72 1047 0) ∧ (g72 1047 0) ≤ 1 ∧ 0 ≤ (g58 1053 0) ∧ 0 ≤ (g58 1066 0) ∧ (S 1046 0) ≤ (g72 1046 0) ∧ ((S 1047 0) = 1 → (g72 1047 0) = 1) ∧ sm_F1 (S 26) (g72 26) (S 1046 0) ∧ sm_F1 (S 27) (g72 27) (S 1046 0) ∧ sm_F1 (S 28) (g72 28) (S 1046 0) ∧ sm_F1 (S 29) (g72 29) (S 1046 0) ∧ sm_F1 (S 1100007) (g72 1100007) ((S 1046 0) + 1) ∧ sm_F1 (S 1100023) (g72 1100023) ((S 1046 0) + 1) ∧ sm_F1 (S 1100024) (g72 1100024) ((S 1046 0) + 1) ∧ sm_F1 (S 1100025) (g72 1100025) ((S 1046 0) + 1) ∧ sm_F1 (S 1100009) (g58 1100009) (S 1053 0) ∧ sm_F1 (S 1100027) (g58 1100027) (S 1053 0) ∧ sm_F1 (S 1100028) (g58 1100028) (S 1053 0) ∧ sm_F1 (S 1100026) (g58 1100026) (S 1053 0) ∧ sm_F1 (S 1100030) (g58 1100030) (S 1053 0) ∧ sm_F1 (S 31) (g58 31) (S 1053 0) ∧ (S 1053 0) ≤ (g58 1053 0) ∧ (g58 1066 0) = (S 1066 0) ∧ sm_F1 (S 39) (g58 39) (S 1066 0) ∧ ((S 1047 0) = 1 → (g58 1053 0) = (S 1053 0)) ∧ ((S 1047 0) = 0 → (g58 1053 0) ≤ (S 1053 0) + 3 * (600 - (S 1046 0)) + (if p1 = -1 then 0 else (S 1100002 p1))) ∧ ((g72 1047 0) = 0 → (S 1047 0) = 0 ∧ sm_KC (g72 26) (g72 27) (g72 28) (g72 29) (g72 1100007) (g72 1100023) (g72 1100024) (g72 1100025) (g58 31) (g58 1100009) (g58 1100027) (g58 1100028) (g58 1100026) (g58 1100030) (S 21) (S 32) (S 33) (g72 1046 0) (g58 1053 0) (S 1056 0) (S 1032 0) (S 1007 0) (g58 1100033 0) ∧ (g58 1100033 0) = (g58 1055 0) ∧ 0 ≤ (g58 1055 0) ∧ (g58 1055 0) ≤ (g72 1046 0) ∧ (S 1046 0) + 1 ≤ (g72 1046 0) ∧ sm_FC (g72 29) (S 1046 0) (g72 1046 0) (S 1056 0) ∧ (g72 1100007 (g72 1046 0)) = (S 1100007 (S 1046 0)) + 1 ∧ (g72 1100023 (g72 1046 0)) = (S 1100023 (S 1046 0)) ∧ (g72 1100024 (g72 1046 0)) = (S 1100024 (S 1046 0)) ∧ (g72 1100025 (g72 1046 0)) = (S 1100025 (S 1046 0)) ∧ (g72 1100007 (g72 1100023 (g72 1046 0))) = (S 1100007 (S 1100023 (S 1046 0))) ∧ (g72 1100007 (g72 1100025 (g72 1046 0))) = (S 1100007 (S 1100025 (S 1046 0))) ∧ sm_AP (g58 1100030) (S 1053 0) (g58 1053 0) ∧ sm_HB (g72 1100007) (S 1046 0) (g72 1046 0) (2 * (S 1100007 (S 1046 0)) + ((g72 1046 0) - (S 1046 0)) + (if p1 = -1 then 10 else 8 * (S 1100005 p1) + 18)) ∧ (g58 1053 0) ≤ (S 1053 0) + 3 * ((g72 1046 0) - (S 1046 0)) ∧ True)) ∧ ((if (S 13 l2_23) = -1 then 0 else (S 1024 0) - (S 13 l2_23))) < ((if l2_23 = -1 then 0 else (S 1024 0) - l2_23)))))))))))))))))))))))))))))))) := by
  intro d
  intro p1
  intro S
  intro h1_
  intro h2_
  rintro ⟨h3_, ⟨h4_, ⟨h5_, ⟨h6_, ⟨h7_, ⟨h8_, ⟨h9_, ⟨h10_, ⟨h11_, ⟨h12_, ⟨h13_, ⟨h14_, ⟨h15_, ⟨h16_, ⟨h17_, ⟨h18_, ⟨h19_, ⟨h20_, ⟨h21_, ⟨h22_, ⟨h23_, ⟨h24_, ⟨h25_, ⟨h26_, ⟨h27_, ⟨h28_, ⟨h29_, h30_⟩⟩⟩⟩⟩⟩⟩⟩⟩⟩⟩⟩⟩⟩⟩⟩⟩⟩⟩⟩⟩⟩⟩⟩⟩⟩⟩
  intro h31_
  refine ⟨?_, ?_⟩
  · skip
    have e32_ : (if S 1047 0 = 0 then S 1055 0 + 1 else 0 : Int) = S 1055 0 + 1 := if_pos h22_
    exact (la_object_0 h15_ h25_ h26_ e32_)
  intro h33_
  have e34_ : (if S 1047 0 = 0 then S 1055 0 + 1 else 0 : Int) = S 1055 0 + 1 := if_pos h22_
  have h35_ := (h33_ h22_)
  have h36_ := (h35_ h24_)
  have h37_ := (h36_ h23_)
  intro h38_
  have h39_ := (h38_ h22_)
  intro h40_
  have h41_ := (h40_ h22_)
  have h42_ := (h41_ h25_)
  obtain ⟨h43_, h44_⟩ := (h42_ (la_object_1 h15_ h26_))
  intro h45_
  have h46_ := (h45_ h22_)
  intro h47_
  intro h48_
  refine ⟨?_, ?_⟩
  · skip
    refine ⟨h14_, ?_⟩
    refine ⟨h15_, ?_⟩
    refine ⟨h16_, ?_⟩
    refine ⟨h17_, ?_⟩
    intro h49_
    refine ⟨h37_, ?_⟩
    refine ⟨la_object_3, ?_⟩
    refine ⟨la_object_4, ?_⟩
    refine ⟨(sm_ci_7 (la_object_5 (sm_KC_n h23_).2.1.1 h25_ h27_ h28_ e34_ (sm_dl_7 : sm_dl 7 (S 1055 0) = 1) (sm_nt_7 : sm_nt 7 (S 1046 0) (S 1100023 (S 1046 0)) (S 1100023 (S 1100023 (S 1046 0))) = S 1100023 (S 1046 0)) (sm_nl_7 : sm_nl 7 (S 1046 0) (S 1100007 (S 1046 0)) (S 1100025 (S 1046 0)) (S 1100007 (S 1100025 (S 1046 0))) (S 1100025 (S 1100025 (S 1046 0))) = S 1100025 (S 1046 0)))), ?_⟩
    refine ⟨la_object_6, ?_⟩
    intro h50_
    have h51_ := (h50_.resolve_left la_object_7)
    have e52_ : S 1100007 (S 1100023 (S 1046 0)) = S 1100007 (S 1046 0) := congrArg ((S 1100007)) (la_object_8 h51_)
    have e53_ : S 1100007 (S 1100025 (S 1046 0)) = S 1100007 (S 1046 0) := congrArg ((S 1100007)) (la_object_8 h51_)
    have e54_ : S 1100007 (S 1100025 (S 1046 0)) = S 1100007 (S 1100023 (S 1046 0)) := congrArg ((S 1100007)) (la_object_8 h51_)
    have e55_ : S 1100023 (S 1100023 (S 1046 0)) = S 1100023 (S 1046 0) := congrArg ((S 1100023)) (la_object_8 h51_)
    have e56_ : S 1100025 (S 1100025 (S 1046 0)) = S 1100025 (S 1046 0) := congrArg ((S 1100025)) (la_object_8 h51_)
    have h57_ := (h27_ (la_object_9 h51_))
    have h58_ := (h28_ (la_object_9 h51_))
    exact ((la_object_10 h51_)).elim
  refine ⟨?_, ?_⟩
  · skip
    by_cases c59_ : 0 ≤ S 1100023 (S 1046 0)
    · skip
      have h60_ := (h27_ c59_)
      by_cases c63_ : p1 = (-1)
      · skip
        have e64_ : (if p1 = (-1) then 0 else S 1100002 p1 : Int) = 0 := if_pos c63_
        exact (la_object_12 h15_ e64_)
      · skip
        have e65_ : (if p1 = (-1) then 0 else S 1100002 p1 : Int) = S 1100002 p1 := if_neg c63_
        obtain ⟨h66_, ⟨h67_, ⟨h68_, ⟨h69_, ⟨h70_, h71_⟩⟩⟩⟩⟩ := (h21_ c63_)
        exact (la_object_14 h15_ e65_ h70_)
    · skip
      by_cases c74_ : p1 = (-1)
      · skip
        have e75_ : (if p1 = (-1) then 0 else S 1100002 p1 : Int) = 0 := if_pos c74_
        exact (la_object_12 h15_ e75_)
      · skip
        have e76_ : (if p1 = (-1) then 0 else S 1100002 p1 : Int) = S 1100002 p1 := if_neg c74_
        obtain ⟨h77_, ⟨h78_, ⟨h79_, ⟨h80_, ⟨h81_, h82_⟩⟩⟩⟩⟩ := (h21_ c74_)
        exact (la_object_14 h15_ e76_ h81_)
  intro g14
  rintro ⟨h83_, ⟨h84_, ⟨h85_, ⟨h86_, ⟨h87_, ⟨h88_, ⟨h89_, ⟨h90_, ⟨h91_, ⟨h92_, ⟨h93_, ⟨h94_, ⟨h95_, ⟨h96_, ⟨h97_, ⟨h98_, h99_⟩⟩⟩⟩⟩⟩⟩⟩⟩⟩⟩⟩⟩⟩⟩⟩
  intro r19
  intro h100_
  intro h101_
  have h102_ := (h101_ (la_object_16 h25_ e34_ h44_))
  refine ⟨?_, ?_⟩
  · skip
    refine ⟨(la_object_17 h85_), ?_⟩
    refine ⟨h88_, ?_⟩
    refine ⟨h83_, ?_⟩
    refine ⟨h84_, ?_⟩
    refine ⟨h18_, ?_⟩
    refine ⟨h19_, ?_⟩
    refine ⟨(la_object_18 h20_), ?_⟩
    refine ⟨?_, ?_⟩
    · skip
      intro h103_
      have e104_ : (if p1 = (-1) then 0 else S 1100002 p1 : Int) = S 1100002 p1 := if_neg h103_
      obtain ⟨h105_, ⟨h106_, ⟨h107_, ⟨h108_, ⟨h109_, h110_⟩⟩⟩⟩⟩ := (h21_ h103_)
      exact (la_object_19 (la_object_13 h20_ h103_) h106_ h107_)
    refine ⟨?_, ?_⟩
    · skip
      intro h111_
      have e112_ : (if p1 = (-1) then 0 else S 1100002 p1 : Int) = S 1100002 p1 := if_neg h111_
      obtain ⟨h113_, ⟨h114_, ⟨h115_, ⟨h116_, ⟨h117_, h118_⟩⟩⟩⟩⟩ := (h21_ h111_)
      exact h118_
    refine ⟨(la_object_17 h85_), ?_⟩
    refine ⟨h88_, ?_⟩
    refine ⟨h83_, ?_⟩
    refine ⟨h84_, ?_⟩
    refine ⟨h18_, ?_⟩
    refine ⟨h19_, ?_⟩
    refine ⟨h86_, ?_⟩
    refine ⟨h89_, ?_⟩
    refine ⟨h91_, ?_⟩
    refine ⟨h92_, ?_⟩
    refine ⟨h93_, ?_⟩
    refine ⟨h94_, ?_⟩
    refine ⟨h95_, ?_⟩
    refine ⟨h96_, ?_⟩
    refine ⟨h97_, ?_⟩
    refine ⟨h98_, ?_⟩
    refine ⟨sm_F1_rf, ?_⟩
    refine ⟨sm_F1_rf, ?_⟩
    refine ⟨sm_F1_rf, ?_⟩
    refine ⟨sm_F1_rf, ?_⟩
    refine ⟨sm_F1_rf, ?_⟩
    refine ⟨sm_F1_rf, ?_⟩
    refine ⟨la_object_20, ?_⟩
    refine ⟨la_object_21, ?_⟩
    refine ⟨sm_F1_rf, ?_⟩
    refine ⟨la_object_22, ?_⟩
    refine ⟨?_, ?_⟩
    · skip
      intro h119_
      by_cases c120_ : g14 1047 0 = 1
      · skip
        have h121_ := (h90_ c120_)
        have h122_ := (h121_.resolve_left (la_object_15 h22_))
        by_cases c127_ : p1 = (-1)
        · skip
          have e128_ : (if p1 = (-1) then 0 else S 1100002 p1 : Int) = 0 := if_pos c127_
          exact (la_object_24 h122_ e128_)
        · skip
          have e129_ : (if p1 = (-1) then 0 else S 1100002 p1 : Int) = S 1100002 p1 := if_neg c127_
          obtain ⟨h130_, ⟨h131_, ⟨h132_, ⟨h133_, ⟨h134_, h135_⟩⟩⟩⟩⟩ := (h21_ c127_)
          exact (la_object_25 h122_ e129_ h134_)
      · skip
        obtain ⟨h136_, ⟨h137_, ⟨h138_, ⟨h139_, ⟨h140_, ⟨h141_, ⟨h142_, ⟨h143_, ⟨h144_, ⟨h145_, ⟨h146_, ⟨h147_, ⟨h148_, h149_⟩⟩⟩⟩⟩⟩⟩⟩⟩⟩⟩⟩⟩ := (h99_ (la_object_27 h83_ (la_object_26 h84_ c120_)))
        have h150_ := (h149_ la_object_28)
        have h151_ := (h150_ la_object_30)
        have e152_ : S 1100007 (g14 1100023 (g14 1046 0)) = S 1100007 (S 1100023 (S 1046 0)) := congrArg ((S 1100007)) (la_object_32 h143_ (sm_nt_7 : sm_nt 7 (S 1046 0) (S 1100023 (S 1046 0)) (S 1100023 (S 1100023 (S 1046 0))) = S 1100023 (S 1046 0)))
        have e153_ : S 1100007 (g14 1100025 (g14 1046 0)) = S 1100007 (S 1100025 (S 1046 0)) := congrArg ((S 1100007)) (la_object_32 h145_ (sm_nl_7 : sm_nl 7 (S 1046 0) (S 1100007 (S 1046 0)) (S 1100025 (S 1046 0)) (S 1100007 (S 1100025 (S 1046 0))) (S 1100025 (S 1100025 (S 1046 0))) = S 1100025 (S 1046 0)))
        by_cases c158_ : p1 = (-1)
        · skip
          have e159_ : (if p1 = (-1) then 0 else S 1100002 p1 : Int) = 0 := if_pos c158_
          exact (la_object_33 h88_ h137_ e159_)
        · skip
          have e160_ : (if p1 = (-1) then 0 else S 1100002 p1 : Int) = S 1100002 p1 := if_neg c158_
          obtain ⟨h161_, ⟨h162_, ⟨h163_, ⟨h164_, ⟨h165_, h166_⟩⟩⟩⟩⟩ := (h21_ c158_)
          exact (la_object_34 h88_ h137_ e160_ h165_)
    intro h167_
    obtain ⟨h168_, ⟨h169_, ⟨h170_, ⟨h171_, ⟨h172_, ⟨h173_, ⟨h174_, ⟨h175_, ⟨h176_, ⟨h177_, ⟨h178_, ⟨h179_, ⟨h180_, h181_⟩⟩⟩⟩⟩⟩⟩⟩⟩⟩⟩⟩⟩ := (h99_ h167_)
    have h182_ := (h181_ la_object_28)
    have h183_ := (h182_ la_object_30)
    refine ⟨h22_, ?_⟩
    refine ⟨h170_, ?_⟩
    refine ⟨(la_object_35 e34_ h102_), ?_⟩
    refine ⟨(la_object_36 h25_ h102_), ?_⟩
    refine ⟨(la_object_37 h26_ h102_ h169_), ?_⟩
    refine ⟨(la_object_38 h169_), ?_⟩
    refine ⟨(sm_FC_1 h173_ (sm_FC_0 h87_)), ?_⟩
    refine ⟨(la_object_39 h174_ (sm_dl_7 : sm_dl 7 (S 1055 0) = 1)), ?_⟩
    refine ⟨(la_object_32 h175_ (sm_nt_7 : sm_nt 7 (S 1046 0) (S 1100023 (S 1046 0)) (S 1100023 (S 1100023 (S 1046 0))) = S 1100023 (S 1046 0))), ?_⟩
    refine ⟨(la_object_32 h176_ (sm_nd_7 : sm_nd 7 (S 1100024 (S 1046 0)) = S 1100024 (S 1046 0))), ?_⟩
    refine ⟨(la_object_32 h177_ (sm_nl_7 : sm_nl 7 (S 1046 0) (S 1100007 (S 1046 0)) (S 1100025 (S 1046 0)) (S 1100007 (S 1100025 (S 1046 0))) (S 1100025 (S 1100025 (S 1046 0))) = S 1100025 (S 1046 0))), ?_⟩
    refine ⟨(la_object_32 h178_ (sm_nt_7 : sm_nt 7 (S 1100007 (S 1046 0)) (S 1100007 (S 1100023 (S 1046 0))) (S 1100007 (S 1100023 (S 1100023 (S 1046 0)))) = S 1100007 (S 1100023 (S 1046 0)))), ?_⟩
    refine ⟨h183_, ?_⟩
    refine ⟨(sm_AP_0 la_object_20), ?_⟩
    refine ⟨?_, ?_⟩
    · skip
      have e184_ : S 1100007 (g14 1100023 (g14 1046 0)) = S 1100007 (S 1100023 (S 1046 0)) := congrArg ((S 1100007)) (la_object_32 h175_ (sm_nt_7 : sm_nt 7 (S 1046 0) (S 1100023 (S 1046 0)) (S 1100023 (S 1100023 (S 1046 0))) = S 1100023 (S 1046 0)))
      have e185_ : S 1100007 (g14 1100025 (g14 1046 0)) = S 1100007 (S 1100025 (S 1046 0)) := congrArg ((S 1100007)) (la_object_32 h177_ (sm_nl_7 : sm_nl 7 (S 1046 0) (S 1100007 (S 1046 0)) (S 1100025 (S 1046 0)) (S 1100007 (S 1100025 (S 1046 0))) (S 1100025 (S 1100025 (S 1046 0))) = S 1100025 (S 1046 0)))
      by_cases c186_ : p1 = (-1)
      · skip
        have e187_ : (if p1 = (-1) then 10 else 8 * S 1100005 p1 + 18 : Int) = 10 := if_pos c186_
        have e188_ : (if p1 = (-1) then 0 else S 1100002 p1 : Int) = 0 := if_pos c186_
        exact (sm_HB_1 (by rw [((sm_F1_at h95_ (S 1046 0) la_object_40).trans rfl)]; exact (la_object_41 h169_ e187_)) (sm_HB_0 h87_))
      · skip
        have e189_ : (if p1 = (-1) then 10 else 8 * S 1100005 p1 + 18 : Int) = 8 * S 1100005 p1 + 18 := if_neg c186_
        have e190_ : (if p1 = (-1) then 0 else S 1100002 p1 : Int) = S 1100002 p1 := if_neg c186_
        obtain ⟨h191_, ⟨h192_, ⟨h193_, ⟨h194_, ⟨h195_, h196_⟩⟩⟩⟩⟩ := (h21_ c186_)
        exact (sm_HB_1 (by rw [((sm_F1_at h95_ (S 1046 0) la_object_40).trans rfl)]; exact (la_object_42 h169_ e189_ h194_)) (sm_HB_0 h87_))
    refine ⟨(la_object_43 h169_), ?_⟩
    exact trivial
  intro l2_23
  intro h197_
  intro g22
  rintro ⟨h198_, ⟨h199_, ⟨h200_, ⟨h201_, ⟨h202_, ⟨h203_, ⟨h204_, ⟨h205_, ⟨h206_, ⟨h207_, ⟨h208_, ⟨h209_, ⟨h210_, ⟨h211_, ⟨h212_, ⟨h213_, ⟨h214_, ⟨h215_, ⟨h216_, ⟨h217_, ⟨h218_, ⟨h219_, ⟨h220_, ⟨h221_, ⟨h222_, ⟨h223_, ⟨h224_, ⟨h225_, ⟨h226_, ⟨h227_, ⟨h228_, ⟨h229_, ⟨h230_, ⟨h231_, ⟨h232_, ⟨h233_, h234_⟩⟩⟩⟩⟩⟩⟩⟩⟩⟩⟩⟩⟩⟩⟩⟩⟩⟩⟩⟩⟩⟩⟩⟩⟩⟩⟩⟩⟩⟩⟩⟩⟩⟩⟩⟩
  have h235_ := (h233_ h22_)
  refine ⟨?_, ?_⟩
  · skip
    by_cases c236_ : l2_23 = (-1)
    · skip
      have e237_ : (if l2_23 = (-1) then 0 else S 1024 0 - l2_23 : Int) = 0 := if_pos c236_
      exact (la_object_44 e237_)
    · skip
      have e238_ : (if l2_23 = (-1) then 0 else S 1024 0 - l2_23 : Int) = S 1024 0 - l2_23 := if_neg c236_
      have h239_ : ¬ (p1 = (-1)) := fun q_ => c236_ (h204_ q_)
      have h240_ := (h205_ h239_)
      obtain ⟨h241_, ⟨h242_, ⟨h243_, ⟨h244_, ⟨h245_, h246_⟩⟩⟩⟩⟩ := (h21_ h239_)
      have h247_ := (h206_ h239_)
      have e248_ : (if p1 = (-1) then 10 else 8 * S 1100005 p1 + 18 : Int) = 8 * S 1100005 p1 + 18 := if_neg h239_
      have e249_ : (if p1 = (-1) then 0 else S 1100002 p1 : Int) = S 1100002 p1 := if_neg h239_
      obtain ⟨h250_, ⟨h251_, ⟨h252_, ⟨h253_, h254_⟩⟩⟩⟩ := (h240_.resolve_left c236_)
      exact (la_object_46 e238_ h251_)
  refine ⟨?_, ?_⟩
  · skip
    intro h255_
    refine ⟨h198_, ?_⟩
    refine ⟨h199_, ?_⟩
    refine ⟨h200_, ?_⟩
    refine ⟨h201_, ?_⟩
    refine ⟨h202_, ?_⟩
    refine ⟨h203_, ?_⟩
    refine ⟨h213_, ?_⟩
    refine ⟨h214_, ?_⟩
    refine ⟨h215_, ?_⟩
    refine ⟨h216_, ?_⟩
    refine ⟨h217_, ?_⟩
    refine ⟨h218_, ?_⟩
    refine ⟨h219_, ?_⟩
    refine ⟨h220_, ?_⟩
    refine ⟨h221_, ?_⟩
    refine ⟨h222_, ?_⟩
    refine ⟨h223_, ?_⟩
    refine ⟨h224_, ?_⟩
    refine ⟨h225_, ?_⟩
    refine ⟨h226_, ?_⟩
    refine ⟨h227_, ?_⟩
    refine ⟨h228_, ?_⟩
    refine ⟨h229_, ?_⟩
    refine ⟨h230_, ?_⟩
    refine ⟨h231_, ?_⟩
    refine ⟨h232_, ?_⟩
    refine ⟨h233_, ?_⟩
    intro h256_
    obtain ⟨h257_, ⟨h258_, ⟨h259_, ⟨h260_, ⟨h261_, ⟨h262_, ⟨h263_, ⟨h264_, ⟨h265_, ⟨h266_, ⟨h267_, ⟨h268_, ⟨h269_, ⟨h270_, ⟨h271_, ⟨h272_, -⟩⟩⟩⟩⟩⟩⟩⟩⟩⟩⟩⟩⟩⟩⟩⟩ := (h234_ h256_)
    refine ⟨h22_, ?_⟩
    refine ⟨h258_, ?_⟩
    refine ⟨h259_, ?_⟩
    refine ⟨h260_, ?_⟩
    refine ⟨h261_, ?_⟩
    refine ⟨h262_, ?_⟩
    refine ⟨h263_, ?_⟩
    refine ⟨h264_, ?_⟩
    refine ⟨h265_, ?_⟩
    refine ⟨h266_, ?_⟩
    refine ⟨h267_, ?_⟩
    refine ⟨h268_, ?_⟩
    refine ⟨h269_, ?_⟩
    refine ⟨h270_, ?_⟩
    refine ⟨h271_, ?_⟩
    refine ⟨h272_, ?_⟩
    exact trivial
  intro h273_
  have h274_ : ¬ (p1 = (-1)) := fun q_ => h273_ (h204_ q_)
  have h275_ := (h205_ h274_)
  obtain ⟨h276_, ⟨h277_, ⟨h278_, ⟨h279_, ⟨h280_, h281_⟩⟩⟩⟩⟩ := (h21_ h274_)
  have h282_ := (h206_ h274_)
  have e283_ : (if p1 = (-1) then 10 else 8 * S 1100005 p1 + 18 : Int) = 8 * S 1100005 p1 + 18 := if_neg h274_
  have e284_ : (if p1 = (-1) then 0 else S 1100002 p1 : Int) = S 1100002 p1 := if_neg h274_
  obtain ⟨h285_, ⟨h286_, ⟨h287_, ⟨h288_, h289_⟩⟩⟩⟩ := (h275_.resolve_left h273_)
  intro h290_
  have h291_ := (h290_ h204_)
  have h292_ := (h291_ h273_)
  intro h293_
  have h294_ := (h293_ h3_)
  have h295_ := (h294_ h285_)
  obtain ⟨h296_, ⟨h297_, ⟨h298_, h299_⟩⟩⟩ := (h295_ h286_)
  intro h300_
  have h301_ := (h300_ h3_)
  have h302_ := (h301_ h285_)
  have h303_ := (h302_ h286_)
  obtain ⟨h304_, h305_⟩ := (h303_ h287_)
  intro h306_
  have h307_ := (h306_ h305_)
  obtain ⟨h308_, h309_⟩ := (h307_ h4_)
  intro h310_
  have h311_ := (h310_ h3_)
  have h312_ := (h311_ h285_)
  have h313_ := (h312_ h286_)
  have h314_ := (h313_ (la_object_51 h287_))
  intro h315_
  have h316_ := (h315_ h3_)
  have h317_ := (h316_ (sm_ex_e h304_).1)
  obtain ⟨h318_, ⟨h319_, ⟨h320_, h321_⟩⟩⟩ := (h317_ (sm_ex_e h304_).2.1)
  obtain ⟨h322_, ⟨h323_, ⟨h324_, h325_⟩⟩⟩ := (h318_ (sm_ex_e h304_).2.2.1)
  intro h326_
  intro h327_
  rintro ⟨h328_, h329_⟩
  refine ⟨?_, ?_⟩
  · skip
    intro h330_
    refine ⟨h198_, ?_⟩
    refine ⟨h199_, ?_⟩
    refine ⟨h200_, ?_⟩
    refine ⟨h201_, ?_⟩
    refine ⟨h202_, ?_⟩
    refine ⟨h203_, ?_⟩
    refine ⟨h213_, ?_⟩
    refine ⟨h214_, ?_⟩
    refine ⟨h215_, ?_⟩
    refine ⟨h216_, ?_⟩
    refine ⟨h217_, ?_⟩
    refine ⟨h218_, ?_⟩
    refine ⟨h219_, ?_⟩
    refine ⟨h220_, ?_⟩
    refine ⟨h221_, ?_⟩
    refine ⟨h222_, ?_⟩
    refine ⟨h223_, ?_⟩
    refine ⟨h224_, ?_⟩
    refine ⟨h225_, ?_⟩
    refine ⟨h226_, ?_⟩
    refine ⟨h227_, ?_⟩
    refine ⟨h228_, ?_⟩
    refine ⟨h229_, ?_⟩
    refine ⟨h230_, ?_⟩
    refine ⟨h231_, ?_⟩
    refine ⟨h232_, ?_⟩
    refine ⟨h233_, ?_⟩
    intro h331_
    refine ⟨h22_, ?_⟩
    refine ⟨?_, ?_⟩
    · skip
      have e332_ : S 12 (5 * l2_23 + 0) = S 12 (5 * l2_23) := congrArg ((S 12)) la_object_56
      have e333_ : S 1100002 (S 12 (5 * l2_23 + 0)) = S 1100002 (S 12 (5 * l2_23)) := congrArg ((S 1100002)) e332_
      have e334_ : S 1100005 (S 12 (5 * l2_23 + 0)) = S 1100005 (S 12 (5 * l2_23)) := congrArg ((S 1100005)) e332_
      exact ((la_object_57 (la_object_55 h200_ h330_) h331_)).elim
    refine ⟨?_, ?_⟩
    · skip
      have e335_ : S 12 (5 * l2_23 + 0) = S 12 (5 * l2_23) := congrArg ((S 12)) la_object_56
      have e336_ : S 1100002 (S 12 (5 * l2_23 + 0)) = S 1100002 (S 12 (5 * l2_23)) := congrArg ((S 1100002)) e335_
      have e337_ : S 1100005 (S 12 (5 * l2_23 + 0)) = S 1100005 (S 12 (5 * l2_23)) := congrArg ((S 1100005)) e335_
      exact ((la_object_57 (la_object_55 h200_ h330_) h331_)).elim
    refine ⟨?_, ?_⟩
    · skip
      have e338_ : S 12 (5 * l2_23 + 0) = S 12 (5 * l2_23) := congrArg ((S 12)) la_object_56
      have e339_ : S 1100002 (S 12 (5 * l2_23 + 0)) = S 1100002 (S 12 (5 * l2_23)) := congrArg ((S 1100002)) e338_
      have e340_ : S 1100005 (S 12 (5 * l2_23 + 0)) = S 1100005 (S 12 (5 * l2_23)) := congrArg ((S 1100005)) e338_
      exact ((la_object_57 (la_object_55 h200_ h330_) h331_)).elim
    refine ⟨?_, ?_⟩
    · skip
      have e341_ : S 12 (5 * l2_23 + 0) = S 12 (5 * l2_23) := congrArg ((S 12)) la_object_56
      have e342_ : S 1100002 (S 12 (5 * l2_23 + 0)) = S 1100002 (S 12 (5 * l2_23)) := congrArg ((S 1100002)) e341_
      have e343_ : S 1100005 (S 12 (5 * l2_23 + 0)) = S 1100005 (S 12 (5 * l2_23)) := congrArg ((S 1100005)) e341_
      exact ((la_object_57 (la_object_55 h200_ h330_) h331_)).elim
    refine ⟨?_, ?_⟩
    · skip
      have e344_ : S 12 (5 * l2_23 + 0) = S 12 (5 * l2_23) := congrArg ((S 12)) la_object_56
      have e345_ : S 1100002 (S 12 (5 * l2_23 + 0)) = S 1100002 (S 12 (5 * l2_23)) := congrArg ((S 1100002)) e344_
      have e346_ : S 1100005 (S 12 (5 * l2_23 + 0)) = S 1100005 (S 12 (5 * l2_23)) := congrArg ((S 1100005)) e344_
      exact ((la_object_57 (la_object_55 h200_ h330_) h331_)).elim
    refine ⟨?_, ?_⟩
    · skip
      have e347_ : S 12 (5 * l2_23 + 0) = S 12 (5 * l2_23) := congrArg ((S 12)) la_object_56
      have e348_ : S 1100002 (S 12 (5 * l2_23 + 0)) = S 1100002 (S 12 (5 * l2_23)) := congrArg ((S 1100002)) e347_
      have e349_ : S 1100005 (S 12 (5 * l2_23 + 0)) = S 1100005 (S 12 (5 * l2_23)) := congrArg ((S 1100005)) e347_
      exact ((la_object_57 (la_object_55 h200_ h330_) h331_)).elim
    refine ⟨?_, ?_⟩
    · skip
      have e350_ : S 12 (5 * l2_23 + 0) = S 12 (5 * l2_23) := congrArg ((S 12)) la_object_56
      have e351_ : S 1100002 (S 12 (5 * l2_23 + 0)) = S 1100002 (S 12 (5 * l2_23)) := congrArg ((S 1100002)) e350_
      have e352_ : S 1100005 (S 12 (5 * l2_23 + 0)) = S 1100005 (S 12 (5 * l2_23)) := congrArg ((S 1100005)) e350_
      exact ((la_object_57 (la_object_55 h200_ h330_) h331_)).elim
    refine ⟨?_, ?_⟩
    · skip
      have e353_ : S 12 (5 * l2_23 + 0) = S 12 (5 * l2_23) := congrArg ((S 12)) la_object_56
      have e354_ : S 1100002 (S 12 (5 * l2_23 + 0)) = S 1100002 (S 12 (5 * l2_23)) := congrArg ((S 1100002)) e353_
      have e355_ : S 1100005 (S 12 (5 * l2_23 + 0)) = S 1100005 (S 12 (5 * l2_23)) := congrArg ((S 1100005)) e353_
      exact ((la_object_57 (la_object_55 h200_ h330_) h331_)).elim
    refine ⟨?_, ?_⟩
    · skip
      have e356_ : S 12 (5 * l2_23 + 0) = S 12 (5 * l2_23) := congrArg ((S 12)) la_object_56
      have e357_ : S 1100002 (S 12 (5 * l2_23 + 0)) = S 1100002 (S 12 (5 * l2_23)) := congrArg ((S 1100002)) e356_
      have e358_ : S 1100005 (S 12 (5 * l2_23 + 0)) = S 1100005 (S 12 (5 * l2_23)) := congrArg ((S 1100005)) e356_
      exact ((la_object_57 (la_object_55 h200_ h330_) h331_)).elim
    refine ⟨?_, ?_⟩
    · skip
      have e359_ : S 12 (5 * l2_23 + 0) = S 12 (5 * l2_23) := congrArg ((S 12)) la_object_56
      have e360_ : S 1100002 (S 12 (5 * l2_23 + 0)) = S 1100002 (S 12 (5 * l2_23)) := congrArg ((S 1100002)) e359_
      have e361_ : S 1100005 (S 12 (5 * l2_23 + 0)) = S 1100005 (S 12 (5 * l2_23)) := congrArg ((S 1100005)) e359_
      exact ((la_object_57 (la_object_55 h200_ h330_) h331_)).elim
    refine ⟨?_, ?_⟩
    · skip
      have e362_ : S 12 (5 * l2_23 + 0) = S 12 (5 * l2_23) := congrArg ((S 12)) la_object_56
      have e363_ : S 1100002 (S 12 (5 * l2_23 + 0)) = S 1100002 (S 12 (5 * l2_23)) := congrArg ((S 1100002)) e362_
      have e364_ : S 1100005 (S 12 (5 * l2_23 + 0)) = S 1100005 (S 12 (5 * l2_23)) := congrArg ((S 1100005)) e362_
      exact ((la_object_57 (la_object_55 h200_ h330_) h331_)).elim
    refine ⟨?_, ?_⟩
    · skip
      have e365_ : S 12 (5 * l2_23 + 0) = S 12 (5 * l2_23) := congrArg ((S 12)) la_object_56
      have e366_ : S 1100002 (S 12 (5 * l2_23 + 0)) = S 1100002 (S 12 (5 * l2_23)) := congrArg ((S 1100002)) e365_
      have e367_ : S 1100005 (S 12 (5 * l2_23 + 0)) = S 1100005 (S 12 (5 * l2_23)) := congrArg ((S 1100005)) e365_
      exact ((la_object_57 (la_object_55 h200_ h330_) h331_)).elim
    refine ⟨?_, ?_⟩
    · skip
      have e368_ : S 12 (5 * l2_23 + 0) = S 12 (5 * l2_23) := congrArg ((S 12)) la_object_56
      have e369_ : S 1100002 (S 12 (5 * l2_23 + 0)) = S 1100002 (S 12 (5 * l2_23)) := congrArg ((S 1100002)) e368_
      have e370_ : S 1100005 (S 12 (5 * l2_23 + 0)) = S 1100005 (S 12 (5 * l2_23)) := congrArg ((S 1100005)) e368_
      exact ((la_object_57 (la_object_55 h200_ h330_) h331_)).elim
    refine ⟨?_, ?_⟩
    · skip
      have e371_ : S 12 (5 * l2_23 + 0) = S 12 (5 * l2_23) := congrArg ((S 12)) la_object_56
      have e372_ : S 1100002 (S 12 (5 * l2_23 + 0)) = S 1100002 (S 12 (5 * l2_23)) := congrArg ((S 1100002)) e371_
      have e373_ : S 1100005 (S 12 (5 * l2_23 + 0)) = S 1100005 (S 12 (5 * l2_23)) := congrArg ((S 1100005)) e371_
      exact ((la_object_57 (la_object_55 h200_ h330_) h331_)).elim
    refine ⟨?_, ?_⟩
    · skip
      have e374_ : S 12 (5 * l2_23 + 0) = S 12 (5 * l2_23) := congrArg ((S 12)) la_object_56
      have e375_ : S 1100002 (S 12 (5 * l2_23 + 0)) = S 1100002 (S 12 (5 * l2_23)) := congrArg ((S 1100002)) e374_
      have e376_ : S 1100005 (S 12 (5 * l2_23 + 0)) = S 1100005 (S 12 (5 * l2_23)) := congrArg ((S 1100005)) e374_
      exact ((la_object_57 (la_object_55 h200_ h330_) h331_)).elim
    exact trivial
  intro h377_
  obtain ⟨h378_, ⟨h379_, ⟨h380_, ⟨h381_, ⟨h382_, ⟨h383_, ⟨h384_, ⟨h385_, ⟨h386_, ⟨h387_, ⟨h388_, ⟨h389_, ⟨h390_, ⟨h391_, ⟨h392_, ⟨h393_, -⟩⟩⟩⟩⟩⟩⟩⟩⟩⟩⟩⟩⟩⟩⟩⟩ := (h234_ (la_object_59 h200_ h377_))
  refine ⟨?_, ?_⟩
  · skip
    refine ⟨h198_, ?_⟩
    refine ⟨h199_, ?_⟩
    refine ⟨h200_, ?_⟩
    refine ⟨h201_, ?_⟩
    intro h394_
    refine ⟨h379_, ?_⟩
    refine ⟨la_object_60, ?_⟩
    refine ⟨la_object_61, ?_⟩
    refine ⟨(sm_ci_18 (la_object_62 (sm_KC_n h23_).2.1.1 h27_ h28_ h385_ h386_ h388_ h389_ h390_ (sm_dl_18 : sm_dl 18 0 = 1) (sm_nt_18 : sm_nt 18 (g22 1046 0) (g22 1100023 (g22 1046 0)) (g22 1100023 (g22 1100023 (g22 1046 0))) = g22 1100023 (g22 1046 0)) (sm_nl_18 : sm_nl 18 (g22 1046 0) (g22 1100007 (g22 1046 0)) (g22 1100025 (g22 1046 0)) (g22 1100007 (g22 1100025 (g22 1046 0))) (g22 1100025 (g22 1100025 (g22 1046 0))) = g22 1100025 (g22 1046 0)))), ?_⟩
    refine ⟨la_object_63, ?_⟩
    intro h395_
    have h396_ := (h395_.resolve_left la_object_64)
    obtain ⟨h397_, ⟨h398_, ⟨h399_, ⟨h400_, ⟨h401_, ⟨h402_, ⟨h403_, ⟨h404_, ⟨h405_, ⟨h406_, ⟨h407_, ⟨h408_, ⟨h409_, h410_⟩⟩⟩⟩⟩⟩⟩⟩⟩⟩⟩⟩⟩ := (h99_ (la_object_65 h396_))
    have h411_ := (h27_ (la_object_66 h396_))
    have h412_ := (h28_ (la_object_66 h396_))
    have h413_ := (h90_ (la_object_67 h396_))
    obtain ⟨h414_, ⟨h415_, ⟨h416_, ⟨h417_, ⟨h418_, ⟨h419_, ⟨h420_, ⟨h421_, h422_⟩⟩⟩⟩⟩⟩⟩⟩ := (h314_.resolve_left (la_object_68 h396_))
    have h423_ := (h323_ (la_object_69 h396_))
    have h424_ := (h324_ (la_object_70 h396_))
    have h425_ := (h408_ (la_object_71 h396_))
    have h426_ := (h409_ (la_object_72 h396_))
    have h427_ := (h410_ la_object_28)
    have h428_ := (h413_.resolve_left (la_object_73 h396_))
    have h429_ := (h421_ (la_object_74 h396_))
    have h430_ := (h422_ (la_object_75 h396_))
    have h431_ := (h426_ (la_object_66 h396_))
    have h432_ := (h427_ la_object_30)
    have h433_ := (h430_ (la_object_76 h396_))
    have h434_ := (h431_ (la_object_77 h396_))
    have e435_ : S 1100001 (S 13 l2_23) = S 1100001 (S 12 (5 * l2_23)) := congrArg ((S 1100001)) (la_object_77 h396_)
    have e436_ : S 1100001 l2_23 = S 1100001 (S 12 (5 * l2_23)) := congrArg ((S 1100001)) (la_object_77 h396_)
    have e437_ : S 1100001 l2_23 = S 1100001 (S 13 l2_23) := congrArg ((S 1100001)) (la_object_77 h396_)
    have e438_ : S 1100001 p1 = S 1100001 (S 12 (5 * l2_23)) := congrArg ((S 1100001)) (la_object_77 h396_)
    have e439_ : S 1100001 p1 = S 1100001 (S 13 l2_23) := congrArg ((S 1100001)) (la_object_77 h396_)
    have e440_ : S 1100001 p1 = S 1100001 l2_23 := congrArg ((S 1100001)) (la_object_77 h396_)
    have e441_ : S 1100002 (S 12 (5 * l2_23 + 0)) = S 1100002 (S 12 (5 * l2_23)) := congrArg ((S 1100002)) (la_object_77 h396_)
    have e442_ : S 1100002 (S 13 l2_23) = S 1100002 (S 12 (5 * l2_23)) := congrArg ((S 1100002)) (la_object_77 h396_)
    have e443_ : S 1100002 (S 13 l2_23) = S 1100002 (S 12 (5 * l2_23 + 0)) := congrArg ((S 1100002)) (la_object_77 h396_)
    have e444_ : S 1100002 l2_23 = S 1100002 (S 12 (5 * l2_23)) := congrArg ((S 1100002)) (la_object_77 h396_)
    have e445_ : S 1100002 l2_23 = S 1100002 (S 12 (5 * l2_23 + 0)) := congrArg ((S 1100002)) (la_object_77 h396_)
    have e446_ : S 1100002 l2_23 = S 1100002 (S 13 l2_23) := congrArg ((S 1100002)) (la_object_77 h396_)
    have e447_ : S 1100002 p1 = S 1100002 (S 12 (5 * l2_23)) := congrArg ((S 1100002)) (la_object_77 h396_)
    have e448_ : S 1100002 p1 = S 1100002 (S 12 (5 * l2_23 + 0)) := congrArg ((S 1100002)) (la_object_77 h396_)
    have e449_ : S 1100002 p1 = S 1100002 (S 13 l2_23) := congrArg ((S 1100002)) (la_object_77 h396_)
    have e450_ : S 1100002 p1 = S 1100002 l2_23 := congrArg ((S 1100002)) (la_object_77 h396_)
    have e451_ : S 1100003 l2_23 = S 1100003 (S 13 l2_23) := congrArg ((S 1100003)) (la_object_77 h396_)
    have e452_ : S 1100004 l2_23 = S 1100004 (S 13 l2_23) := congrArg ((S 1100004)) (la_object_77 h396_)
    have e453_ : S 1100005 (S 12 (5 * l2_23 + 0)) = S 1100005 (S 12 (5 * l2_23)) := congrArg ((S 1100005)) (la_object_77 h396_)
    have e454_ : S 1100005 (S 13 l2_23) = S 1100005 (S 12 (5 * l2_23)) := congrArg ((S 1100005)) (la_object_77 h396_)
    have e455_ : S 1100005 (S 13 l2_23) = S 1100005 (S 12 (5 * l2_23 + 0)) := congrArg ((S 1100005)) (la_object_77 h396_)
    have e456_ : S 1100005 l2_23 = S 1100005 (S 12 (5 * l2_23)) := congrArg ((S 1100005)) (la_object_77 h396_)
    have e457_ : S 1100005 l2_23 = S 1100005 (S 12 (5 * l2_23 + 0)) := congrArg ((S 1100005)) (la_object_77 h396_)
    have e458_ : S 1100005 l2_23 = S 1100005 (S 13 l2_23) := congrArg ((S 1100005)) (la_object_77 h396_)
    have e459_ : S 1100005 p1 = S 1100005 (S 12 (5 * l2_23)) := congrArg ((S 1100005)) (la_object_77 h396_)
    have e460_ : S 1100005 p1 = S 1100005 (S 12 (5 * l2_23 + 0)) := congrArg ((S 1100005)) (la_object_77 h396_)
    have e461_ : S 1100005 p1 = S 1100005 (S 13 l2_23) := congrArg ((S 1100005)) (la_object_77 h396_)
    have e462_ : S 1100005 p1 = S 1100005 l2_23 := congrArg ((S 1100005)) (la_object_77 h396_)
    have e463_ : S 1100007 (S 1100023 (S 1046 0)) = S 1100007 (S 1046 0) := congrArg ((S 1100007)) (la_object_77 h396_)
    have e464_ : S 1100007 (S 1100023 (S 1100023 (S 1046 0))) = S 1100007 (S 1046 0) := congrArg ((S 1100007)) (la_object_77 h396_)
    have e465_ : S 1100007 (S 1100023 (S 1100023 (S 1046 0))) = S 1100007 (S 1100023 (S 1046 0)) := congrArg ((S 1100007)) (la_object_77 h396_)
    have e466_ : S 1100007 (S 1100025 (S 1046 0)) = S 1100007 (S 1046 0) := congrArg ((S 1100007)) (la_object_77 h396_)
    have e467_ : S 1100007 (S 1100025 (S 1046 0)) = S 1100007 (S 1100023 (S 1046 0)) := congrArg ((S 1100007)) (la_object_77 h396_)
    have e468_ : S 1100007 (S 1100025 (S 1046 0)) = S 1100007 (S 1100023 (S 1100023 (S 1046 0))) := congrArg ((S 1100007)) (la_object_77 h396_)
    have e469_ : S 1100007 (S 1100025 (S 1100025 (S 1046 0))) = S 1100007 (S 1046 0) := congrArg ((S 1100007)) (la_object_77 h396_)
    have e470_ : S 1100007 (S 1100025 (S 1100025 (S 1046 0))) = S 1100007 (S 1100023 (S 1046 0)) := congrArg ((S 1100007)) (la_object_77 h396_)
    have e471_ : S 1100007 (S 1100025 (S 1100025 (S 1046 0))) = S 1100007 (S 1100023 (S 1100023 (S 1046 0))) := congrArg ((S 1100007)) (la_object_77 h396_)
    have e472_ : S 1100007 (S 1100025 (S 1100025 (S 1046 0))) = S 1100007 (S 1100025 (S 1046 0)) := congrArg ((S 1100007)) (la_object_77 h396_)
    have e473_ : S 1100007 (g14 1046 0) = S 1100007 (S 1046 0) := congrArg ((S 1100007)) (la_object_77 h396_)
    have e474_ : S 1100007 (g14 1046 0) = S 1100007 (S 1100023 (S 1046 0)) := congrArg ((S 1100007)) (la_object_77 h396_)
    have e475_ : S 1100007 (g14 1046 0) = S 1100007 (S 1100023 (S 1100023 (S 1046 0))) := congrArg ((S 1100007)) (la_object_77 h396_)
    have e476_ : S 1100007 (g14 1046 0) = S 1100007 (S 1100025 (S 1046 0)) := congrArg ((S 1100007)) (la_object_77 h396_)
    have e477_ : S 1100007 (g14 1046 0) = S 1100007 (S 1100025 (S 1100025 (S 1046 0))) := congrArg ((S 1100007)) (la_object_77 h396_)
    have e478_ : S 1100007 (g14 1100023 (g14 1046 0)) = S 1100007 (S 1046 0) := congrArg ((S 1100007)) (la_object_77 h396_)
    have e479_ : S 1100007 (g14 1100023 (g14 1046 0)) = S 1100007 (S 1100023 (S 1046 0)) := congrArg ((S 1100007)) (la_object_77 h396_)
    have e480_ : S 1100007 (g14 1100023 (g14 1046 0)) = S 1100007 (S 1100023 (S 1100023 (S 1046 0))) := congrArg ((S 1100007)) (la_object_77 h396_)
    have e481_ : S 1100007 (g14 1100023 (g14 1046 0)) = S 1100007 (S 1100025 (S 1046 0)) := congrArg ((S 1100007)) (la_object_77 h396_)
    have e482_ : S 1100007 (g14 1100023 (g14 1046 0)) = S 1100007 (S 1100025 (S 1100025 (S 1046 0))) := congrArg ((S 1100007)) (la_object_77 h396_)
    have e483_ : S 1100007 (g14 1100023 (g14 1046 0)) = S 1100007 (g14 1046 0) := congrArg ((S 1100007)) (la_object_77 h396_)
    have e484_ : S 1100007 (g14 1100025 (g14 1046 0)) = S 1100007 (S 1046 0) := congrArg ((S 1100007)) (la_object_77 h396_)
    have e485_ : S 1100007 (g14 1100025 (g14 1046 0)) = S 1100007 (S 1100023 (S 1046 0)) := congrArg ((S 1100007)) (la_object_77 h396_)
    have e486_ : S 1100007 (g14 1100025 (g14 1046 0)) = S 1100007 (S 1100023 (S 1100023 (S 1046 0))) := congrArg ((S 1100007)) (la_object_77 h396_)
    have e487_ : S 1100007 (g14 1100025 (g14 1046 0)) = S 1100007 (S 1100025 (S 1046 0)) := congrArg ((S 1100007)) (la_object_77 h396_)
    have e488_ : S 1100007 (g14 1100025 (g14 1046 0)) = S 1100007 (S 1100025 (S 1100025 (S 1046 0))) := congrArg ((S 1100007)) (la_object_77 h396_)
    have e489_ : S 1100007 (g14 1100025 (g14 1046 0)) = S 1100007 (g14 1046 0) := congrArg ((S 1100007)) (la_object_77 h396_)
    have e490_ : S 1100007 (g14 1100025 (g14 1046 0)) = S 1100007 (g14 1100023 (g14 1046 0)) := congrArg ((S 1100007)) (la_object_77 h396_)
    have e491_ : S 1100007 (g22 1046 0) = S 1100007 (S 1046 0) := congrArg ((S 1100007)) (la_object_77 h396_)
    have e492_ : S 1100007 (g22 1046 0) = S 1100007 (S 1100023 (S 1046 0)) := congrArg ((S 1100007)) (la_object_77 h396_)
    have e493_ : S 1100007 (g22 1046 0) = S 1100007 (S 1100023 (S 1100023 (S 1046 0))) := congrArg ((S 1100007)) (la_object_77 h396_)
    have e494_ : S 1100007 (g22 1046 0) = S 1100007 (S 1100025 (S 1046 0)) := congrArg ((S 1100007)) (la_object_77 h396_)
    have e495_ : S 1100007 (g22 1046 0) = S 1100007 (S 1100025 (S 1100025 (S 1046 0))) := congrArg ((S 1100007)) (la_object_77 h396_)
    have e496_ : S 1100007 (g22 1046 0) = S 1100007 (g14 1046 0) := congrArg ((S 1100007)) (la_object_77 h396_)
    have e497_ : S 1100007 (g22 1046 0) = S 1100007 (g14 1100023 (g14 1046 0)) := congrArg ((S 1100007)) (la_object_77 h396_)
    have e498_ : S 1100007 (g22 1046 0) = S 1100007 (g14 1100025 (g14 1046 0)) := congrArg ((S 1100007)) (la_object_77 h396_)
    have e499_ : S 1100007 (g22 1100023 (g22 1046 0)) = S 1100007 (S 1046 0) := congrArg ((S 1100007)) (la_object_77 h396_)
    have e500_ : S 1100007 (g22 1100023 (g22 1046 0)) = S 1100007 (S 1100023 (S 1046 0)) := congrArg ((S 1100007)) h386_
    have e501_ : S 1100007 (g22 1100023 (g22 1046 0)) = S 1100007 (S 1100023 (S 1100023 (S 1046 0))) := congrArg ((S 1100007)) (la_object_77 h396_)
    have e502_ : S 1100007 (g22 1100023 (g22 1046 0)) = S 1100007 (S 1100025 (S 1046 0)) := congrArg ((S 1100007)) (la_object_77 h396_)
    have e503_ : S 1100007 (g22 1100023 (g22 1046 0)) = S 1100007 (S 1100025 (S 1100025 (S 1046 0))) := congrArg ((S 1100007)) (la_object_77 h396_)
    have e504_ : S 1100007 (g22 1100023 (g22 1046 0)) = S 1100007 (g14 1046 0) := congrArg ((S 1100007)) (la_object_77 h396_)
    have e505_ : S 1100007 (g22 1100023 (g22 1046 0)) = S 1100007 (g14 1100023 (g14 1046 0)) := congrArg ((S 1100007)) (la_object_77 h396_)
    have e506_ : S 1100007 (g22 1100023 (g22 1046 0)) = S 1100007 (g14 1100025 (g14 1046 0)) := congrArg ((S 1100007)) (la_object_77 h396_)
    have e507_ : S 1100007 (g22 1100023 (g22 1046 0)) = S 1100007 (g22 1046 0) := congrArg ((S 1100007)) (la_object_77 h396_)
    have e508_ : S 1100007 (g22 1100025 (g22 1046 0)) = S 1100007 (S 1046 0) := congrArg ((S 1100007)) (la_object_77 h396_)
    have e509_ : S 1100007 (g22 1100025 (g22 1046 0)) = S 1100007 (S 1100023 (S 1046 0)) := congrArg ((S 1100007)) (la_object_77 h396_)
    have e510_ : S 1100007 (g22 1100025 (g22 1046 0)) = S 1100007 (S 1100023 (S 1100023 (S 1046 0))) := congrArg ((S 1100007)) (la_object_77 h396_)
    have e511_ : S 1100007 (g22 1100025 (g22 1046 0)) = S 1100007 (S 1100025 (S 1046 0)) := congrArg ((S 1100007)) h388_
    have e512_ : S 1100007 (g22 1100025 (g22 1046 0)) = S 1100007 (S 1100025 (S 1100025 (S 1046 0))) := congrArg ((S 1100007)) (la_object_77 h396_)
    have e513_ : S 1100007 (g22 1100025 (g22 1046 0)) = S 1100007 (g14 1046 0) := congrArg ((S 1100007)) (la_object_77 h396_)
    have e514_ : S 1100007 (g22 1100025 (g22 1046 0)) = S 1100007 (g14 1100023 (g14 1046 0)) := congrArg ((S 1100007)) (la_object_77 h396_)
    have e515_ : S 1100007 (g22 1100025 (g22 1046 0)) = S 1100007 (g14 1100025 (g14 1046 0)) := congrArg ((S 1100007)) (la_object_77 h396_)
    have e516_ : S 1100007 (g22 1100025 (g22 1046 0)) = S 1100007 (g22 1046 0) := congrArg ((S 1100007)) (la_object_77 h396_)
    have e517_ : S 1100007 (g22 1100025 (g22 1046 0)) = S 1100007 (g22 1100023 (g22 1046 0)) := congrArg ((S 1100007)) (la_object_77 h396_)
    have e518_ : S 1100023 (S 1100023 (S 1046 0)) = S 1100023 (S 1046 0) := congrArg ((S 1100023)) (la_object_77 h396_)
    have e519_ : S 1100023 (g14 1046 0) = S 1100023 (S 1046 0) := congrArg ((S 1100023)) (la_object_77 h396_)
    have e520_ : S 1100023 (g14 1046 0) = S 1100023 (S 1100023 (S 1046 0)) := congrArg ((S 1100023)) (la_object_77 h396_)
    have e521_ : S 1100023 (g22 1046 0) = S 1100023 (S 1046 0) := congrArg ((S 1100023)) (la_object_77 h396_)
    have e522_ : S 1100023 (g22 1046 0) = S 1100023 (S 1100023 (S 1046 0)) := congrArg ((S 1100023)) (la_object_77 h396_)
    have e523_ : S 1100023 (g22 1046 0) = S 1100023 (g14 1046 0) := congrArg ((S 1100023)) (la_object_77 h396_)
    have e524_ : S 1100024 (g14 1046 0) = S 1100024 (S 1046 0) := congrArg ((S 1100024)) (la_object_77 h396_)
    have e525_ : S 1100024 (g22 1046 0) = S 1100024 (S 1046 0) := congrArg ((S 1100024)) (la_object_77 h396_)
    have e526_ : S 1100024 (g22 1046 0) = S 1100024 (g14 1046 0) := congrArg ((S 1100024)) (la_object_77 h396_)
    have e527_ : S 1100025 (S 1100025 (S 1046 0)) = S 1100025 (S 1046 0) := congrArg ((S 1100025)) (la_object_77 h396_)
    have e528_ : S 1100025 (g14 1046 0) = S 1100025 (S 1046 0) := congrArg ((S 1100025)) (la_object_77 h396_)
    have e529_ : S 1100025 (g14 1046 0) = S 1100025 (S 1100025 (S 1046 0)) := congrArg ((S 1100025)) (la_object_77 h396_)
    have e530_ : S 1100025 (g22 1046 0) = S 1100025 (S 1046 0) := congrArg ((S 1100025)) (la_object_77 h396_)
    have e531_ : S 1100025 (g22 1046 0) = S 1100025 (S 1100025 (S 1046 0)) := congrArg ((S 1100025)) (la_object_77 h396_)
    have e532_ : S 1100025 (g22 1046 0) = S 1100025 (g14 1046 0) := congrArg ((S 1100025)) (la_object_77 h396_)
    have e533_ : S 12 (5 * S 12 (5 * l2_23) + 1) = S 12 (5 * l2_23) := congrArg ((S 12)) (la_object_80 h396_)
    have e534_ : S 12 (5 * l2_23 + 0) = S 12 (5 * l2_23) := congrArg ((S 12)) la_object_56
    have e535_ : S 12 (5 * l2_23 + 0) = S 12 (5 * S 12 (5 * l2_23) + 1) := congrArg ((S 12)) (la_object_81 h396_)
    have e536_ : S 12 (5 * l2_23 + 1) = S 12 (5 * l2_23) := congrArg ((S 12)) (la_object_82 h396_)
    have e537_ : S 12 (5 * l2_23 + 1) = S 12 (5 * S 12 (5 * l2_23) + 1) := congrArg ((S 12)) (la_object_83 h396_)
    have e538_ : S 12 (5 * l2_23 + 1) = S 12 (5 * l2_23 + 0) := congrArg ((S 12)) (la_object_84 h396_)
    have e539_ : g14 1100007 (g14 1100023 (g14 1046 0)) = g14 1100007 (g14 1046 0) := congrArg ((g14 1100007)) (la_object_77 h396_)
    have e540_ : g14 1100007 (g14 1100025 (g14 1046 0)) = g14 1100007 (g14 1046 0) := congrArg ((g14 1100007)) (la_object_77 h396_)
    have e541_ : g14 1100007 (g14 1100025 (g14 1046 0)) = g14 1100007 (g14 1100023 (g14 1046 0)) := congrArg ((g14 1100007)) (la_object_77 h396_)
    have e542_ : g22 1100007 (g22 1100023 (g22 1046 0)) = g22 1100007 (g22 1046 0) := congrArg ((g22 1100007)) (la_object_77 h396_)
    have e543_ : g22 1100007 (g22 1100025 (g22 1046 0)) = g22 1100007 (g22 1046 0) := congrArg ((g22 1100007)) (la_object_77 h396_)
    have e544_ : g22 1100007 (g22 1100025 (g22 1046 0)) = g22 1100007 (g22 1100023 (g22 1046 0)) := congrArg ((g22 1100007)) (la_object_77 h396_)
    have e545_ : g22 1100023 (g22 1100023 (g22 1046 0)) = g22 1100023 (g22 1046 0) := congrArg ((g22 1100023)) (la_object_77 h396_)
    have e546_ : g22 1100025 (g22 1100025 (g22 1046 0)) = g22 1100025 (g22 1046 0) := congrArg ((g22 1100025)) (la_object_77 h396_)
    have e547_ : S 1100023 (g22 1100023 (g22 1046 0)) = S 1100023 (S 1046 0) := congrArg ((S 1100023)) (la_object_77 h396_)
    have e548_ : S 1100023 (g22 1100023 (g22 1046 0)) = S 1100023 (S 1100023 (S 1046 0)) := congrArg ((S 1100023)) h386_
    have e549_ : S 1100023 (g22 1100023 (g22 1046 0)) = S 1100023 (g14 1046 0) := congrArg ((S 1100023)) (la_object_77 h396_)
    have e550_ : S 1100023 (g22 1100023 (g22 1046 0)) = S 1100023 (g22 1046 0) := congrArg ((S 1100023)) (la_object_77 h396_)
    have e551_ : S 1100025 (g22 1100025 (g22 1046 0)) = S 1100025 (S 1046 0) := congrArg ((S 1100025)) (la_object_77 h396_)
    have e552_ : S 1100025 (g22 1100025 (g22 1046 0)) = S 1100025 (S 1100025 (S 1046 0)) := congrArg ((S 1100025)) h388_
    have e553_ : S 1100025 (g22 1100025 (g22 1046 0)) = S 1100025 (g14 1046 0) := congrArg ((S 1100025)) (la_object_77 h396_)
    have e554_ : S 1100025 (g22 1100025 (g22 1046 0)) = S 1100025 (g22 1046 0) := congrArg ((S 1100025)) (la_object_77 h396_)
    exact ((la_object_85 h396_)).elim
  refine ⟨(la_object_86 h229_ h235_ h280_ e284_), ?_⟩
  intro g40
  rintro ⟨h555_, ⟨h556_, ⟨h557_, ⟨h558_, ⟨h559_, ⟨h560_, ⟨h561_, ⟨h562_, ⟨h563_, ⟨h564_, ⟨h565_, ⟨h566_, ⟨h567_, ⟨h568_, ⟨h569_, ⟨h570_, h571_⟩⟩⟩⟩⟩⟩⟩⟩⟩⟩⟩⟩⟩⟩⟩⟩
  refine ⟨(la_object_88 h8_ h285_ h286_), ?_⟩
  refine ⟨?_, ?_⟩
  · skip
    refine ⟨(la_object_17 h557_), ?_⟩
    refine ⟨h560_, ?_⟩
    refine ⟨h555_, ?_⟩
    refine ⟨h556_, ?_⟩
    intro h572_
    obtain ⟨h573_, ⟨h574_, ⟨h575_, ⟨h576_, ⟨h577_, ⟨h578_, ⟨h579_, ⟨h580_, ⟨h581_, ⟨h582_, ⟨h583_, ⟨h584_, ⟨h585_, h586_⟩⟩⟩⟩⟩⟩⟩⟩⟩⟩⟩⟩⟩ := (h571_ h572_)
    have h587_ := (h586_ la_object_89)
    have h588_ := (h587_ la_object_91)
    refine ⟨h575_, ?_⟩
    refine ⟨la_object_92, ?_⟩
    refine ⟨la_object_93, ?_⟩
    refine ⟨(la_object_94 h308_ h309_), ?_⟩
    refine ⟨(la_object_95 h27_ h385_ h386_ h389_ h579_ (sm_dl_18 : sm_dl 18 0 = 1) h580_ (sm_nt_18 : sm_nt 18 (g22 1046 0) (g22 1100023 (g22 1046 0)) (g22 1100023 (g22 1100023 (g22 1046 0))) = g22 1100023 (g22 1046 0)) h583_ (sm_nt_18 : sm_nt 18 (g22 1100007 (g22 1046 0)) (g22 1100007 (g22 1100023 (g22 1046 0))) (g22 1100007 (g22 1100023 (g22 1100023 (g22 1046 0)))) = g22 1100007 (g22 1100023 (g22 1046 0)))), ?_⟩
    intro h589_
    have h590_ := (h28_ (la_object_96 h388_ h582_ (sm_nl_18 : sm_nl 18 (g22 1046 0) (g22 1100007 (g22 1046 0)) (g22 1100025 (g22 1046 0)) (g22 1100007 (g22 1100025 (g22 1046 0))) (g22 1100025 (g22 1100025 (g22 1046 0))) = g22 1100025 (g22 1046 0)) h589_))
    exact (la_object_97 h385_ h390_ h579_ (sm_dl_18 : sm_dl 18 0 = 1) h588_ h590_)
  intro g48
  rintro ⟨h591_, ⟨h592_, ⟨h593_, ⟨h594_, ⟨h595_, ⟨h596_, ⟨h597_, ⟨h598_, ⟨h599_, ⟨h600_, ⟨h601_, ⟨h602_, ⟨h603_, ⟨h604_, ⟨h605_, ⟨h606_, h607_⟩⟩⟩⟩⟩⟩⟩⟩⟩⟩⟩⟩⟩⟩⟩⟩
  refine ⟨(la_object_98 h8_ h285_ h286_), ?_⟩
  refine ⟨?_, ?_⟩
  · skip
    refine ⟨h3_, ?_⟩
    refine ⟨h4_, ?_⟩
    refine ⟨h5_, ?_⟩
    refine ⟨h6_, ?_⟩
    refine ⟨h7_, ?_⟩
    refine ⟨h8_, ?_⟩
    refine ⟨h9_, ?_⟩
    refine ⟨h10_, ?_⟩
    refine ⟨h11_, ?_⟩
    refine ⟨h12_, ?_⟩
    refine ⟨h13_, ?_⟩
    refine ⟨(la_object_17 h593_), ?_⟩
    refine ⟨h596_, ?_⟩
    refine ⟨h591_, ?_⟩
    refine ⟨h592_, ?_⟩
    refine ⟨h202_, ?_⟩
    refine ⟨h203_, ?_⟩
    refine ⟨?_, ?_⟩
    · skip
      have e608_ : S 1100007 (g22 1100023 (g22 1046 0)) = S 1100007 (S 1100023 (S 1046 0)) := congrArg ((S 1100007)) h386_
      have e609_ : S 1100007 (g22 1100025 (g22 1046 0)) = S 1100007 (S 1100025 (S 1046 0)) := congrArg ((S 1100007)) h388_
      have e610_ : S 12 (5 * l2_23 + 0) = S 12 (5 * l2_23) := congrArg ((S 12)) la_object_56
      exact (la_object_100 (sm_ex_e h304_).1 e610_)
    refine ⟨?_, ?_⟩
    · skip
      have e611_ : S 1100007 (g22 1100023 (g22 1046 0)) = S 1100007 (S 1100023 (S 1046 0)) := congrArg ((S 1100007)) h386_
      have e612_ : S 1100007 (g22 1100025 (g22 1046 0)) = S 1100007 (S 1100025 (S 1046 0)) := congrArg ((S 1100007)) h388_
      have e613_ : S 12 (5 * l2_23 + 0) = S 12 (5 * l2_23) := congrArg ((S 12)) la_object_56
      exact (la_object_101 (sm_ex_e h304_).2.1 e613_)
    refine ⟨?_, ?_⟩
    · skip
      have e614_ : S 1100007 (g22 1100023 (g22 1046 0)) = S 1100007 (S 1100023 (S 1046 0)) := congrArg ((S 1100007)) h386_
      have e615_ : S 1100007 (g22 1100025 (g22 1046 0)) = S 1100007 (S 1100025 (S 1046 0)) := congrArg ((S 1100007)) h388_
      have e616_ : S 12 (5 * l2_23 + 0) = S 12 (5 * l2_23) := congrArg ((S 12)) la_object_56
      have e617_ : S 1100001 (S 12 (5 * l2_23 + 0)) = S 1100001 (S 12 (5 * l2_23)) := congrArg ((S 1100001)) e616_
      have e618_ : S 1100002 (S 12 (5 * l2_23 + 0)) = S 1100002 (S 12 (5 * l2_23)) := congrArg ((S 1100002)) e616_
      have e619_ : S 1100005 (S 12 (5 * l2_23 + 0)) = S 1100005 (S 12 (5 * l2_23)) := congrArg ((S 1100005)) e616_
      exact (la_object_102 (sm_ex_e h304_).2.2.1 e617_)
    refine ⟨?_, ?_⟩
    · skip
      have e620_ : S 1100007 (g22 1100023 (g22 1046 0)) = S 1100007 (S 1100023 (S 1046 0)) := congrArg ((S 1100007)) h386_
      have e621_ : S 1100007 (g22 1100025 (g22 1046 0)) = S 1100007 (S 1100025 (S 1046 0)) := congrArg ((S 1100007)) h388_
      have e622_ : S 12 (5 * l2_23 + 0) = S 12 (5 * l2_23) := congrArg ((S 12)) la_object_56
      exact (sm_LF_w h282_ sm_F1_rf (Int.le_refl _) (Int.le_refl _) h203_ (la_object_104 h8_ h288_ (sm_ex_e h304_).2.1 (sm_ex_e h304_).2.2.2.1 h327_ e622_))
    intro h623_
    have h624_ : ¬ (g40 1047 0 = 1) := fun q_ => (la_object_15 h623_) (h597_ q_)
    obtain ⟨h625_, ⟨h626_, ⟨h627_, ⟨h628_, ⟨h629_, ⟨h630_, ⟨h631_, ⟨h632_, ⟨h633_, ⟨h634_, ⟨h635_, ⟨h636_, ⟨h637_, h638_⟩⟩⟩⟩⟩⟩⟩⟩⟩⟩⟩⟩⟩ := (h607_ h623_)
    have h639_ := (h638_ la_object_105)
    obtain ⟨h640_, ⟨h641_, ⟨h642_, ⟨h643_, ⟨h644_, ⟨h645_, ⟨h646_, ⟨h647_, ⟨h648_, ⟨h649_, ⟨h650_, ⟨h651_, ⟨h652_, h653_⟩⟩⟩⟩⟩⟩⟩⟩⟩⟩⟩⟩⟩ := (h571_ h625_)
    have h654_ := (h639_ la_object_107)
    have h655_ := (h653_ la_object_89)
    have h656_ := (h655_ la_object_91)
    refine ⟨h627_, ?_⟩
    refine ⟨h380_, ?_⟩
    refine ⟨h381_, ?_⟩
    refine ⟨(la_object_108 h382_ h626_ h641_), ?_⟩
    refine ⟨(la_object_109 h27_ h385_ h386_ h389_ h631_ (sm_dl_0 : sm_dl 0 6 = 1) h632_ (sm_nt_0 : sm_nt 0 (g40 1046 0) (g40 1100023 (g40 1046 0)) (g40 1100023 (g40 1100023 (g40 1046 0))) = g40 1100023 (g40 1046 0)) h635_ (sm_nt_0 : sm_nt 0 (g40 1100007 (g40 1046 0)) (g40 1100007 (g40 1100023 (g40 1046 0))) (g40 1100007 (g40 1100023 (g40 1100023 (g40 1046 0)))) = g40 1100007 (g40 1100023 (g40 1046 0))) h646_ (sm_dl_18 : sm_dl 18 0 = 1) h647_ (sm_nt_18 : sm_nt 18 (g22 1046 0) (g22 1100023 (g22 1046 0)) (g22 1100023 (g22 1100023 (g22 1046 0))) = g22 1100023 (g22 1046 0)) h650_ (sm_nt_18 : sm_nt 18 (g22 1100007 (g22 1046 0)) (g22 1100007 (g22 1100023 (g22 1046 0))) (g22 1100007 (g22 1100023 (g22 1100023 (g22 1046 0)))) = g22 1100007 (g22 1100023 (g22 1046 0)))), ?_⟩
    refine ⟨(la_object_110 h28_ h385_ h388_ h390_ h631_ (sm_dl_0 : sm_dl 0 6 = 1) h634_ (sm_nl_0 : sm_nl 0 (g40 1046 0) (g40 1100007 (g40 1046 0)) (g40 1100025 (g40 1046 0)) (g40 1100007 (g40 1100025 (g40 1046 0))) (g40 1100025 (g40 1100025 (g40 1046 0))) = g40 1100025 (g40 1046 0)) h646_ (sm_dl_18 : sm_dl 18 0 = 1) h649_ (sm_nl_18 : sm_nl 18 (g22 1046 0) (g22 1100007 (g22 1046 0)) (g22 1100025 (g22 1046 0)) (g22 1100007 (g22 1100025 (g22 1046 0))) (g22 1100025 (g22 1100025 (g22 1046 0))) = g22 1100025 (g22 1046 0)) h654_ h656_), ?_⟩
    refine ⟨(la_object_111 h29_ h383_ h385_ h626_ h631_ (sm_dl_0 : sm_dl 0 6 = 1) h641_ h646_ (sm_dl_18 : sm_dl 18 0 = 1)), ?_⟩
    exact (la_object_112 h30_ e284_ h288_ (sm_ex_e h304_).2.2.2.1 h327_ h393_ h626_ h641_)
  refine ⟨?_, ?_⟩
  · skip
    refine ⟨?_, ?_⟩
    · skip
      have e657_ : S 1100007 (g22 1100023 (g22 1046 0)) = S 1100007 (S 1100023 (S 1046 0)) := congrArg ((S 1100007)) h386_
      have e658_ : S 1100007 (g22 1100025 (g22 1046 0)) = S 1100007 (S 1100025 (S 1046 0)) := congrArg ((S 1100007)) h388_
      have e659_ : S 12 (5 * l2_23 + 0) = S 12 (5 * l2_23) := congrArg ((S 12)) la_object_56
      have e660_ : S 1100002 (S 12 (5 * l2_23 + 0)) = S 1100002 (S 12 (5 * l2_23)) := congrArg ((S 1100002)) e659_
      have e661_ : S 1100005 (S 12 (5 * l2_23 + 0)) = S 1100005 (S 12 (5 * l2_23)) := congrArg ((S 1100005)) e659_
      by_cases c662_ : g48 1047 0 = 0
      · skip
        have e663_ : (if g48 1047 0 = 0 then S 1100002 (S 12 (5 * l2_23 + 0)) + (600 - g48 1046 0) + 8 else 4 : Int) = S 1100002 (S 12 (5 * l2_23 + 0)) + (600 - g48 1046 0) + 8 := if_pos c662_
        have h664_ : ¬ (g40 1047 0 = 1) := fun q_ => (la_object_15 c662_) (h597_ q_)
        obtain ⟨h665_, ⟨h666_, ⟨h667_, ⟨h668_, ⟨h669_, ⟨h670_, ⟨h671_, ⟨h672_, ⟨h673_, ⟨h674_, ⟨h675_, ⟨h676_, ⟨h677_, h678_⟩⟩⟩⟩⟩⟩⟩⟩⟩⟩⟩⟩⟩ := (h607_ c662_)
        have h679_ := (h678_ la_object_105)
        obtain ⟨h680_, ⟨h681_, ⟨h682_, ⟨h683_, ⟨h684_, ⟨h685_, ⟨h686_, ⟨h687_, ⟨h688_, ⟨h689_, ⟨h690_, ⟨h691_, ⟨h692_, h693_⟩⟩⟩⟩⟩⟩⟩⟩⟩⟩⟩⟩⟩ := (h571_ h665_)
        have h694_ := (h679_ la_object_107)
        have h695_ := (h693_ la_object_89)
        have h696_ := (h695_ la_object_91)
        exact (la_object_113 h322_ h327_ h596_ e663_)
      · skip
        have e697_ : (if g48 1047 0 = 0 then S 1100002 (S 12 (5 * l2_23 + 0)) + (600 - g48 1046 0) + 8 else 4 : Int) = 4 := if_neg c662_
        have h698_ := (h598_ (la_object_114 h592_ (la_object_55 h591_ c662_)))
        exact (la_object_115 e697_)
    have e699_ : S 1100007 (g22 1100023 (g22 1046 0)) = S 1100007 (S 1100023 (S 1046 0)) := congrArg ((S 1100007)) h386_
    have e700_ : S 1100007 (g22 1100025 (g22 1046 0)) = S 1100007 (S 1100025 (S 1046 0)) := congrArg ((S 1100007)) h388_
    have e701_ : S 12 (5 * l2_23 + 0) = S 12 (5 * l2_23) := congrArg ((S 12)) la_object_56
    have e702_ : S 1100002 (S 12 (5 * l2_23 + 0)) = S 1100002 (S 12 (5 * l2_23)) := congrArg ((S 1100002)) e701_
    have e703_ : S 1100005 (S 12 (5 * l2_23 + 0)) = S 1100005 (S 12 (5 * l2_23)) := congrArg ((S 1100005)) e701_
    by_cases c704_ : g14 1047 0 = 1
    · skip
      have h705_ := (h90_ c704_)
      have h706_ := (h705_.resolve_left (la_object_15 h22_))
      obtain ⟨h707_, ⟨h708_, ⟨h709_, ⟨h710_, ⟨h711_, ⟨h712_, ⟨h713_, ⟨h714_, ⟨h715_, ⟨h716_, ⟨h717_, ⟨h718_, ⟨h719_, h720_⟩⟩⟩⟩⟩⟩⟩⟩⟩⟩⟩⟩⟩ := (h571_ (la_object_116 h199_ h383_ h555_ h706_))
      obtain ⟨h721_, ⟨h722_, ⟨h723_, ⟨h724_, ⟨h725_, ⟨h726_, ⟨h727_, ⟨h728_, ⟨h729_, ⟨h730_, ⟨h731_, ⟨h732_, ⟨h733_, h734_⟩⟩⟩⟩⟩⟩⟩⟩⟩⟩⟩⟩⟩ := (h607_ (la_object_117 h383_ h560_ h706_ h708_))
      have e735_ : (if g48 1047 0 = 0 then S 1100002 (S 12 (5 * l2_23 + 0)) + (600 - g48 1046 0) + 8 else 4 : Int) = S 1100002 (S 12 (5 * l2_23 + 0)) + (600 - g48 1046 0) + 8 := if_pos (la_object_118 h383_ h596_ h706_ h708_ h722_)
      have h736_ := (h27_ (la_object_119 h383_ h560_ h706_ h708_))
      have h737_ := (h28_ (la_object_119 h383_ h560_ h706_ h708_))
      have h738_ := (h562_ (la_object_120 h383_ h596_ h706_ h708_ h721_ h722_))
      have h739_ := (h597_ (la_object_120 h383_ h596_ h706_ h708_ h721_ h722_))
      have h740_ := (h598_ h739_)
      have h741_ := (h720_ la_object_89)
      have h742_ := (h734_ la_object_105)
      have h743_ := (h738_.resolve_left (la_object_121 h383_ h596_ h706_ h708_ h722_))
      have h744_ := (h740_.resolve_left (la_object_121 h383_ h596_ h706_ h708_ h722_))
      have h745_ := (h741_ la_object_91)
      have h746_ := (h742_ la_object_107)
      exact (la_object_122 h383_ h596_ h706_ h708_ h722_)
    · skip
      obtain ⟨h747_, ⟨h748_, ⟨h749_, ⟨h750_, ⟨h751_, ⟨h752_, ⟨h753_, ⟨h754_, ⟨h755_, ⟨h756_, ⟨h757_, ⟨h758_, ⟨h759_, h760_⟩⟩⟩⟩⟩⟩⟩⟩⟩⟩⟩⟩⟩ := (h99_ (la_object_27 h83_ (la_object_26 h84_ c704_)))
      have h761_ := (h760_ la_object_28)
      have h762_ := (h761_ la_object_30)
      have e763_ : S 1100007 (g14 1100023 (g14 1046 0)) = S 1100007 (S 1100023 (S 1046 0)) := congrArg ((S 1100007)) (la_object_32 h754_ (sm_nt_7 : sm_nt 7 (S 1046 0) (S 1100023 (S 1046 0)) (S 1100023 (S 1100023 (S 1046 0))) = S 1100023 (S 1046 0)))
      have e764_ : S 1100007 (g14 1100025 (g14 1046 0)) = S 1100007 (S 1100025 (S 1046 0)) := congrArg ((S 1100007)) (la_object_32 h756_ (sm_nl_7 : sm_nl 7 (S 1046 0) (S 1100007 (S 1046 0)) (S 1100025 (S 1046 0)) (S 1100007 (S 1100025 (S 1046 0))) (S 1100025 (S 1100025 (S 1046 0))) = S 1100025 (S 1046 0)))
      have e765_ : S 1100007 (g22 1100023 (g22 1046 0)) = S 1100007 (g14 1100023 (g14 1046 0)) := congrArg ((S 1100007)) (la_object_123 h386_ h754_ (sm_nt_7 : sm_nt 7 (S 1046 0) (S 1100023 (S 1046 0)) (S 1100023 (S 1100023 (S 1046 0))) = S 1100023 (S 1046 0)))
      have e766_ : S 1100007 (g22 1100025 (g22 1046 0)) = S 1100007 (g14 1100025 (g14 1046 0)) := congrArg ((S 1100007)) (la_object_123 h388_ h756_ (sm_nl_7 : sm_nl 7 (S 1046 0) (S 1100007 (S 1046 0)) (S 1100025 (S 1046 0)) (S 1100007 (S 1100025 (S 1046 0))) (S 1100025 (S 1100025 (S 1046 0))) = S 1100025 (S 1046 0)))
      by_cases c767_ : g48 1047 0 = 0
      · skip
        have e768_ : (if g48 1047 0 = 0 then S 1100002 (S 12 (5 * l2_23 + 0)) + (600 - g48 1046 0) + 8 else 4 : Int) = S 1100002 (S 12 (5 * l2_23 + 0)) + (600 - g48 1046 0) + 8 := if_pos c767_
        have h769_ : ¬ (g40 1047 0 = 1) := fun q_ => (la_object_15 c767_) (h597_ q_)
        obtain ⟨h770_, ⟨h771_, ⟨h772_, ⟨h773_, ⟨h774_, ⟨h775_, ⟨h776_, ⟨h777_, ⟨h778_, ⟨h779_, ⟨h780_, ⟨h781_, ⟨h782_, h783_⟩⟩⟩⟩⟩⟩⟩⟩⟩⟩⟩⟩⟩ := (h607_ c767_)
        have h784_ := (h783_ la_object_105)
        obtain ⟨h785_, ⟨h786_, ⟨h787_, ⟨h788_, ⟨h789_, ⟨h790_, ⟨h791_, ⟨h792_, ⟨h793_, ⟨h794_, ⟨h795_, ⟨h796_, ⟨h797_, h798_⟩⟩⟩⟩⟩⟩⟩⟩⟩⟩⟩⟩⟩ := (h571_ h770_)
        have h799_ := (h784_ la_object_107)
        have h800_ := (h798_ la_object_89)
        have h801_ := (h800_ la_object_91)
        exact (la_object_124 h31_ e284_ h288_ (sm_ex_e h304_).2.2.2.1 h327_ h383_ e768_ h771_ h786_)
      · skip
        have e802_ : (if g48 1047 0 = 0 then S 1100002 (S 12 (5 * l2_23 + 0)) + (600 - g48 1046 0) + 8 else 4 : Int) = 4 := if_neg c767_
        have h803_ := (h598_ (la_object_114 h592_ (la_object_55 h591_ c767_)))
        exact (la_object_125 h31_ h88_ h280_ e284_ h748_ e802_)
  refine ⟨?_, ?_⟩
  · skip
    refine ⟨?_, ?_⟩
    · skip
      have e804_ : S 1100007 (g22 1100023 (g22 1046 0)) = S 1100007 (S 1100023 (S 1046 0)) := congrArg ((S 1100007)) h386_
      have e805_ : S 1100007 (g22 1100025 (g22 1046 0)) = S 1100007 (S 1100025 (S 1046 0)) := congrArg ((S 1100007)) h388_
      have e806_ : S 12 (5 * l2_23 + 0) = S 12 (5 * l2_23) := congrArg ((S 12)) la_object_56
      have e807_ : S 1100002 (S 12 (5 * l2_23 + 0)) = S 1100002 (S 12 (5 * l2_23)) := congrArg ((S 1100002)) e806_
      have e808_ : S 1100005 (S 12 (5 * l2_23 + 0)) = S 1100005 (S 12 (5 * l2_23)) := congrArg ((S 1100005)) e806_
      by_cases c809_ : g48 1047 0 = 0
      · skip
        have e810_ : (if g48 1047 0 = 0 then S 1100002 (S 12 (5 * l2_23 + 0)) + (600 - g48 1046 0) + 8 else 4 : Int) = S 1100002 (S 12 (5 * l2_23 + 0)) + (600 - g48 1046 0) + 8 := if_pos c809_
        have h811_ : ¬ (g40 1047 0 = 1) := fun q_ => (la_object_15 c809_) (h597_ q_)
        obtain ⟨h812_, ⟨h813_, ⟨h814_, ⟨h815_, ⟨h816_, ⟨h817_, ⟨h818_, ⟨h819_, ⟨h820_, ⟨h821_, ⟨h822_, ⟨h823_, ⟨h824_, h825_⟩⟩⟩⟩⟩⟩⟩⟩⟩⟩⟩⟩⟩ := (h607_ c809_)
        have h826_ := (h825_ la_object_105)
        obtain ⟨h827_, ⟨h828_, ⟨h829_, ⟨h830_, ⟨h831_, ⟨h832_, ⟨h833_, ⟨h834_, ⟨h835_, ⟨h836_, ⟨h837_, ⟨h838_, ⟨h839_, h840_⟩⟩⟩⟩⟩⟩⟩⟩⟩⟩⟩⟩⟩ := (h571_ h812_)
        have h841_ := (h826_ la_object_107)
        have h842_ := (h840_ la_object_89)
        have h843_ := (h842_ la_object_91)
        exact (la_object_113 h322_ h327_ h596_ e810_)
      · skip
        have e844_ : (if g48 1047 0 = 0 then S 1100002 (S 12 (5 * l2_23 + 0)) + (600 - g48 1046 0) + 8 else 4 : Int) = 4 := if_neg c809_
        have h845_ := (h598_ (la_object_114 h592_ (la_object_55 h591_ c809_)))
        exact (la_object_115 e844_)
    have e846_ : S 1100007 (g22 1100023 (g22 1046 0)) = S 1100007 (S 1100023 (S 1046 0)) := congrArg ((S 1100007)) h386_
    have e847_ : S 1100007 (g22 1100025 (g22 1046 0)) = S 1100007 (S 1100025 (S 1046 0)) := congrArg ((S 1100007)) h388_
    have e848_ : S 12 (5 * l2_23 + 0) = S 12 (5 * l2_23) := congrArg ((S 12)) la_object_56
    have e849_ : S 1100002 (S 12 (5 * l2_23 + 0)) = S 1100002 (S 12 (5 * l2_23)) := congrArg ((S 1100002)) e848_
    have e850_ : S 1100005 (S 12 (5 * l2_23 + 0)) = S 1100005 (S 12 (5 * l2_23)) := congrArg ((S 1100005)) e848_
    by_cases c851_ : g14 1047 0 = 1
    · skip
      have h852_ := (h90_ c851_)
      have h853_ := (h852_.resolve_left (la_object_15 h22_))
      obtain ⟨h854_, ⟨h855_, ⟨h856_, ⟨h857_, ⟨h858_, ⟨h859_, ⟨h860_, ⟨h861_, ⟨h862_, ⟨h863_, ⟨h864_, ⟨h865_, ⟨h866_, h867_⟩⟩⟩⟩⟩⟩⟩⟩⟩⟩⟩⟩⟩ := (h571_ (la_object_116 h199_ h383_ h555_ h853_))
      obtain ⟨h868_, ⟨h869_, ⟨h870_, ⟨h871_, ⟨h872_, ⟨h873_, ⟨h874_, ⟨h875_, ⟨h876_, ⟨h877_, ⟨h878_, ⟨h879_, ⟨h880_, h881_⟩⟩⟩⟩⟩⟩⟩⟩⟩⟩⟩⟩⟩ := (h607_ (la_object_117 h383_ h560_ h853_ h855_))
      have e882_ : (if g48 1047 0 = 0 then S 1100002 (S 12 (5 * l2_23 + 0)) + (600 - g48 1046 0) + 8 else 4 : Int) = S 1100002 (S 12 (5 * l2_23 + 0)) + (600 - g48 1046 0) + 8 := if_pos (la_object_118 h383_ h596_ h853_ h855_ h869_)
      have h883_ := (h27_ (la_object_119 h383_ h560_ h853_ h855_))
      have h884_ := (h28_ (la_object_119 h383_ h560_ h853_ h855_))
      have h885_ := (h562_ (la_object_120 h383_ h596_ h853_ h855_ h868_ h869_))
      have h886_ := (h597_ (la_object_120 h383_ h596_ h853_ h855_ h868_ h869_))
      have h887_ := (h598_ h886_)
      have h888_ := (h867_ la_object_89)
      have h889_ := (h881_ la_object_105)
      have h890_ := (h885_.resolve_left (la_object_121 h383_ h596_ h853_ h855_ h869_))
      have h891_ := (h887_.resolve_left (la_object_121 h383_ h596_ h853_ h855_ h869_))
      have h892_ := (h888_ la_object_91)
      have h893_ := (h889_ la_object_107)
      exact (la_object_126 h383_ h596_ h853_ h855_ h869_)
    · skip
      obtain ⟨h894_, ⟨h895_, ⟨h896_, ⟨h897_, ⟨h898_, ⟨h899_, ⟨h900_, ⟨h901_, ⟨h902_, ⟨h903_, ⟨h904_, ⟨h905_, ⟨h906_, h907_⟩⟩⟩⟩⟩⟩⟩⟩⟩⟩⟩⟩⟩ := (h99_ (la_object_27 h83_ (la_object_26 h84_ c851_)))
      have h908_ := (h907_ la_object_28)
      have h909_ := (h908_ la_object_30)
      have e910_ : S 1100007 (g14 1100023 (g14 1046 0)) = S 1100007 (S 1100023 (S 1046 0)) := congrArg ((S 1100007)) (la_object_32 h901_ (sm_nt_7 : sm_nt 7 (S 1046 0) (S 1100023 (S 1046 0)) (S 1100023 (S 1100023 (S 1046 0))) = S 1100023 (S 1046 0)))
      have e911_ : S 1100007 (g14 1100025 (g14 1046 0)) = S 1100007 (S 1100025 (S 1046 0)) := congrArg ((S 1100007)) (la_object_32 h903_ (sm_nl_7 : sm_nl 7 (S 1046 0) (S 1100007 (S 1046 0)) (S 1100025 (S 1046 0)) (S 1100007 (S 1100025 (S 1046 0))) (S 1100025 (S 1100025 (S 1046 0))) = S 1100025 (S 1046 0)))
      have e912_ : S 1100007 (g22 1100023 (g22 1046 0)) = S 1100007 (g14 1100023 (g14 1046 0)) := congrArg ((S 1100007)) (la_object_123 h386_ h901_ (sm_nt_7 : sm_nt 7 (S 1046 0) (S 1100023 (S 1046 0)) (S 1100023 (S 1100023 (S 1046 0))) = S 1100023 (S 1046 0)))
      have e913_ : S 1100007 (g22 1100025 (g22 1046 0)) = S 1100007 (g14 1100025 (g14 1046 0)) := congrArg ((S 1100007)) (la_object_123 h388_ h903_ (sm_nl_7 : sm_nl 7 (S 1046 0) (S 1100007 (S 1046 0)) (S 1100025 (S 1046 0)) (S 1100007 (S 1100025 (S 1046 0))) (S 1100025 (S 1100025 (S 1046 0))) = S 1100025 (S 1046 0)))
      by_cases c948_ : g48 1047 0 = 0
      · skip
        have e949_ : (if g48 1047 0 = 0 then S 1100002 (S 12 (5 * l2_23 + 0)) + (600 - g48 1046 0) + 8 else 4 : Int) = S 1100002 (S 12 (5 * l2_23 + 0)) + (600 - g48 1046 0) + 8 := if_pos c948_
        have h950_ : ¬ (g40 1047 0 = 1) := fun q_ => (la_object_15 c948_) (h597_ q_)
        obtain ⟨h951_, ⟨h952_, ⟨h953_, ⟨h954_, ⟨h955_, ⟨h956_, ⟨h957_, ⟨h958_, ⟨h959_, ⟨h960_, ⟨h961_, ⟨h962_, ⟨h963_, h964_⟩⟩⟩⟩⟩⟩⟩⟩⟩⟩⟩⟩⟩ := (h607_ c948_)
        have h965_ := (h964_ la_object_105)
        obtain ⟨h966_, ⟨h967_, ⟨h968_, ⟨h969_, ⟨h970_, ⟨h971_, ⟨h972_, ⟨h973_, ⟨h974_, ⟨h975_, ⟨h976_, ⟨h977_, ⟨h978_, h979_⟩⟩⟩⟩⟩⟩⟩⟩⟩⟩⟩⟩⟩ := (h571_ h951_)
        have h980_ := (h965_ la_object_107)
        have h981_ := (h979_ la_object_89)
        have h982_ := (h981_ la_object_91)
        exact (la_object_132 e284_ h288_ (sm_ex_e h304_).2.2.2.1 h327_ h383_ e949_ h952_ h967_)
      · skip
        have e983_ : (if g48 1047 0 = 0 then S 1100002 (S 12 (5 * l2_23 + 0)) + (600 - g48 1046 0) + 8 else 4 : Int) = 4 := if_neg c948_
        have h984_ := (h598_ (la_object_114 h592_ (la_object_55 h591_ c948_)))
        exact (la_object_127 h229_ h235_ h280_ e284_ e983_)
  intro g58
  rintro ⟨h985_, ⟨h986_, ⟨h987_, ⟨h988_, ⟨h989_, ⟨h990_, ⟨h991_, ⟨h992_, ⟨h993_, ⟨h994_, ⟨h995_, ⟨h996_, ⟨h997_, ⟨h998_, ⟨h999_, ⟨h1000_, ⟨h1001_, ⟨h1002_, ⟨h1003_, ⟨h1004_, ⟨h1005_, ⟨h1006_, ⟨h1007_, ⟨h1008_, ⟨h1009_, ⟨h1010_, ⟨h1011_, h1012_⟩⟩⟩⟩⟩⟩⟩⟩⟩⟩⟩⟩⟩⟩⟩⟩⟩⟩⟩⟩⟩⟩⟩⟩⟩⟩⟩
  refine ⟨?_, ?_⟩
  · skip
    refine ⟨h985_, ?_⟩
    refine ⟨h986_, ?_⟩
    refine ⟨h987_, ?_⟩
    refine ⟨h988_, ?_⟩
    intro h1013_
    have h1014_ : ¬ (g48 1047 0 = 1) := fun q_ => (la_object_15 h1013_) (h992_ q_)
    obtain ⟨h1015_, ⟨h1016_, ⟨h1017_, ⟨h1018_, ⟨h1019_, ⟨h1020_, ⟨h1021_, ⟨h1022_, ⟨h1023_, ⟨h1024_, ⟨h1025_, ⟨h1026_, ⟨h1027_, ⟨h1028_, ⟨h1029_, ⟨h1030_, -⟩⟩⟩⟩⟩⟩⟩⟩⟩⟩⟩⟩⟩⟩⟩⟩ := (h1012_ h1013_)
    have h1031_ : ¬ (g40 1047 0 = 1) := fun q_ => h1014_ (h597_ q_)
    have h1032_ := (h1011_ h1015_)
    obtain ⟨h1033_, ⟨h1034_, ⟨h1035_, ⟨h1036_, ⟨h1037_, ⟨h1038_, ⟨h1039_, ⟨h1040_, ⟨h1041_, ⟨h1042_, ⟨h1043_, ⟨h1044_, ⟨h1045_, h1046_⟩⟩⟩⟩⟩⟩⟩⟩⟩⟩⟩⟩⟩ := (h607_ h1015_)
    have h1047_ := (h1046_ la_object_105)
    obtain ⟨h1048_, ⟨h1049_, ⟨h1050_, ⟨h1051_, ⟨h1052_, ⟨h1053_, ⟨h1054_, ⟨h1055_, ⟨h1056_, ⟨h1057_, ⟨h1058_, ⟨h1059_, ⟨h1060_, h1061_⟩⟩⟩⟩⟩⟩⟩⟩⟩⟩⟩⟩⟩ := (h571_ h1033_)
    have h1062_ := (h1047_ la_object_107)
    have h1063_ := (h1061_ la_object_89)
    have h1064_ := (h1063_ la_object_91)
    refine ⟨h1016_, ?_⟩
    refine ⟨la_object_133, ?_⟩
    refine ⟨la_object_134, ?_⟩
    refine ⟨(sm_ci_11 (la_object_135 (sm_KC_n h23_).2.1.1 h27_ h28_ h385_ h386_ h388_ h389_ h390_ h1022_ h1023_ h1025_ h1026_ h1027_ h1039_ (sm_dl_0 : sm_dl 0 6 = 1) h1040_ (sm_nt_0 : sm_nt 0 (g40 1046 0) (g40 1100023 (g40 1046 0)) (g40 1100023 (g40 1100023 (g40 1046 0))) = g40 1100023 (g40 1046 0)) h1042_ (sm_nl_0 : sm_nl 0 (g40 1046 0) (g40 1100007 (g40 1046 0)) (g40 1100025 (g40 1046 0)) (g40 1100007 (g40 1100025 (g40 1046 0))) (g40 1100025 (g40 1100025 (g40 1046 0))) = g40 1100025 (g40 1046 0)) h1043_ (sm_nt_0 : sm_nt 0 (g40 1100007 (g40 1046 0)) (g40 1100007 (g40 1100023 (g40 1046 0))) (g40 1100007 (g40 1100023 (g40 1100023 (g40 1046 0)))) = g40 1100007 (g40 1100023 (g40 1046 0))) h1054_ (sm_dl_18 : sm_dl 18 0 = 1) h1055_ (sm_nt_18 : sm_nt 18 (g22 1046 0) (g22 1100023 (g22 1046 0)) (g22 1100023 (g22 1100023 (g22 1046 0))) = g22 1100023 (g22 1046 0)) h1057_ (sm_nl_18 : sm_nl 18 (g22 1046 0) (g22 1100007 (g22 1046 0)) (g22 1100025 (g22 1046 0)) (g22 1100007 (g22 1100025 (g22 1046 0))) (g22 1100025 (g22 1100025 (g22 1046 0))) = g22 1100025 (g22 1046 0)) h1058_ (sm_nt_18 : sm_nt 18 (g22 1100007 (g22 1046 0)) (g22 1100007 (g22 1100023 (g22 1046 0))) (g22 1100007 (g22 1100023 (g22 1100023 (g22 1046 0)))) = g22 1100007 (g22 1100023 (g22 1046 0))) h1062_ h1064_ (sm_dl_11 : sm_dl 11 0 = (-2)) (sm_nt_11 : sm_nt 11 (g58 1046 0) (g58 1100023 (g58 1046 0)) (g58 1100023 (g58 1100023 (g58 1046 0))) = g58 1100023 (g58 1046 0)) (sm_nl_11 : sm_nl 11 (g58 1046 0) (g58 1100007 (g58 1046 0)) (g58 1100025 (g58 1046 0)) (g58 1100007 (g58 1100025 (g58 1046 0))) (g58 1100025 (g58 1100025 (g58 1046 0))) = g58 1100025 (g58 1046 0)))), ?_⟩
    refine ⟨la_object_136, ?_⟩
    intro h1065_
    have h1066_ := (h1065_.resolve_left la_object_137)
    have h1067_ := (h27_ (la_object_141 h1066_))
    have h1068_ := (h28_ (la_object_141 h1066_))
    have h1069_ := (h90_ (la_object_142 h1066_))
    obtain ⟨h1070_, ⟨h1071_, ⟨h1072_, ⟨h1073_, ⟨h1074_, ⟨h1075_, ⟨h1076_, ⟨h1077_, h1078_⟩⟩⟩⟩⟩⟩⟩⟩ := (h314_.resolve_left (la_object_143 h1066_))
    have h1079_ := (h323_ (la_object_144 h1066_))
    have h1080_ := (h324_ (la_object_145 h1066_))
    have h1081_ := (h1069_.resolve_left (la_object_146 h1066_))
    have h1082_ := (h1077_ (la_object_147 h1066_))
    have h1083_ := (h1078_ (la_object_148 h1066_))
    have h1084_ := (h1083_ (la_object_149 h1066_))
    have e1085_ : S 1100001 (S 13 l2_23) = S 1100001 (S 12 (5 * l2_23)) := congrArg ((S 1100001)) (la_object_150 h1066_)
    have e1086_ : S 1100001 l2_23 = S 1100001 (S 12 (5 * l2_23)) := congrArg ((S 1100001)) (la_object_150 h1066_)
    have e1087_ : S 1100001 l2_23 = S 1100001 (S 13 l2_23) := congrArg ((S 1100001)) (la_object_150 h1066_)
    have e1088_ : S 1100001 p1 = S 1100001 (S 12 (5 * l2_23)) := congrArg ((S 1100001)) (la_object_150 h1066_)
    have e1089_ : S 1100001 p1 = S 1100001 (S 13 l2_23) := congrArg ((S 1100001)) (la_object_150 h1066_)
    have e1090_ : S 1100001 p1 = S 1100001 l2_23 := congrArg ((S 1100001)) (la_object_150 h1066_)
    have e1091_ : S 1100002 (S 12 (5 * l2_23 + 0)) = S 1100002 (S 12 (5 * l2_23)) := congrArg ((S 1100002)) (la_object_150 h1066_)
    have e1092_ : S 1100002 (S 13 l2_23) = S 1100002 (S 12 (5 * l2_23)) := congrArg ((S 1100002)) (la_object_150 h1066_)
    have e1093_ : S 1100002 (S 13 l2_23) = S 1100002 (S 12 (5 * l2_23 + 0)) := congrArg ((S 1100002)) (la_object_150 h1066_)
    have e1094_ : S 1100002 l2_23 = S 1100002 (S 12 (5 * l2_23)) := congrArg ((S 1100002)) (la_object_150 h1066_)
    have e1095_ : S 1100002 l2_23 = S 1100002 (S 12 (5 * l2_23 + 0)) := congrArg ((S 1100002)) (la_object_150 h1066_)
    have e1096_ : S 1100002 l2_23 = S 1100002 (S 13 l2_23) := congrArg ((S 1100002)) (la_object_150 h1066_)
    have e1097_ : S 1100002 p1 = S 1100002 (S 12 (5 * l2_23)) := congrArg ((S 1100002)) (la_object_150 h1066_)
    have e1098_ : S 1100002 p1 = S 1100002 (S 12 (5 * l2_23 + 0)) := congrArg ((S 1100002)) (la_object_150 h1066_)
    have e1099_ : S 1100002 p1 = S 1100002 (S 13 l2_23) := congrArg ((S 1100002)) (la_object_150 h1066_)
    have e1100_ : S 1100002 p1 = S 1100002 l2_23 := congrArg ((S 1100002)) (la_object_150 h1066_)
    have e1101_ : S 1100003 l2_23 = S 1100003 (S 13 l2_23) := congrArg ((S 1100003)) (la_object_150 h1066_)
    have e1102_ : S 1100004 l2_23 = S 1100004 (S 13 l2_23) := congrArg ((S 1100004)) (la_object_150 h1066_)
    have e1103_ : S 1100005 (S 12 (5 * l2_23 + 0)) = S 1100005 (S 12 (5 * l2_23)) := congrArg ((S 1100005)) (la_object_150 h1066_)
    have e1104_ : S 1100005 (S 13 l2_23) = S 1100005 (S 12 (5 * l2_23)) := congrArg ((S 1100005)) (la_object_150 h1066_)
    have e1105_ : S 1100005 (S 13 l2_23) = S 1100005 (S 12 (5 * l2_23 + 0)) := congrArg ((S 1100005)) (la_object_150 h1066_)
    have e1106_ : S 1100005 l2_23 = S 1100005 (S 12 (5 * l2_23)) := congrArg ((S 1100005)) (la_object_150 h1066_)
    have e1107_ : S 1100005 l2_23 = S 1100005 (S 12 (5 * l2_23 + 0)) := congrArg ((S 1100005)) (la_object_150 h1066_)
    have e1108_ : S 1100005 l2_23 = S 1100005 (S 13 l2_23) := congrArg ((S 1100005)) (la_object_150 h1066_)
    have e1109_ : S 1100005 p1 = S 1100005 (S 12 (5 * l2_23)) := congrArg ((S 1100005)) (la_object_150 h1066_)
    have e1110_ : S 1100005 p1 = S 1100005 (S 12 (5 * l2_23 + 0)) := congrArg ((S 1100005)) (la_object_150 h1066_)
    have e1111_ : S 1100005 p1 = S 1100005 (S 13 l2_23) := congrArg ((S 1100005)) (la_object_150 h1066_)
    have e1112_ : S 1100005 p1 = S 1100005 l2_23 := congrArg ((S 1100005)) (la_object_150 h1066_)
    have e1113_ : S 1100007 (S 1100023 (S 1046 0)) = S 1100007 (S 1046 0) := congrArg ((S 1100007)) (la_object_150 h1066_)
    have e1114_ : S 1100007 (S 1100025 (S 1046 0)) = S 1100007 (S 1046 0) := congrArg ((S 1100007)) (la_object_150 h1066_)
    have e1115_ : S 1100007 (S 1100025 (S 1046 0)) = S 1100007 (S 1100023 (S 1046 0)) := congrArg ((S 1100007)) (la_object_150 h1066_)
    have e1116_ : S 1100007 (g22 1046 0) = S 1100007 (S 1046 0) := congrArg ((S 1100007)) (la_object_150 h1066_)
    have e1117_ : S 1100007 (g22 1046 0) = S 1100007 (S 1100023 (S 1046 0)) := congrArg ((S 1100007)) (la_object_150 h1066_)
    have e1118_ : S 1100007 (g22 1046 0) = S 1100007 (S 1100025 (S 1046 0)) := congrArg ((S 1100007)) (la_object_150 h1066_)
    have e1119_ : S 1100007 (g22 1100023 (g22 1046 0)) = S 1100007 (S 1046 0) := congrArg ((S 1100007)) (la_object_150 h1066_)
    have e1120_ : S 1100007 (g22 1100023 (g22 1046 0)) = S 1100007 (S 1100023 (S 1046 0)) := congrArg ((S 1100007)) h386_
    have e1121_ : S 1100007 (g22 1100023 (g22 1046 0)) = S 1100007 (S 1100025 (S 1046 0)) := congrArg ((S 1100007)) (la_object_150 h1066_)
    have e1122_ : S 1100007 (g22 1100023 (g22 1046 0)) = S 1100007 (g22 1046 0) := congrArg ((S 1100007)) (la_object_150 h1066_)
    have e1123_ : S 1100007 (g22 1100025 (g22 1046 0)) = S 1100007 (S 1046 0) := congrArg ((S 1100007)) (la_object_150 h1066_)
    have e1124_ : S 1100007 (g22 1100025 (g22 1046 0)) = S 1100007 (S 1100023 (S 1046 0)) := congrArg ((S 1100007)) (la_object_150 h1066_)
    have e1125_ : S 1100007 (g22 1100025 (g22 1046 0)) = S 1100007 (S 1100025 (S 1046 0)) := congrArg ((S 1100007)) h388_
    have e1126_ : S 1100007 (g22 1100025 (g22 1046 0)) = S 1100007 (g22 1046 0) := congrArg ((S 1100007)) (la_object_150 h1066_)
    have e1127_ : S 1100007 (g22 1100025 (g22 1046 0)) = S 1100007 (g22 1100023 (g22 1046 0)) := congrArg ((S 1100007)) (la_object_150 h1066_)
    have e1128_ : S 1100007 (g40 1046 0) = S 1100007 (S 1046 0) := congrArg ((S 1100007)) (la_object_150 h1066_)
    have e1129_ : S 1100007 (g40 1046 0) = S 1100007 (S 1100023 (S 1046 0)) := congrArg ((S 1100007)) (la_object_150 h1066_)
    have e1130_ : S 1100007 (g40 1046 0) = S 1100007 (S 1100025 (S 1046 0)) := congrArg ((S 1100007)) (la_object_150 h1066_)
    have e1131_ : S 1100007 (g40 1046 0) = S 1100007 (g22 1046 0) := congrArg ((S 1100007)) (la_object_150 h1066_)
    have e1132_ : S 1100007 (g40 1046 0) = S 1100007 (g22 1100023 (g22 1046 0)) := congrArg ((S 1100007)) (la_object_150 h1066_)
    have e1133_ : S 1100007 (g40 1046 0) = S 1100007 (g22 1100025 (g22 1046 0)) := congrArg ((S 1100007)) (la_object_150 h1066_)
    have e1134_ : S 1100007 (g40 1100023 (g40 1046 0)) = S 1100007 (S 1046 0) := congrArg ((S 1100007)) (la_object_150 h1066_)
    have e1135_ : S 1100007 (g40 1100023 (g40 1046 0)) = S 1100007 (S 1100023 (S 1046 0)) := congrArg ((S 1100007)) (la_object_150 h1066_)
    have e1136_ : S 1100007 (g40 1100023 (g40 1046 0)) = S 1100007 (S 1100025 (S 1046 0)) := congrArg ((S 1100007)) (la_object_150 h1066_)
    have e1137_ : S 1100007 (g40 1100023 (g40 1046 0)) = S 1100007 (g22 1046 0) := congrArg ((S 1100007)) (la_object_150 h1066_)
    have e1138_ : S 1100007 (g40 1100023 (g40 1046 0)) = S 1100007 (g22 1100023 (g22 1046 0)) := congrArg ((S 1100007)) (la_object_150 h1066_)
    have e1139_ : S 1100007 (g40 1100023 (g40 1046 0)) = S 1100007 (g22 1100025 (g22 1046 0)) := congrArg ((S 1100007)) (la_object_150 h1066_)
    have e1140_ : S 1100007 (g40 1100023 (g40 1046 0)) = S 1100007 (g40 1046 0) := congrArg ((S 1100007)) (la_object_150 h1066_)
    have e1141_ : S 1100007 (g40 1100025 (g40 1046 0)) = S 1100007 (S 1046 0) := congrArg ((S 1100007)) (la_object_150 h1066_)
    have e1142_ : S 1100007 (g40 1100025 (g40 1046 0)) = S 1100007 (S 1100023 (S 1046 0)) := congrArg ((S 1100007)) (la_object_150 h1066_)
    have e1143_ : S 1100007 (g40 1100025 (g40 1046 0)) = S 1100007 (S 1100025 (S 1046 0)) := congrArg ((S 1100007)) (la_object_150 h1066_)
    have e1144_ : S 1100007 (g40 1100025 (g40 1046 0)) = S 1100007 (g22 1046 0) := congrArg ((S 1100007)) (la_object_150 h1066_)
    have e1145_ : S 1100007 (g40 1100025 (g40 1046 0)) = S 1100007 (g22 1100023 (g22 1046 0)) := congrArg ((S 1100007)) (la_object_150 h1066_)
    have e1146_ : S 1100007 (g40 1100025 (g40 1046 0)) = S 1100007 (g22 1100025 (g22 1046 0)) := congrArg ((S 1100007)) (la_object_150 h1066_)
    have e1147_ : S 1100007 (g40 1100025 (g40 1046 0)) = S 1100007 (g40 1046 0) := congrArg ((S 1100007)) (la_object_150 h1066_)
    have e1148_ : S 1100007 (g40 1100025 (g40 1046 0)) = S 1100007 (g40 1100023 (g40 1046 0)) := congrArg ((S 1100007)) (la_object_150 h1066_)
    have e1149_ : S 1100007 (g48 1046 0) = S 1100007 (S 1046 0) := congrArg ((S 1100007)) (la_object_150 h1066_)
    have e1150_ : S 1100007 (g48 1046 0) = S 1100007 (S 1100023 (S 1046 0)) := congrArg ((S 1100007)) (la_object_150 h1066_)
    have e1151_ : S 1100007 (g48 1046 0) = S 1100007 (S 1100025 (S 1046 0)) := congrArg ((S 1100007)) (la_object_150 h1066_)
    have e1152_ : S 1100007 (g48 1046 0) = S 1100007 (g22 1046 0) := congrArg ((S 1100007)) (la_object_150 h1066_)
    have e1153_ : S 1100007 (g48 1046 0) = S 1100007 (g22 1100023 (g22 1046 0)) := congrArg ((S 1100007)) (la_object_150 h1066_)
    have e1154_ : S 1100007 (g48 1046 0) = S 1100007 (g22 1100025 (g22 1046 0)) := congrArg ((S 1100007)) (la_object_150 h1066_)
    have e1155_ : S 1100007 (g48 1046 0) = S 1100007 (g40 1046 0) := congrArg ((S 1100007)) (la_object_150 h1066_)
    have e1156_ : S 1100007 (g48 1046 0) = S 1100007 (g40 1100023 (g40 1046 0)) := congrArg ((S 1100007)) (la_object_150 h1066_)
    have e1157_ : S 1100007 (g48 1046 0) = S 1100007 (g40 1100025 (g40 1046 0)) := congrArg ((S 1100007)) (la_object_150 h1066_)
    have e1158_ : S 1100007 (g48 1100023 (g48 1046 0)) = S 1100007 (S 1046 0) := congrArg ((S 1100007)) (la_object_150 h1066_)
    have e1159_ : S 1100007 (g48 1100023 (g48 1046 0)) = S 1100007 (S 1100023 (S 1046 0)) := congrArg ((S 1100007)) (la_object_150 h1066_)
    have e1160_ : S 1100007 (g48 1100023 (g48 1046 0)) = S 1100007 (S 1100025 (S 1046 0)) := congrArg ((S 1100007)) (la_object_150 h1066_)
    have e1161_ : S 1100007 (g48 1100023 (g48 1046 0)) = S 1100007 (g22 1046 0) := congrArg ((S 1100007)) (la_object_150 h1066_)
    have e1162_ : S 1100007 (g48 1100023 (g48 1046 0)) = S 1100007 (g22 1100023 (g22 1046 0)) := congrArg ((S 1100007)) (la_object_150 h1066_)
    have e1163_ : S 1100007 (g48 1100023 (g48 1046 0)) = S 1100007 (g22 1100025 (g22 1046 0)) := congrArg ((S 1100007)) (la_object_150 h1066_)
    have e1164_ : S 1100007 (g48 1100023 (g48 1046 0)) = S 1100007 (g40 1046 0) := congrArg ((S 1100007)) (la_object_150 h1066_)
    have e1165_ : S 1100007 (g48 1100023 (g48 1046 0)) = S 1100007 (g40 1100023 (g40 1046 0)) := congrArg ((S 1100007)) (la_object_150 h1066_)
    have e1166_ : S 1100007 (g48 1100023 (g48 1046 0)) = S 1100007 (g40 1100025 (g40 1046 0)) := congrArg ((S 1100007)) (la_object_150 h1066_)
    have e1167_ : S 1100007 (g48 1100023 (g48 1046 0)) = S 1100007 (g48 1046 0) := congrArg ((S 1100007)) (la_object_150 h1066_)
    have e1168_ : S 1100007 (g48 1100025 (g48 1046 0)) = S 1100007 (S 1046 0) := congrArg ((S 1100007)) (la_object_150 h1066_)
    have e1169_ : S 1100007 (g48 1100025 (g48 1046 0)) = S 1100007 (S 1100023 (S 1046 0)) := congrArg ((S 1100007)) (la_object_150 h1066_)
    have e1170_ : S 1100007 (g48 1100025 (g48 1046 0)) = S 1100007 (S 1100025 (S 1046 0)) := congrArg ((S 1100007)) (la_object_150 h1066_)
    have e1171_ : S 1100007 (g48 1100025 (g48 1046 0)) = S 1100007 (g22 1046 0) := congrArg ((S 1100007)) (la_object_150 h1066_)
    have e1172_ : S 1100007 (g48 1100025 (g48 1046 0)) = S 1100007 (g22 1100023 (g22 1046 0)) := congrArg ((S 1100007)) (la_object_150 h1066_)
    have e1173_ : S 1100007 (g48 1100025 (g48 1046 0)) = S 1100007 (g22 1100025 (g22 1046 0)) := congrArg ((S 1100007)) (la_object_150 h1066_)
    have e1174_ : S 1100007 (g48 1100025 (g48 1046 0)) = S 1100007 (g40 1046 0) := congrArg ((S 1100007)) (la_object_150 h1066_)
    have e1175_ : S 1100007 (g48 1100025 (g48 1046 0)) = S 1100007 (g40 1100023 (g40 1046 0)) := congrArg ((S 1100007)) (la_object_150 h1066_)
    have e1176_ : S 1100007 (g48 1100025 (g48 1046 0)) = S 1100007 (g40 1100025 (g40 1046 0)) := congrArg ((S 1100007)) (la_object_150 h1066_)
    have e1177_ : S 1100007 (g48 1100025 (g48 1046 0)) = S 1100007 (g48 1046 0) := congrArg ((S 1100007)) (la_object_150 h1066_)
    have e1178_ : S 1100007 (g48 1100025 (g48 1046 0)) = S 1100007 (g48 1100023 (g48 1046 0)) := congrArg ((S 1100007)) (la_object_150 h1066_)
    have e1179_ : S 1100023 (g22 1046 0) = S 1100023 (S 1046 0) := congrArg ((S 1100023)) (la_object_150 h1066_)
    have e1180_ : S 1100023 (g40 1046 0) = S 1100023 (S 1046 0) := congrArg ((S 1100023)) (la_object_150 h1066_)
    have e1181_ : S 1100023 (g40 1046 0) = S 1100023 (g22 1046 0) := congrArg ((S 1100023)) (la_object_150 h1066_)
    have e1182_ : S 1100023 (g48 1046 0) = S 1100023 (S 1046 0) := congrArg ((S 1100023)) (la_object_150 h1066_)
    have e1183_ : S 1100023 (g48 1046 0) = S 1100023 (g22 1046 0) := congrArg ((S 1100023)) (la_object_150 h1066_)
    have e1184_ : S 1100023 (g48 1046 0) = S 1100023 (g40 1046 0) := congrArg ((S 1100023)) (la_object_150 h1066_)
    have e1185_ : S 1100024 (g22 1046 0) = S 1100024 (S 1046 0) := congrArg ((S 1100024)) (la_object_150 h1066_)
    have e1186_ : S 1100024 (g40 1046 0) = S 1100024 (S 1046 0) := congrArg ((S 1100024)) (la_object_150 h1066_)
    have e1187_ : S 1100024 (g40 1046 0) = S 1100024 (g22 1046 0) := congrArg ((S 1100024)) (la_object_150 h1066_)
    have e1188_ : S 1100024 (g48 1046 0) = S 1100024 (S 1046 0) := congrArg ((S 1100024)) (la_object_150 h1066_)
    have e1189_ : S 1100024 (g48 1046 0) = S 1100024 (g22 1046 0) := congrArg ((S 1100024)) (la_object_150 h1066_)
    have e1190_ : S 1100024 (g48 1046 0) = S 1100024 (g40 1046 0) := congrArg ((S 1100024)) (la_object_150 h1066_)
    have e1191_ : S 1100025 (g22 1046 0) = S 1100025 (S 1046 0) := congrArg ((S 1100025)) (la_object_150 h1066_)
    have e1192_ : S 1100025 (g40 1046 0) = S 1100025 (S 1046 0) := congrArg ((S 1100025)) (la_object_150 h1066_)
    have e1193_ : S 1100025 (g40 1046 0) = S 1100025 (g22 1046 0) := congrArg ((S 1100025)) (la_object_150 h1066_)
    have e1194_ : S 1100025 (g48 1046 0) = S 1100025 (S 1046 0) := congrArg ((S 1100025)) (la_object_150 h1066_)
    have e1195_ : S 1100025 (g48 1046 0) = S 1100025 (g22 1046 0) := congrArg ((S 1100025)) (la_object_150 h1066_)
    have e1196_ : S 1100025 (g48 1046 0) = S 1100025 (g40 1046 0) := congrArg ((S 1100025)) (la_object_150 h1066_)
    have e1197_ : S 12 (5 * S 12 (5 * l2_23) + 1) = S 12 (5 * l2_23) := congrArg ((S 12)) (la_object_151 h1066_)
    have e1198_ : S 12 (5 * l2_23 + 0) = S 12 (5 * l2_23) := congrArg ((S 12)) la_object_56
    have e1199_ : S 12 (5 * l2_23 + 0) = S 12 (5 * S 12 (5 * l2_23) + 1) := congrArg ((S 12)) (la_object_152 h1066_)
    have e1200_ : S 12 (5 * l2_23 + 1) = S 12 (5 * l2_23) := congrArg ((S 12)) (la_object_153 h1066_)
    have e1201_ : S 12 (5 * l2_23 + 1) = S 12 (5 * S 12 (5 * l2_23) + 1) := congrArg ((S 12)) (la_object_154 h1066_)
    have e1202_ : S 12 (5 * l2_23 + 1) = S 12 (5 * l2_23 + 0) := congrArg ((S 12)) (la_object_155 h1066_)
    have e1203_ : S 26 (g40 1046 0) = S 26 (g22 1046 0) := congrArg ((S 26)) (la_object_150 h1066_)
    have e1204_ : S 29 (g40 1046 0) = S 29 (g22 1046 0) := congrArg ((S 29)) (la_object_150 h1066_)
    have e1205_ : g22 1100007 (g22 1100023 (g22 1046 0)) = g22 1100007 (g22 1046 0) := congrArg ((g22 1100007)) (la_object_150 h1066_)
    have e1206_ : g22 1100007 (g22 1100023 (g22 1100023 (g22 1046 0))) = g22 1100007 (g22 1046 0) := congrArg ((g22 1100007)) (la_object_150 h1066_)
    have e1207_ : g22 1100007 (g22 1100023 (g22 1100023 (g22 1046 0))) = g22 1100007 (g22 1100023 (g22 1046 0)) := congrArg ((g22 1100007)) (la_object_150 h1066_)
    have e1208_ : g22 1100007 (g22 1100025 (g22 1046 0)) = g22 1100007 (g22 1046 0) := congrArg ((g22 1100007)) (la_object_150 h1066_)
    have e1209_ : g22 1100007 (g22 1100025 (g22 1046 0)) = g22 1100007 (g22 1100023 (g22 1046 0)) := congrArg ((g22 1100007)) (la_object_150 h1066_)
    have e1210_ : g22 1100007 (g22 1100025 (g22 1046 0)) = g22 1100007 (g22 1100023 (g22 1100023 (g22 1046 0))) := congrArg ((g22 1100007)) (la_object_150 h1066_)
    have e1211_ : g22 1100007 (g40 1046 0) = g22 1100007 (g22 1046 0) := congrArg ((g22 1100007)) (la_object_150 h1066_)
    have e1212_ : g22 1100007 (g40 1046 0) = g22 1100007 (g22 1100023 (g22 1046 0)) := congrArg ((g22 1100007)) (la_object_150 h1066_)
    have e1213_ : g22 1100007 (g40 1046 0) = g22 1100007 (g22 1100023 (g22 1100023 (g22 1046 0))) := congrArg ((g22 1100007)) (la_object_150 h1066_)
    have e1214_ : g22 1100007 (g40 1046 0) = g22 1100007 (g22 1100025 (g22 1046 0)) := congrArg ((g22 1100007)) (la_object_150 h1066_)
    have e1215_ : g22 1100007 (g40 1100023 (g40 1046 0)) = g22 1100007 (g22 1046 0) := congrArg ((g22 1100007)) (la_object_150 h1066_)
    have e1216_ : g22 1100007 (g40 1100023 (g40 1046 0)) = g22 1100007 (g22 1100023 (g22 1046 0)) := congrArg ((g22 1100007)) (la_object_150 h1066_)
    have e1217_ : g22 1100007 (g40 1100023 (g40 1046 0)) = g22 1100007 (g22 1100023 (g22 1100023 (g22 1046 0))) := congrArg ((g22 1100007)) (la_object_150 h1066_)
    have e1218_ : g22 1100007 (g40 1100023 (g40 1046 0)) = g22 1100007 (g22 1100025 (g22 1046 0)) := congrArg ((g22 1100007)) (la_object_150 h1066_)
    have e1219_ : g22 1100007 (g40 1100023 (g40 1046 0)) = g22 1100007 (g40 1046 0) := congrArg ((g22 1100007)) (la_object_150 h1066_)
    have e1220_ : g22 1100007 (g40 1100025 (g40 1046 0)) = g22 1100007 (g22 1046 0) := congrArg ((g22 1100007)) (la_object_150 h1066_)
    have e1221_ : g22 1100007 (g40 1100025 (g40 1046 0)) = g22 1100007 (g22 1100023 (g22 1046 0)) := congrArg ((g22 1100007)) (la_object_150 h1066_)
    have e1222_ : g22 1100007 (g40 1100025 (g40 1046 0)) = g22 1100007 (g22 1100023 (g22 1100023 (g22 1046 0))) := congrArg ((g22 1100007)) (la_object_150 h1066_)
    have e1223_ : g22 1100007 (g40 1100025 (g40 1046 0)) = g22 1100007 (g22 1100025 (g22 1046 0)) := congrArg ((g22 1100007)) (la_object_150 h1066_)
    have e1224_ : g22 1100007 (g40 1100025 (g40 1046 0)) = g22 1100007 (g40 1046 0) := congrArg ((g22 1100007)) (la_object_150 h1066_)
    have e1225_ : g22 1100007 (g40 1100025 (g40 1046 0)) = g22 1100007 (g40 1100023 (g40 1046 0)) := congrArg ((g22 1100007)) (la_object_150 h1066_)
    have e1226_ : g22 1100007 (g48 1046 0) = g22 1100007 (g22 1046 0) := congrArg ((g22 1100007)) (la_object_150 h1066_)
    have e1227_ : g22 1100007 (g48 1046 0) = g22 1100007 (g22 1100023 (g22 1046 0)) := congrArg ((g22 1100007)) (la_object_150 h1066_)
    have e1228_ : g22 1100007 (g48 1046 0) = g22 1100007 (g22 1100023 (g22 1100023 (g22 1046 0))) := congrArg ((g22 1100007)) (la_object_150 h1066_)
    have e1229_ : g22 1100007 (g48 1046 0) = g22 1100007 (g22 1100025 (g22 1046 0)) := congrArg ((g22 1100007)) (la_object_150 h1066_)
    have e1230_ : g22 1100007 (g48 1046 0) = g22 1100007 (g40 1046 0) := congrArg ((g22 1100007)) (la_object_150 h1066_)
    have e1231_ : g22 1100007 (g48 1046 0) = g22 1100007 (g40 1100023 (g40 1046 0)) := congrArg ((g22 1100007)) (la_object_150 h1066_)
    have e1232_ : g22 1100007 (g48 1046 0) = g22 1100007 (g40 1100025 (g40 1046 0)) := congrArg ((g22 1100007)) (la_object_150 h1066_)
    have e1233_ : g22 1100007 (g48 1100023 (g48 1046 0)) = g22 1100007 (g22 1046 0) := congrArg ((g22 1100007)) (la_object_150 h1066_)
    have e1234_ : g22 1100007 (g48 1100023 (g48 1046 0)) = g22 1100007 (g22 1100023 (g22 1046 0)) := congrArg ((g22 1100007)) (la_object_150 h1066_)
    have e1235_ : g22 1100007 (g48 1100023 (g48 1046 0)) = g22 1100007 (g22 1100023 (g22 1100023 (g22 1046 0))) := congrArg ((g22 1100007)) (la_object_150 h1066_)
    have e1236_ : g22 1100007 (g48 1100023 (g48 1046 0)) = g22 1100007 (g22 1100025 (g22 1046 0)) := congrArg ((g22 1100007)) (la_object_150 h1066_)
    have e1237_ : g22 1100007 (g48 1100023 (g48 1046 0)) = g22 1100007 (g40 1046 0) := congrArg ((g22 1100007)) (la_object_150 h1066_)
    have e1238_ : g22 1100007 (g48 1100023 (g48 1046 0)) = g22 1100007 (g40 1100023 (g40 1046 0)) := congrArg ((g22 1100007)) (la_object_150 h1066_)
    have e1239_ : g22 1100007 (g48 1100023 (g48 1046 0)) = g22 1100007 (g40 1100025 (g40 1046 0)) := congrArg ((g22 1100007)) (la_object_150 h1066_)
    have e1240_ : g22 1100007 (g48 1100023 (g48 1046 0)) = g22 1100007 (g48 1046 0) := congrArg ((g22 1100007)) (la_object_150 h1066_)
    have e1241_ : g22 1100007 (g48 1100025 (g48 1046 0)) = g22 1100007 (g22 1046 0) := congrArg ((g22 1100007)) (la_object_150 h1066_)
    have e1242_ : g22 1100007 (g48 1100025 (g48 1046 0)) = g22 1100007 (g22 1100023 (g22 1046 0)) := congrArg ((g22 1100007)) (la_object_150 h1066_)
    have e1243_ : g22 1100007 (g48 1100025 (g48 1046 0)) = g22 1100007 (g22 1100023 (g22 1100023 (g22 1046 0))) := congrArg ((g22 1100007)) (la_object_150 h1066_)
    have e1244_ : g22 1100007 (g48 1100025 (g48 1046 0)) = g22 1100007 (g22 1100025 (g22 1046 0)) := congrArg ((g22 1100007)) (la_object_150 h1066_)
    have e1245_ : g22 1100007 (g48 1100025 (g48 1046 0)) = g22 1100007 (g40 1046 0) := congrArg ((g22 1100007)) (la_object_150 h1066_)
    have e1246_ : g22 1100007 (g48 1100025 (g48 1046 0)) = g22 1100007 (g40 1100023 (g40 1046 0)) := congrArg ((g22 1100007)) (la_object_150 h1066_)
    have e1247_ : g22 1100007 (g48 1100025 (g48 1046 0)) = g22 1100007 (g40 1100025 (g40 1046 0)) := congrArg ((g22 1100007)) (la_object_150 h1066_)
    have e1248_ : g22 1100007 (g48 1100025 (g48 1046 0)) = g22 1100007 (g48 1046 0) := congrArg ((g22 1100007)) (la_object_150 h1066_)
    have e1249_ : g22 1100007 (g48 1100025 (g48 1046 0)) = g22 1100007 (g48 1100023 (g48 1046 0)) := congrArg ((g22 1100007)) (la_object_150 h1066_)
    have e1250_ : g22 1100007 (g58 1046 0) = g22 1100007 (g22 1046 0) := congrArg ((g22 1100007)) (la_object_150 h1066_)
    have e1251_ : g22 1100007 (g58 1046 0) = g22 1100007 (g22 1100023 (g22 1046 0)) := congrArg ((g22 1100007)) (la_object_150 h1066_)
    have e1252_ : g22 1100007 (g58 1046 0) = g22 1100007 (g22 1100023 (g22 1100023 (g22 1046 0))) := congrArg ((g22 1100007)) (la_object_150 h1066_)
    have e1253_ : g22 1100007 (g58 1046 0) = g22 1100007 (g22 1100025 (g22 1046 0)) := congrArg ((g22 1100007)) (la_object_150 h1066_)
    have e1254_ : g22 1100007 (g58 1046 0) = g22 1100007 (g40 1046 0) := congrArg ((g22 1100007)) (la_object_150 h1066_)
    have e1255_ : g22 1100007 (g58 1046 0) = g22 1100007 (g40 1100023 (g40 1046 0)) := congrArg ((g22 1100007)) (la_object_150 h1066_)
    have e1256_ : g22 1100007 (g58 1046 0) = g22 1100007 (g40 1100025 (g40 1046 0)) := congrArg ((g22 1100007)) (la_object_150 h1066_)
    have e1257_ : g22 1100007 (g58 1046 0) = g22 1100007 (g48 1046 0) := congrArg ((g22 1100007)) (la_object_150 h1066_)
    have e1258_ : g22 1100007 (g58 1046 0) = g22 1100007 (g48 1100023 (g48 1046 0)) := congrArg ((g22 1100007)) (la_object_150 h1066_)
    have e1259_ : g22 1100007 (g58 1046 0) = g22 1100007 (g48 1100025 (g48 1046 0)) := congrArg ((g22 1100007)) (la_object_150 h1066_)
    have e1260_ : g22 1100007 (g58 1100023 (g58 1046 0)) = g22 1100007 (g22 1046 0) := congrArg ((g22 1100007)) (la_object_150 h1066_)
    have e1261_ : g22 1100007 (g58 1100023 (g58 1046 0)) = g22 1100007 (g22 1100023 (g22 1046 0)) := congrArg ((g22 1100007)) (la_object_150 h1066_)
    have e1262_ : g22 1100007 (g58 1100023 (g58 1046 0)) = g22 1100007 (g22 1100023 (g22 1100023 (g22 1046 0))) := congrArg ((g22 1100007)) (la_object_150 h1066_)
    have e1263_ : g22 1100007 (g58 1100023 (g58 1046 0)) = g22 1100007 (g22 1100025 (g22 1046 0)) := congrArg ((g22 1100007)) (la_object_150 h1066_)
    have e1264_ : g22 1100007 (g58 1100023 (g58 1046 0)) = g22 1100007 (g40 1046 0) := congrArg ((g22 1100007)) (la_object_150 h1066_)
    have e1265_ : g22 1100007 (g58 1100023 (g58 1046 0)) = g22 1100007 (g40 1100023 (g40 1046 0)) := congrArg ((g22 1100007)) (la_object_150 h1066_)
    have e1266_ : g22 1100007 (g58 1100023 (g58 1046 0)) = g22 1100007 (g40 1100025 (g40 1046 0)) := congrArg ((g22 1100007)) (la_object_150 h1066_)
    have e1267_ : g22 1100007 (g58 1100023 (g58 1046 0)) = g22 1100007 (g48 1046 0) := congrArg ((g22 1100007)) (la_object_150 h1066_)
    have e1268_ : g22 1100007 (g58 1100023 (g58 1046 0)) = g22 1100007 (g48 1100023 (g48 1046 0)) := congrArg ((g22 1100007)) h1023_
    have e1269_ : g22 1100007 (g58 1100023 (g58 1046 0)) = g22 1100007 (g48 1100025 (g48 1046 0)) := congrArg ((g22 1100007)) (la_object_150 h1066_)
    have e1270_ : g22 1100007 (g58 1100023 (g58 1046 0)) = g22 1100007 (g58 1046 0) := congrArg ((g22 1100007)) (la_object_150 h1066_)
    have e1271_ : g22 1100007 (g58 1100025 (g58 1046 0)) = g22 1100007 (g22 1046 0) := congrArg ((g22 1100007)) (la_object_150 h1066_)
    have e1272_ : g22 1100007 (g58 1100025 (g58 1046 0)) = g22 1100007 (g22 1100023 (g22 1046 0)) := congrArg ((g22 1100007)) (la_object_150 h1066_)
    have e1273_ : g22 1100007 (g58 1100025 (g58 1046 0)) = g22 1100007 (g22 1100023 (g22 1100023 (g22 1046 0))) := congrArg ((g22 1100007)) (la_object_150 h1066_)
    have e1274_ : g22 1100007 (g58 1100025 (g58 1046 0)) = g22 1100007 (g22 1100025 (g22 1046 0)) := congrArg ((g22 1100007)) (la_object_150 h1066_)
    have e1275_ : g22 1100007 (g58 1100025 (g58 1046 0)) = g22 1100007 (g40 1046 0) := congrArg ((g22 1100007)) (la_object_150 h1066_)
    have e1276_ : g22 1100007 (g58 1100025 (g58 1046 0)) = g22 1100007 (g40 1100023 (g40 1046 0)) := congrArg ((g22 1100007)) (la_object_150 h1066_)
    have e1277_ : g22 1100007 (g58 1100025 (g58 1046 0)) = g22 1100007 (g40 1100025 (g40 1046 0)) := congrArg ((g22 1100007)) (la_object_150 h1066_)
    have e1278_ : g22 1100007 (g58 1100025 (g58 1046 0)) = g22 1100007 (g48 1046 0) := congrArg ((g22 1100007)) (la_object_150 h1066_)
    have e1279_ : g22 1100007 (g58 1100025 (g58 1046 0)) = g22 1100007 (g48 1100023 (g48 1046 0)) := congrArg ((g22 1100007)) (la_object_150 h1066_)
    have e1280_ : g22 1100007 (g58 1100025 (g58 1046 0)) = g22 1100007 (g48 1100025 (g48 1046 0)) := congrArg ((g22 1100007)) h1025_
    have e1281_ : g22 1100007 (g58 1100025 (g58 1046 0)) = g22 1100007 (g58 1046 0) := congrArg ((g22 1100007)) (la_object_150 h1066_)
    have e1282_ : g22 1100007 (g58 1100025 (g58 1046 0)) = g22 1100007 (g58 1100023 (g58 1046 0)) := congrArg ((g22 1100007)) (la_object_150 h1066_)
    have e1283_ : g22 1100023 (g22 1100023 (g22 1046 0)) = g22 1100023 (g22 1046 0) := congrArg ((g22 1100023)) (la_object_150 h1066_)
    have e1284_ : g22 1100023 (g40 1046 0) = g22 1100023 (g22 1046 0) := congrArg ((g22 1100023)) (la_object_150 h1066_)
    have e1285_ : g22 1100023 (g40 1046 0) = g22 1100023 (g22 1100023 (g22 1046 0)) := congrArg ((g22 1100023)) (la_object_150 h1066_)
    have e1286_ : g22 1100023 (g48 1046 0) = g22 1100023 (g22 1046 0) := congrArg ((g22 1100023)) (la_object_150 h1066_)
    have e1287_ : g22 1100023 (g48 1046 0) = g22 1100023 (g22 1100023 (g22 1046 0)) := congrArg ((g22 1100023)) (la_object_150 h1066_)
    have e1288_ : g22 1100023 (g48 1046 0) = g22 1100023 (g40 1046 0) := congrArg ((g22 1100023)) (la_object_150 h1066_)
    have e1289_ : g22 1100023 (g58 1046 0) = g22 1100023 (g22 1046 0) := congrArg ((g22 1100023)) (la_object_150 h1066_)
    have e1290_ : g22 1100023 (g58 1046 0) = g22 1100023 (g22 1100023 (g22 1046 0)) := congrArg ((g22 1100023)) (la_object_150 h1066_)
    have e1291_ : g22 1100023 (g58 1046 0) = g22 1100023 (g40 1046 0) := congrArg ((g22 1100023)) (la_object_150 h1066_)
    have e1292_ : g22 1100023 (g58 1046 0) = g22 1100023 (g48 1046 0) := congrArg ((g22 1100023)) (la_object_150 h1066_)
    have e1293_ : g22 1100024 (g40 1046 0) = g22 1100024 (g22 1046 0) := congrArg ((g22 1100024)) (la_object_150 h1066_)
    have e1294_ : g22 1100024 (g48 1046 0) = g22 1100024 (g22 1046 0) := congrArg ((g22 1100024)) (la_object_150 h1066_)
    have e1295_ : g22 1100024 (g48 1046 0) = g22 1100024 (g40 1046 0) := congrArg ((g22 1100024)) (la_object_150 h1066_)
    have e1296_ : g22 1100024 (g58 1046 0) = g22 1100024 (g22 1046 0) := congrArg ((g22 1100024)) (la_object_150 h1066_)
    have e1297_ : g22 1100024 (g58 1046 0) = g22 1100024 (g40 1046 0) := congrArg ((g22 1100024)) (la_object_150 h1066_)
    have e1298_ : g22 1100024 (g58 1046 0) = g22 1100024 (g48 1046 0) := congrArg ((g22 1100024)) (la_object_150 h1066_)
    have e1299_ : g22 1100025 (g22 1100025 (g22 1046 0)) = g22 1100025 (g22 1046 0) := congrArg ((g22 1100025)) (la_object_150 h1066_)
    have e1300_ : g22 1100025 (g40 1046 0) = g22 1100025 (g22 1046 0) := congrArg ((g22 1100025)) (la_object_150 h1066_)
    have e1301_ : g22 1100025 (g40 1046 0) = g22 1100025 (g22 1100025 (g22 1046 0)) := congrArg ((g22 1100025)) (la_object_150 h1066_)
    have e1302_ : g22 1100025 (g48 1046 0) = g22 1100025 (g22 1046 0) := congrArg ((g22 1100025)) (la_object_150 h1066_)
    have e1303_ : g22 1100025 (g48 1046 0) = g22 1100025 (g22 1100025 (g22 1046 0)) := congrArg ((g22 1100025)) (la_object_150 h1066_)
    have e1304_ : g22 1100025 (g48 1046 0) = g22 1100025 (g40 1046 0) := congrArg ((g22 1100025)) (la_object_150 h1066_)
    have e1305_ : g22 1100025 (g58 1046 0) = g22 1100025 (g22 1046 0) := congrArg ((g22 1100025)) (la_object_150 h1066_)
    have e1306_ : g22 1100025 (g58 1046 0) = g22 1100025 (g22 1100025 (g22 1046 0)) := congrArg ((g22 1100025)) (la_object_150 h1066_)
    have e1307_ : g22 1100025 (g58 1046 0) = g22 1100025 (g40 1046 0) := congrArg ((g22 1100025)) (la_object_150 h1066_)
    have e1308_ : g22 1100025 (g58 1046 0) = g22 1100025 (g48 1046 0) := congrArg ((g22 1100025)) (la_object_150 h1066_)
    have e1309_ : g22 26 (g40 1046 0) = g22 26 (g22 1046 0) := congrArg ((g22 26)) (la_object_150 h1066_)
    have e1310_ : g22 29 (g40 1046 0) = g22 29 (g22 1046 0) := congrArg ((g22 29)) (la_object_150 h1066_)
    have e1311_ : g40 1100007 (g40 1100023 (g40 1046 0)) = g40 1100007 (g40 1046 0) := congrArg ((g40 1100007)) (la_object_150 h1066_)
    have e1312_ : g40 1100007 (g40 1100023 (g40 1100023 (g40 1046 0))) = g40 1100007 (g40 1046 0) := congrArg ((g40 1100007)) (la_object_150 h1066_)
    have e1313_ : g40 1100007 (g40 1100023 (g40 1100023 (g40 1046 0))) = g40 1100007 (g40 1100023 (g40 1046 0)) := congrArg ((g40 1100007)) (la_object_150 h1066_)
    have e1314_ : g40 1100007 (g40 1100025 (g40 1046 0)) = g40 1100007 (g40 1046 0) := congrArg ((g40 1100007)) (la_object_150 h1066_)
    have e1315_ : g40 1100007 (g40 1100025 (g40 1046 0)) = g40 1100007 (g40 1100023 (g40 1046 0)) := congrArg ((g40 1100007)) (la_object_150 h1066_)
    have e1316_ : g40 1100007 (g40 1100025 (g40 1046 0)) = g40 1100007 (g40 1100023 (g40 1100023 (g40 1046 0))) := congrArg ((g40 1100007)) (la_object_150 h1066_)
    have e1317_ : g40 1100007 (g48 1046 0) = g40 1100007 (g40 1046 0) := congrArg ((g40 1100007)) (la_object_150 h1066_)
    have e1318_ : g40 1100007 (g48 1046 0) = g40 1100007 (g40 1100023 (g40 1046 0)) := congrArg ((g40 1100007)) (la_object_150 h1066_)
    have e1319_ : g40 1100007 (g48 1046 0) = g40 1100007 (g40 1100023 (g40 1100023 (g40 1046 0))) := congrArg ((g40 1100007)) (la_object_150 h1066_)
    have e1320_ : g40 1100007 (g48 1046 0) = g40 1100007 (g40 1100025 (g40 1046 0)) := congrArg ((g40 1100007)) (la_object_150 h1066_)
    have e1321_ : g40 1100007 (g48 1100023 (g48 1046 0)) = g40 1100007 (g40 1046 0) := congrArg ((g40 1100007)) (la_object_150 h1066_)
    have e1322_ : g40 1100007 (g48 1100023 (g48 1046 0)) = g40 1100007 (g40 1100023 (g40 1046 0)) := congrArg ((g40 1100007)) (la_object_150 h1066_)
    have e1323_ : g40 1100007 (g48 1100023 (g48 1046 0)) = g40 1100007 (g40 1100023 (g40 1100023 (g40 1046 0))) := congrArg ((g40 1100007)) (la_object_150 h1066_)
    have e1324_ : g40 1100007 (g48 1100023 (g48 1046 0)) = g40 1100007 (g40 1100025 (g40 1046 0)) := congrArg ((g40 1100007)) (la_object_150 h1066_)
    have e1325_ : g40 1100007 (g48 1100023 (g48 1046 0)) = g40 1100007 (g48 1046 0) := congrArg ((g40 1100007)) (la_object_150 h1066_)
    have e1326_ : g40 1100007 (g48 1100025 (g48 1046 0)) = g40 1100007 (g40 1046 0) := congrArg ((g40 1100007)) (la_object_150 h1066_)
    have e1327_ : g40 1100007 (g48 1100025 (g48 1046 0)) = g40 1100007 (g40 1100023 (g40 1046 0)) := congrArg ((g40 1100007)) (la_object_150 h1066_)
    have e1328_ : g40 1100007 (g48 1100025 (g48 1046 0)) = g40 1100007 (g40 1100023 (g40 1100023 (g40 1046 0))) := congrArg ((g40 1100007)) (la_object_150 h1066_)
    have e1329_ : g40 1100007 (g48 1100025 (g48 1046 0)) = g40 1100007 (g40 1100025 (g40 1046 0)) := congrArg ((g40 1100007)) (la_object_150 h1066_)
    have e1330_ : g40 1100007 (g48 1100025 (g48 1046 0)) = g40 1100007 (g48 1046 0) := congrArg ((g40 1100007)) (la_object_150 h1066_)
    have e1331_ : g40 1100007 (g48 1100025 (g48 1046 0)) = g40 1100007 (g48 1100023 (g48 1046 0)) := congrArg ((g40 1100007)) (la_object_150 h1066_)
    have e1332_ : g40 1100007 (g58 1046 0) = g40 1100007 (g40 1046 0) := congrArg ((g40 1100007)) (la_object_150 h1066_)
    have e1333_ : g40 1100007 (g58 1046 0) = g40 1100007 (g40 1100023 (g40 1046 0)) := congrArg ((g40 1100007)) (la_object_150 h1066_)
    have e1334_ : g40 1100007 (g58 1046 0) = g40 1100007 (g40 1100023 (g40 1100023 (g40 1046 0))) := congrArg ((g40 1100007)) (la_object_150 h1066_)
    have e1335_ : g40 1100007 (g58 1046 0) = g40 1100007 (g40 1100025 (g40 1046 0)) := congrArg ((g40 1100007)) (la_object_150 h1066_)
    have e1336_ : g40 1100007 (g58 1046 0) = g40 1100007 (g48 1046 0) := congrArg ((g40 1100007)) (la_object_150 h1066_)
    have e1337_ : g40 1100007 (g58 1046 0) = g40 1100007 (g48 1100023 (g48 1046 0)) := congrArg ((g40 1100007)) (la_object_150 h1066_)
    have e1338_ : g40 1100007 (g58 1046 0) = g40 1100007 (g48 1100025 (g48 1046 0)) := congrArg ((g40 1100007)) (la_object_150 h1066_)
    have e1339_ : g40 1100007 (g58 1100023 (g58 1046 0)) = g40 1100007 (g40 1046 0) := congrArg ((g40 1100007)) (la_object_150 h1066_)
    have e1340_ : g40 1100007 (g58 1100023 (g58 1046 0)) = g40 1100007 (g40 1100023 (g40 1046 0)) := congrArg ((g40 1100007)) (la_object_150 h1066_)
    have e1341_ : g40 1100007 (g58 1100023 (g58 1046 0)) = g40 1100007 (g40 1100023 (g40 1100023 (g40 1046 0))) := congrArg ((g40 1100007)) (la_object_150 h1066_)
    have e1342_ : g40 1100007 (g58 1100023 (g58 1046 0)) = g40 1100007 (g40 1100025 (g40 1046 0)) := congrArg ((g40 1100007)) (la_object_150 h1066_)
    have e1343_ : g40 1100007 (g58 1100023 (g58 1046 0)) = g40 1100007 (g48 1046 0) := congrArg ((g40 1100007)) (la_object_150 h1066_)
    have e1344_ : g40 1100007 (g58 1100023 (g58 1046 0)) = g40 1100007 (g48 1100023 (g48 1046 0)) := congrArg ((g40 1100007)) h1023_
    have e1345_ : g40 1100007 (g58 1100023 (g58 1046 0)) = g40 1100007 (g48 1100025 (g48 1046 0)) := congrArg ((g40 1100007)) (la_object_150 h1066_)
    have e1346_ : g40 1100007 (g58 1100023 (g58 1046 0)) = g40 1100007 (g58 1046 0) := congrArg ((g40 1100007)) (la_object_150 h1066_)
    have e1347_ : g40 1100007 (g58 1100025 (g58 1046 0)) = g40 1100007 (g40 1046 0) := congrArg ((g40 1100007)) (la_object_150 h1066_)
    have e1348_ : g40 1100007 (g58 1100025 (g58 1046 0)) = g40 1100007 (g40 1100023 (g40 1046 0)) := congrArg ((g40 1100007)) (la_object_150 h1066_)
    have e1349_ : g40 1100007 (g58 1100025 (g58 1046 0)) = g40 1100007 (g40 1100023 (g40 1100023 (g40 1046 0))) := congrArg ((g40 1100007)) (la_object_150 h1066_)
    have e1350_ : g40 1100007 (g58 1100025 (g58 1046 0)) = g40 1100007 (g40 1100025 (g40 1046 0)) := congrArg ((g40 1100007)) (la_object_150 h1066_)
    have e1351_ : g40 1100007 (g58 1100025 (g58 1046 0)) = g40 1100007 (g48 1046 0) := congrArg ((g40 1100007)) (la_object_150 h1066_)
    have e1352_ : g40 1100007 (g58 1100025 (g58 1046 0)) = g40 1100007 (g48 1100023 (g48 1046 0)) := congrArg ((g40 1100007)) (la_object_150 h1066_)
    have e1353_ : g40 1100007 (g58 1100025 (g58 1046 0)) = g40 1100007 (g48 1100025 (g48 1046 0)) := congrArg ((g40 1100007)) h1025_
    have e1354_ : g40 1100007 (g58 1100025 (g58 1046 0)) = g40 1100007 (g58 1046 0) := congrArg ((g40 1100007)) (la_object_150 h1066_)
    have e1355_ : g40 1100007 (g58 1100025 (g58 1046 0)) = g40 1100007 (g58 1100023 (g58 1046 0)) := congrArg ((g40 1100007)) (la_object_150 h1066_)
    have e1356_ : g40 1100023 (g40 1100023 (g40 1046 0)) = g40 1100023 (g40 1046 0) := congrArg ((g40 1100023)) (la_object_150 h1066_)
    have e1357_ : g40 1100023 (g48 1046 0) = g40 1100023 (g40 1046 0) := congrArg ((g40 1100023)) (la_object_150 h1066_)
    have e1358_ : g40 1100023 (g48 1046 0) = g40 1100023 (g40 1100023 (g40 1046 0)) := congrArg ((g40 1100023)) (la_object_150 h1066_)
    have e1359_ : g40 1100023 (g58 1046 0) = g40 1100023 (g40 1046 0) := congrArg ((g40 1100023)) (la_object_150 h1066_)
    have e1360_ : g40 1100023 (g58 1046 0) = g40 1100023 (g40 1100023 (g40 1046 0)) := congrArg ((g40 1100023)) (la_object_150 h1066_)
    have e1361_ : g40 1100023 (g58 1046 0) = g40 1100023 (g48 1046 0) := congrArg ((g40 1100023)) (la_object_150 h1066_)
    have e1362_ : g40 1100024 (g48 1046 0) = g40 1100024 (g40 1046 0) := congrArg ((g40 1100024)) (la_object_150 h1066_)
    have e1363_ : g40 1100024 (g58 1046 0) = g40 1100024 (g40 1046 0) := congrArg ((g40 1100024)) (la_object_150 h1066_)
    have e1364_ : g40 1100024 (g58 1046 0) = g40 1100024 (g48 1046 0) := congrArg ((g40 1100024)) (la_object_150 h1066_)
    have e1365_ : g40 1100025 (g40 1100025 (g40 1046 0)) = g40 1100025 (g40 1046 0) := congrArg ((g40 1100025)) (la_object_150 h1066_)
    have e1366_ : g40 1100025 (g48 1046 0) = g40 1100025 (g40 1046 0) := congrArg ((g40 1100025)) (la_object_150 h1066_)
    have e1367_ : g40 1100025 (g48 1046 0) = g40 1100025 (g40 1100025 (g40 1046 0)) := congrArg ((g40 1100025)) (la_object_150 h1066_)
    have e1368_ : g40 1100025 (g58 1046 0) = g40 1100025 (g40 1046 0) := congrArg ((g40 1100025)) (la_object_150 h1066_)
    have e1369_ : g40 1100025 (g58 1046 0) = g40 1100025 (g40 1100025 (g40 1046 0)) := congrArg ((g40 1100025)) (la_object_150 h1066_)
    have e1370_ : g40 1100025 (g58 1046 0) = g40 1100025 (g48 1046 0) := congrArg ((g40 1100025)) (la_object_150 h1066_)
    have e1371_ : g40 26 (g40 1046 0) = g40 26 (g22 1046 0) := congrArg ((g40 26)) (la_object_150 h1066_)
    have e1372_ : g40 29 (g40 1046 0) = g40 29 (g22 1046 0) := congrArg ((g40 29)) (la_object_150 h1066_)
    have e1373_ : g48 1100007 (g48 1100023 (g48 1046 0)) = g48 1100007 (g48 1046 0) := congrArg ((g48 1100007)) (la_object_150 h1066_)
    have e1374_ : g48 1100007 (g48 1100025 (g48 1046 0)) = g48 1100007 (g48 1046 0) := congrArg ((g48 1100007)) (la_object_150 h1066_)
    have e1375_ : g48 1100007 (g48 1100025 (g48 1046 0)) = g48 1100007 (g48 1100023 (g48 1046 0)) := congrArg ((g48 1100007)) (la_object_150 h1066_)
    have e1376_ : g48 1100007 (g58 1046 0) = g48 1100007 (g48 1046 0) := congrArg ((g48 1100007)) (la_object_150 h1066_)
    have e1377_ : g48 1100007 (g58 1046 0) = g48 1100007 (g48 1100023 (g48 1046 0)) := congrArg ((g48 1100007)) (la_object_150 h1066_)
    have e1378_ : g48 1100007 (g58 1046 0) = g48 1100007 (g48 1100025 (g48 1046 0)) := congrArg ((g48 1100007)) (la_object_150 h1066_)
    have e1379_ : g48 1100007 (g58 1100023 (g58 1046 0)) = g48 1100007 (g48 1046 0) := congrArg ((g48 1100007)) (la_object_150 h1066_)
    have e1380_ : g48 1100007 (g58 1100023 (g58 1046 0)) = g48 1100007 (g48 1100023 (g48 1046 0)) := congrArg ((g48 1100007)) h1023_
    have e1381_ : g48 1100007 (g58 1100023 (g58 1046 0)) = g48 1100007 (g48 1100025 (g48 1046 0)) := congrArg ((g48 1100007)) (la_object_150 h1066_)
    have e1382_ : g48 1100007 (g58 1100023 (g58 1046 0)) = g48 1100007 (g58 1046 0) := congrArg ((g48 1100007)) (la_object_150 h1066_)
    have e1383_ : g48 1100007 (g58 1100025 (g58 1046 0)) = g48 1100007 (g48 1046 0) := congrArg ((g48 1100007)) (la_object_150 h1066_)
    have e1384_ : g48 1100007 (g58 1100025 (g58 1046 0)) = g48 1100007 (g48 1100023 (g48 1046 0)) := congrArg ((g48 1100007)) (la_object_150 h1066_)
    have e1385_ : g48 1100007 (g58 1100025 (g58 1046 0)) = g48 1100007 (g48 1100025 (g48 1046 0)) := congrArg ((g48 1100007)) h1025_
    have e1386_ : g48 1100007 (g58 1100025 (g58 1046 0)) = g48 1100007 (g58 1046 0) := congrArg ((g48 1100007)) (la_object_150 h1066_)
    have e1387_ : g48 1100007 (g58 1100025 (g58 1046 0)) = g48 1100007 (g58 1100023 (g58 1046 0)) := congrArg ((g48 1100007)) (la_object_150 h1066_)
    have e1388_ : g48 1100023 (g58 1046 0) = g48 1100023 (g48 1046 0) := congrArg ((g48 1100023)) (la_object_150 h1066_)
    have e1389_ : g48 1100024 (g58 1046 0) = g48 1100024 (g48 1046 0) := congrArg ((g48 1100024)) (la_object_150 h1066_)
    have e1390_ : g48 1100025 (g58 1046 0) = g48 1100025 (g48 1046 0) := congrArg ((g48 1100025)) (la_object_150 h1066_)
    have e1391_ : g58 1100007 (g58 1100023 (g58 1046 0)) = g58 1100007 (g58 1046 0) := congrArg ((g58 1100007)) (la_object_150 h1066_)
    have e1392_ : g58 1100007 (g58 1100025 (g58 1046 0)) = g58 1100007 (g58 1046 0) := congrArg ((g58 1100007)) (la_object_150 h1066_)
    have e1393_ : g58 1100007 (g58 1100025 (g58 1046 0)) = g58 1100007 (g58 1100023 (g58 1046 0)) := congrArg ((g58 1100007)) (la_object_150 h1066_)
    have e1394_ : g58 1100023 (g58 1100023 (g58 1046 0)) = g58 1100023 (g58 1046 0) := congrArg ((g58 1100023)) (la_object_150 h1066_)
    have e1395_ : g58 1100025 (g58 1100025 (g58 1046 0)) = g58 1100025 (g58 1046 0) := congrArg ((g58 1100025)) (la_object_150 h1066_)
    have e1396_ : S 1100023 (g22 1100023 (g22 1046 0)) = S 1100023 (S 1046 0) := congrArg ((S 1100023)) (la_object_150 h1066_)
    have e1397_ : S 1100023 (g22 1100023 (g22 1046 0)) = S 1100023 (g22 1046 0) := congrArg ((S 1100023)) (la_object_150 h1066_)
    have e1398_ : S 1100023 (g40 1046 0) = S 1100023 (g22 1100023 (g22 1046 0)) := congrArg ((S 1100023)) (la_object_150 h1066_)
    have e1399_ : S 1100023 (g40 1100023 (g40 1046 0)) = S 1100023 (S 1046 0) := congrArg ((S 1100023)) (la_object_150 h1066_)
    have e1400_ : S 1100023 (g40 1100023 (g40 1046 0)) = S 1100023 (g22 1046 0) := congrArg ((S 1100023)) (la_object_150 h1066_)
    have e1401_ : S 1100023 (g40 1100023 (g40 1046 0)) = S 1100023 (g22 1100023 (g22 1046 0)) := congrArg ((S 1100023)) (la_object_150 h1066_)
    have e1402_ : S 1100023 (g40 1100023 (g40 1046 0)) = S 1100023 (g40 1046 0) := congrArg ((S 1100023)) (la_object_150 h1066_)
    have e1403_ : S 1100023 (g48 1046 0) = S 1100023 (g22 1100023 (g22 1046 0)) := congrArg ((S 1100023)) (la_object_150 h1066_)
    have e1404_ : S 1100023 (g48 1046 0) = S 1100023 (g40 1100023 (g40 1046 0)) := congrArg ((S 1100023)) (la_object_150 h1066_)
    have e1405_ : S 1100023 (g58 1046 0) = S 1100023 (S 1046 0) := congrArg ((S 1100023)) (la_object_150 h1066_)
    have e1406_ : S 1100023 (g58 1046 0) = S 1100023 (g22 1046 0) := congrArg ((S 1100023)) (la_object_150 h1066_)
    have e1407_ : S 1100023 (g58 1046 0) = S 1100023 (g22 1100023 (g22 1046 0)) := congrArg ((S 1100023)) (la_object_150 h1066_)
    have e1408_ : S 1100023 (g58 1046 0) = S 1100023 (g40 1046 0) := congrArg ((S 1100023)) (la_object_150 h1066_)
    have e1409_ : S 1100023 (g58 1046 0) = S 1100023 (g40 1100023 (g40 1046 0)) := congrArg ((S 1100023)) (la_object_150 h1066_)
    have e1410_ : S 1100023 (g58 1046 0) = S 1100023 (g48 1046 0) := congrArg ((S 1100023)) (la_object_150 h1066_)
    have e1411_ : S 1100024 (g58 1046 0) = S 1100024 (S 1046 0) := congrArg ((S 1100024)) (la_object_150 h1066_)
    have e1412_ : S 1100024 (g58 1046 0) = S 1100024 (g22 1046 0) := congrArg ((S 1100024)) (la_object_150 h1066_)
    have e1413_ : S 1100024 (g58 1046 0) = S 1100024 (g40 1046 0) := congrArg ((S 1100024)) (la_object_150 h1066_)
    have e1414_ : S 1100024 (g58 1046 0) = S 1100024 (g48 1046 0) := congrArg ((S 1100024)) (la_object_150 h1066_)
    have e1415_ : S 1100025 (g22 1100025 (g22 1046 0)) = S 1100025 (S 1046 0) := congrArg ((S 1100025)) (la_object_150 h1066_)
    have e1416_ : S 1100025 (g22 1100025 (g22 1046 0)) = S 1100025 (g22 1046 0) := congrArg ((S 1100025)) (la_object_150 h1066_)
    have e1417_ : S 1100025 (g40 1046 0) = S 1100025 (g22 1100025 (g22 1046 0)) := congrArg ((S 1100025)) (la_object_150 h1066_)
    have e1418_ : S 1100025 (g40 1100025 (g40 1046 0)) = S 1100025 (S 1046 0) := congrArg ((S 1100025)) (la_object_150 h1066_)
    have e1419_ : S 1100025 (g40 1100025 (g40 1046 0)) = S 1100025 (g22 1046 0) := congrArg ((S 1100025)) (la_object_150 h1066_)
    have e1420_ : S 1100025 (g40 1100025 (g40 1046 0)) = S 1100025 (g22 1100025 (g22 1046 0)) := congrArg ((S 1100025)) (la_object_150 h1066_)
    have e1421_ : S 1100025 (g40 1100025 (g40 1046 0)) = S 1100025 (g40 1046 0) := congrArg ((S 1100025)) (la_object_150 h1066_)
    have e1422_ : S 1100025 (g48 1046 0) = S 1100025 (g22 1100025 (g22 1046 0)) := congrArg ((S 1100025)) (la_object_150 h1066_)
    have e1423_ : S 1100025 (g48 1046 0) = S 1100025 (g40 1100025 (g40 1046 0)) := congrArg ((S 1100025)) (la_object_150 h1066_)
    have e1424_ : S 1100025 (g58 1046 0) = S 1100025 (S 1046 0) := congrArg ((S 1100025)) (la_object_150 h1066_)
    have e1425_ : S 1100025 (g58 1046 0) = S 1100025 (g22 1046 0) := congrArg ((S 1100025)) (la_object_150 h1066_)
    have e1426_ : S 1100025 (g58 1046 0) = S 1100025 (g22 1100025 (g22 1046 0)) := congrArg ((S 1100025)) (la_object_150 h1066_)
    have e1427_ : S 1100025 (g58 1046 0) = S 1100025 (g40 1046 0) := congrArg ((S 1100025)) (la_object_150 h1066_)
    have e1428_ : S 1100025 (g58 1046 0) = S 1100025 (g40 1100025 (g40 1046 0)) := congrArg ((S 1100025)) (la_object_150 h1066_)
    have e1429_ : S 1100025 (g58 1046 0) = S 1100025 (g48 1046 0) := congrArg ((S 1100025)) (la_object_150 h1066_)
    have e1430_ : g22 1100007 (g40 1100023 (g40 1100023 (g40 1046 0))) = g22 1100007 (g22 1046 0) := congrArg ((g22 1100007)) (la_object_150 h1066_)
    have e1431_ : g22 1100007 (g40 1100023 (g40 1100023 (g40 1046 0))) = g22 1100007 (g22 1100023 (g22 1046 0)) := congrArg ((g22 1100007)) (la_object_150 h1066_)
    have e1432_ : g22 1100007 (g40 1100023 (g40 1100023 (g40 1046 0))) = g22 1100007 (g22 1100023 (g22 1100023 (g22 1046 0))) := congrArg ((g22 1100007)) (la_object_150 h1066_)
    have e1433_ : g22 1100007 (g40 1100023 (g40 1100023 (g40 1046 0))) = g22 1100007 (g22 1100025 (g22 1046 0)) := congrArg ((g22 1100007)) (la_object_150 h1066_)
    have e1434_ : g22 1100007 (g40 1100023 (g40 1100023 (g40 1046 0))) = g22 1100007 (g40 1046 0) := congrArg ((g22 1100007)) (la_object_150 h1066_)
    have e1435_ : g22 1100007 (g40 1100023 (g40 1100023 (g40 1046 0))) = g22 1100007 (g40 1100023 (g40 1046 0)) := congrArg ((g22 1100007)) e1356_
    have e1436_ : g22 1100007 (g40 1100025 (g40 1046 0)) = g22 1100007 (g40 1100023 (g40 1100023 (g40 1046 0))) := congrArg ((g22 1100007)) (la_object_150 h1066_)
    have e1437_ : g22 1100007 (g48 1046 0) = g22 1100007 (g40 1100023 (g40 1100023 (g40 1046 0))) := congrArg ((g22 1100007)) (la_object_150 h1066_)
    have e1438_ : g22 1100007 (g48 1100023 (g48 1046 0)) = g22 1100007 (g40 1100023 (g40 1100023 (g40 1046 0))) := congrArg ((g22 1100007)) (la_object_150 h1066_)
    have e1439_ : g22 1100007 (g48 1100025 (g48 1046 0)) = g22 1100007 (g40 1100023 (g40 1100023 (g40 1046 0))) := congrArg ((g22 1100007)) (la_object_150 h1066_)
    have e1440_ : g22 1100007 (g58 1046 0) = g22 1100007 (g40 1100023 (g40 1100023 (g40 1046 0))) := congrArg ((g22 1100007)) (la_object_150 h1066_)
    have e1441_ : g22 1100007 (g58 1100023 (g58 1046 0)) = g22 1100007 (g40 1100023 (g40 1100023 (g40 1046 0))) := congrArg ((g22 1100007)) (la_object_150 h1066_)
    have e1442_ : g22 1100007 (g58 1100025 (g58 1046 0)) = g22 1100007 (g40 1100023 (g40 1100023 (g40 1046 0))) := congrArg ((g22 1100007)) (la_object_150 h1066_)
    have e1443_ : g22 1100023 (g40 1100023 (g40 1046 0)) = g22 1100023 (g22 1046 0) := congrArg ((g22 1100023)) (la_object_150 h1066_)
    have e1444_ : g22 1100023 (g40 1100023 (g40 1046 0)) = g22 1100023 (g22 1100023 (g22 1046 0)) := congrArg ((g22 1100023)) (la_object_150 h1066_)
    have e1445_ : g22 1100023 (g40 1100023 (g40 1046 0)) = g22 1100023 (g40 1046 0) := congrArg ((g22 1100023)) (la_object_150 h1066_)
    have e1446_ : g22 1100023 (g48 1046 0) = g22 1100023 (g40 1100023 (g40 1046 0)) := congrArg ((g22 1100023)) (la_object_150 h1066_)
    have e1447_ : g22 1100023 (g58 1046 0) = g22 1100023 (g40 1100023 (g40 1046 0)) := congrArg ((g22 1100023)) (la_object_150 h1066_)
    have e1448_ : g22 1100023 (g58 1100023 (g58 1046 0)) = g22 1100023 (g22 1046 0) := congrArg ((g22 1100023)) (la_object_150 h1066_)
    have e1449_ : g22 1100023 (g58 1100023 (g58 1046 0)) = g22 1100023 (g22 1100023 (g22 1046 0)) := congrArg ((g22 1100023)) (la_object_150 h1066_)
    have e1450_ : g22 1100023 (g58 1100023 (g58 1046 0)) = g22 1100023 (g40 1046 0) := congrArg ((g22 1100023)) (la_object_150 h1066_)
    have e1451_ : g22 1100023 (g58 1100023 (g58 1046 0)) = g22 1100023 (g40 1100023 (g40 1046 0)) := congrArg ((g22 1100023)) (la_object_150 h1066_)
    have e1452_ : g22 1100023 (g58 1100023 (g58 1046 0)) = g22 1100023 (g48 1046 0) := congrArg ((g22 1100023)) (la_object_150 h1066_)
    have e1453_ : g22 1100023 (g58 1100023 (g58 1046 0)) = g22 1100023 (g58 1046 0) := congrArg ((g22 1100023)) (la_object_150 h1066_)
    have e1454_ : g22 1100025 (g40 1100025 (g40 1046 0)) = g22 1100025 (g22 1046 0) := congrArg ((g22 1100025)) (la_object_150 h1066_)
    have e1455_ : g22 1100025 (g40 1100025 (g40 1046 0)) = g22 1100025 (g22 1100025 (g22 1046 0)) := congrArg ((g22 1100025)) (la_object_150 h1066_)
    have e1456_ : g22 1100025 (g40 1100025 (g40 1046 0)) = g22 1100025 (g40 1046 0) := congrArg ((g22 1100025)) (la_object_150 h1066_)
    have e1457_ : g22 1100025 (g48 1046 0) = g22 1100025 (g40 1100025 (g40 1046 0)) := congrArg ((g22 1100025)) (la_object_150 h1066_)
    have e1458_ : g22 1100025 (g58 1046 0) = g22 1100025 (g40 1100025 (g40 1046 0)) := congrArg ((g22 1100025)) (la_object_150 h1066_)
    have e1459_ : g22 1100025 (g58 1100025 (g58 1046 0)) = g22 1100025 (g22 1046 0) := congrArg ((g22 1100025)) (la_object_150 h1066_)
    have e1460_ : g22 1100025 (g58 1100025 (g58 1046 0)) = g22 1100025 (g22 1100025 (g22 1046 0)) := congrArg ((g22 1100025)) (la_object_150 h1066_)
    have e1461_ : g22 1100025 (g58 1100025 (g58 1046 0)) = g22 1100025 (g40 1046 0) := congrArg ((g22 1100025)) (la_object_150 h1066_)
    have e1462_ : g22 1100025 (g58 1100025 (g58 1046 0)) = g22 1100025 (g40 1100025 (g40 1046 0)) := congrArg ((g22 1100025)) (la_object_150 h1066_)
    have e1463_ : g22 1100025 (g58 1100025 (g58 1046 0)) = g22 1100025 (g48 1046 0) := congrArg ((g22 1100025)) (la_object_150 h1066_)
    have e1464_ : g22 1100025 (g58 1100025 (g58 1046 0)) = g22 1100025 (g58 1046 0) := congrArg ((g22 1100025)) (la_object_150 h1066_)
    have e1465_ : g40 1100023 (g58 1100023 (g58 1046 0)) = g40 1100023 (g40 1046 0) := congrArg ((g40 1100023)) (la_object_150 h1066_)
    have e1466_ : g40 1100023 (g58 1100023 (g58 1046 0)) = g40 1100023 (g40 1100023 (g40 1046 0)) := congrArg ((g40 1100023)) (la_object_150 h1066_)
    have e1467_ : g40 1100023 (g58 1100023 (g58 1046 0)) = g40 1100023 (g48 1046 0) := congrArg ((g40 1100023)) (la_object_150 h1066_)
    have e1468_ : g40 1100023 (g58 1100023 (g58 1046 0)) = g40 1100023 (g58 1046 0) := congrArg ((g40 1100023)) (la_object_150 h1066_)
    have e1469_ : g40 1100025 (g58 1100025 (g58 1046 0)) = g40 1100025 (g40 1046 0) := congrArg ((g40 1100025)) (la_object_150 h1066_)
    have e1470_ : g40 1100025 (g58 1100025 (g58 1046 0)) = g40 1100025 (g40 1100025 (g40 1046 0)) := congrArg ((g40 1100025)) (la_object_150 h1066_)
    have e1471_ : g40 1100025 (g58 1100025 (g58 1046 0)) = g40 1100025 (g48 1046 0) := congrArg ((g40 1100025)) (la_object_150 h1066_)
    have e1472_ : g40 1100025 (g58 1100025 (g58 1046 0)) = g40 1100025 (g58 1046 0) := congrArg ((g40 1100025)) (la_object_150 h1066_)
    have e1473_ : g48 1100023 (g58 1100023 (g58 1046 0)) = g48 1100023 (g48 1046 0) := congrArg ((g48 1100023)) (la_object_150 h1066_)
    have e1474_ : g48 1100023 (g58 1100023 (g58 1046 0)) = g48 1100023 (g58 1046 0) := congrArg ((g48 1100023)) (la_object_150 h1066_)
    have e1475_ : g48 1100025 (g58 1100025 (g58 1046 0)) = g48 1100025 (g48 1046 0) := congrArg ((g48 1100025)) (la_object_150 h1066_)
    have e1476_ : g48 1100025 (g58 1100025 (g58 1046 0)) = g48 1100025 (g58 1046 0) := congrArg ((g48 1100025)) (la_object_150 h1066_)
    have e1477_ : S 1100023 (g58 1100023 (g58 1046 0)) = S 1100023 (S 1046 0) := congrArg ((S 1100023)) (la_object_150 h1066_)
    have e1478_ : S 1100023 (g58 1100023 (g58 1046 0)) = S 1100023 (g22 1046 0) := congrArg ((S 1100023)) (la_object_150 h1066_)
    have e1479_ : S 1100023 (g58 1100023 (g58 1046 0)) = S 1100023 (g22 1100023 (g22 1046 0)) := congrArg ((S 1100023)) (la_object_150 h1066_)
    have e1480_ : S 1100023 (g58 1100023 (g58 1046 0)) = S 1100023 (g40 1046 0) := congrArg ((S 1100023)) (la_object_150 h1066_)
    have e1481_ : S 1100023 (g58 1100023 (g58 1046 0)) = S 1100023 (g40 1100023 (g40 1046 0)) := congrArg ((S 1100023)) (la_object_150 h1066_)
    have e1482_ : S 1100023 (g58 1100023 (g58 1046 0)) = S 1100023 (g48 1046 0) := congrArg ((S 1100023)) (la_object_150 h1066_)
    have e1483_ : S 1100023 (g58 1100023 (g58 1046 0)) = S 1100023 (g58 1046 0) := congrArg ((S 1100023)) (la_object_150 h1066_)
    have e1484_ : S 1100025 (g58 1100025 (g58 1046 0)) = S 1100025 (S 1046 0) := congrArg ((S 1100025)) (la_object_150 h1066_)
    have e1485_ : S 1100025 (g58 1100025 (g58 1046 0)) = S 1100025 (g22 1046 0) := congrArg ((S 1100025)) (la_object_150 h1066_)
    have e1486_ : S 1100025 (g58 1100025 (g58 1046 0)) = S 1100025 (g22 1100025 (g22 1046 0)) := congrArg ((S 1100025)) (la_object_150 h1066_)
    have e1487_ : S 1100025 (g58 1100025 (g58 1046 0)) = S 1100025 (g40 1046 0) := congrArg ((S 1100025)) (la_object_150 h1066_)
    have e1488_ : S 1100025 (g58 1100025 (g58 1046 0)) = S 1100025 (g40 1100025 (g40 1046 0)) := congrArg ((S 1100025)) (la_object_150 h1066_)
    have e1489_ : S 1100025 (g58 1100025 (g58 1046 0)) = S 1100025 (g48 1046 0) := congrArg ((S 1100025)) (la_object_150 h1066_)
    have e1490_ : S 1100025 (g58 1100025 (g58 1046 0)) = S 1100025 (g58 1046 0) := congrArg ((S 1100025)) (la_object_150 h1066_)
    exact ((la_object_156 h1066_)).elim
  intro g65
  rintro ⟨h1491_, ⟨h1492_, ⟨h1493_, ⟨h1494_, ⟨h1495_, ⟨h1496_, ⟨h1497_, ⟨h1498_, ⟨h1499_, ⟨h1500_, ⟨h1501_, ⟨h1502_, ⟨h1503_, ⟨h1504_, ⟨h1505_, ⟨h1506_, h1507_⟩⟩⟩⟩⟩⟩⟩⟩⟩⟩⟩⟩⟩⟩⟩⟩
  refine ⟨?_, ?_⟩
  · skip
    refine ⟨(la_object_17 h1493_), ?_⟩
    refine ⟨h1496_, ?_⟩
    refine ⟨h1491_, ?_⟩
    refine ⟨h1492_, ?_⟩
    intro h1508_
    have h1509_ : ¬ (g58 1047 0 = 1) := fun q_ => (la_object_15 h1508_) (h1497_ q_)
    obtain ⟨h1510_, ⟨h1511_, ⟨h1512_, ⟨h1513_, ⟨h1514_, ⟨h1515_, ⟨h1516_, ⟨h1517_, ⟨h1518_, ⟨h1519_, ⟨h1520_, ⟨h1521_, ⟨h1522_, h1523_⟩⟩⟩⟩⟩⟩⟩⟩⟩⟩⟩⟩⟩ := (h1507_ h1508_)
    have h1524_ : ¬ (g48 1047 0 = 1) := fun q_ => h1509_ (h992_ q_)
    have h1525_ := (h1523_ la_object_157)
    obtain ⟨h1526_, ⟨h1527_, ⟨h1528_, ⟨h1529_, ⟨h1530_, ⟨h1531_, ⟨h1532_, ⟨h1533_, ⟨h1534_, ⟨h1535_, ⟨h1536_, ⟨h1537_, ⟨h1538_, ⟨h1539_, ⟨h1540_, ⟨h1541_, -⟩⟩⟩⟩⟩⟩⟩⟩⟩⟩⟩⟩⟩⟩⟩⟩ := (h1012_ h1510_)
    have h1542_ : ¬ (g40 1047 0 = 1) := fun q_ => h1524_ (h597_ q_)
    have h1543_ := (h1011_ h1526_)
    have h1544_ := (h1525_ la_object_159)
    obtain ⟨h1545_, ⟨h1546_, ⟨h1547_, ⟨h1548_, ⟨h1549_, ⟨h1550_, ⟨h1551_, ⟨h1552_, ⟨h1553_, ⟨h1554_, ⟨h1555_, ⟨h1556_, ⟨h1557_, h1558_⟩⟩⟩⟩⟩⟩⟩⟩⟩⟩⟩⟩⟩ := (h607_ h1526_)
    have h1559_ := (h1558_ la_object_105)
    obtain ⟨h1560_, ⟨h1561_, ⟨h1562_, ⟨h1563_, ⟨h1564_, ⟨h1565_, ⟨h1566_, ⟨h1567_, ⟨h1568_, ⟨h1569_, ⟨h1570_, ⟨h1571_, ⟨h1572_, h1573_⟩⟩⟩⟩⟩⟩⟩⟩⟩⟩⟩⟩⟩ := (h571_ h1545_)
    have h1574_ := (h1559_ la_object_107)
    have h1575_ := (h1573_ la_object_89)
    have h1576_ := (h1575_ la_object_91)
    refine ⟨h1512_, ?_⟩
    refine ⟨la_object_160, ?_⟩
    refine ⟨la_object_161, ?_⟩
    refine ⟨(sm_ci_17 (la_object_162 (sm_KC_n h23_).2.1.1 h27_ h28_ h385_ h386_ h388_ h389_ h390_ h1516_ (sm_dl_11 : sm_dl 11 0 = (-2)) h1517_ (sm_nt_11 : sm_nt 11 (g58 1046 0) (g58 1100023 (g58 1046 0)) (g58 1100023 (g58 1100023 (g58 1046 0))) = g58 1100023 (g58 1046 0)) h1519_ (sm_nl_11 : sm_nl 11 (g58 1046 0) (g58 1100007 (g58 1046 0)) (g58 1100025 (g58 1046 0)) (g58 1100007 (g58 1100025 (g58 1046 0))) (g58 1100025 (g58 1100025 (g58 1046 0))) = g58 1100025 (g58 1046 0)) h1520_ (sm_nt_11 : sm_nt 11 (g58 1100007 (g58 1046 0)) (g58 1100007 (g58 1100023 (g58 1046 0))) (g58 1100007 (g58 1100023 (g58 1100023 (g58 1046 0)))) = g58 1100007 (g58 1100023 (g58 1046 0))) h1533_ h1534_ h1536_ h1537_ h1538_ h1544_ h1551_ (sm_dl_0 : sm_dl 0 6 = 1) h1552_ (sm_nt_0 : sm_nt 0 (g40 1046 0) (g40 1100023 (g40 1046 0)) (g40 1100023 (g40 1100023 (g40 1046 0))) = g40 1100023 (g40 1046 0)) h1554_ (sm_nl_0 : sm_nl 0 (g40 1046 0) (g40 1100007 (g40 1046 0)) (g40 1100025 (g40 1046 0)) (g40 1100007 (g40 1100025 (g40 1046 0))) (g40 1100025 (g40 1100025 (g40 1046 0))) = g40 1100025 (g40 1046 0)) h1555_ (sm_nt_0 : sm_nt 0 (g40 1100007 (g40 1046 0)) (g40 1100007 (g40 1100023 (g40 1046 0))) (g40 1100007 (g40 1100023 (g40 1100023 (g40 1046 0)))) = g40 1100007 (g40 1100023 (g40 1046 0))) h1566_ (sm_dl_18 : sm_dl 18 0 = 1) h1567_ (sm_nt_18 : sm_nt 18 (g22 1046 0) (g22 1100023 (g22 1046 0)) (g22 1100023 (g22 1100023 (g22 1046 0))) = g22 1100023 (g22 1046 0)) h1569_ (sm_nl_18 : sm_nl 18 (g22 1046 0) (g22 1100007 (g22 1046 0)) (g22 1100025 (g22 1046 0)) (g22 1100007 (g22 1100025 (g22 1046 0))) (g22 1100025 (g22 1100025 (g22 1046 0))) = g22 1100025 (g22 1046 0)) h1570_ (sm_nt_18 : sm_nt 18 (g22 1100007 (g22 1046 0)) (g22 1100007 (g22 1100023 (g22 1046 0))) (g22 1100007 (g22 1100023 (g22 1100023 (g22 1046 0)))) = g22 1100007 (g22 1100023 (g22 1046 0))) h1574_ h1576_ (sm_dl_17 : sm_dl 17 0 = (-1)) (sm_nt_17 : sm_nt 17 (g65 1046 0) (g65 1100023 (g65 1046 0)) (g65 1100023 (g65 1100023 (g65 1046 0))) = g65 1100023 (g65 1046 0)) (sm_nl_17b : (0 ≤ g65 1100025 (g65 1046 0) → g65 1100007 (g65 1100025 (g65 1046 0)) < g65 1100007 (g65 1046 0)) → sm_nl 17 (g65 1046 0) (g65 1100007 (g65 1046 0)) (g65 1100025 (g65 1046 0)) (g65 1100007 (g65 1100025 (g65 1046 0))) (g65 1100025 (g65 1100025 (g65 1046 0))) = g65 1100025 (g65 1046 0)))), ?_⟩
    refine ⟨la_object_163, ?_⟩
    intro h1577_
    have h1578_ := (h1577_.resolve_left la_object_164)
    have h1579_ := (h27_ (la_object_168 h1578_))
    have h1580_ := (h28_ (la_object_168 h1578_))
    have h1581_ := (h90_ (la_object_169 h1578_))
    obtain ⟨h1582_, ⟨h1583_, ⟨h1584_, ⟨h1585_, ⟨h1586_, ⟨h1587_, ⟨h1588_, ⟨h1589_, h1590_⟩⟩⟩⟩⟩⟩⟩⟩ := (h314_.resolve_left (la_object_170 h1578_))
    have h1591_ := (h323_ (la_object_171 h1578_))
    have h1592_ := (h324_ (la_object_172 h1578_))
    have h1593_ := ((sm_nl_17b : (0 ≤ g65 1100025 (g65 1046 0) → g65 1100007 (g65 1100025 (g65 1046 0)) < g65 1100007 (g65 1046 0)) → sm_nl 17 (g65 1046 0) (g65 1100007 (g65 1046 0)) (g65 1100025 (g65 1046 0)) (g65 1100007 (g65 1100025 (g65 1046 0))) (g65 1100025 (g65 1100025 (g65 1046 0))) = g65 1100025 (g65 1046 0)) (la_object_173 h1578_))
    have h1594_ := (h1581_.resolve_left (la_object_174 h1578_))
    have h1595_ := (h1589_ (la_object_175 h1578_))
    have h1596_ := (h1590_ (la_object_176 h1578_))
    have h1597_ := (h1596_ (la_object_177 h1578_))
    have e1598_ : S 1100001 (S 13 l2_23) = S 1100001 (S 12 (5 * l2_23)) := congrArg ((S 1100001)) (la_object_178 h1578_)
    have e1599_ : S 1100001 l2_23 = S 1100001 (S 12 (5 * l2_23)) := congrArg ((S 1100001)) (la_object_178 h1578_)
    have e1600_ : S 1100001 l2_23 = S 1100001 (S 13 l2_23) := congrArg ((S 1100001)) (la_object_178 h1578_)
    have e1601_ : S 1100001 p1 = S 1100001 (S 12 (5 * l2_23)) := congrArg ((S 1100001)) (la_object_178 h1578_)
    have e1602_ : S 1100001 p1 = S 1100001 (S 13 l2_23) := congrArg ((S 1100001)) (la_object_178 h1578_)
    have e1603_ : S 1100001 p1 = S 1100001 l2_23 := congrArg ((S 1100001)) (la_object_178 h1578_)
    have e1604_ : S 1100002 (S 12 (5 * l2_23 + 0)) = S 1100002 (S 12 (5 * l2_23)) := congrArg ((S 1100002)) (la_object_178 h1578_)
    have e1605_ : S 1100002 (S 13 l2_23) = S 1100002 (S 12 (5 * l2_23)) := congrArg ((S 1100002)) (la_object_178 h1578_)
    have e1606_ : S 1100002 (S 13 l2_23) = S 1100002 (S 12 (5 * l2_23 + 0)) := congrArg ((S 1100002)) (la_object_178 h1578_)
    have e1607_ : S 1100002 l2_23 = S 1100002 (S 12 (5 * l2_23)) := congrArg ((S 1100002)) (la_object_178 h1578_)
    have e1608_ : S 1100002 l2_23 = S 1100002 (S 12 (5 * l2_23 + 0)) := congrArg ((S 1100002)) (la_object_178 h1578_)
    have e1609_ : S 1100002 l2_23 = S 1100002 (S 13 l2_23) := congrArg ((S 1100002)) (la_object_178 h1578_)
    have e1610_ : S 1100002 p1 = S 1100002 (S 12 (5 * l2_23)) := congrArg ((S 1100002)) (la_object_178 h1578_)
    have e1611_ : S 1100002 p1 = S 1100002 (S 12 (5 * l2_23 + 0)) := congrArg ((S 1100002)) (la_object_178 h1578_)
    have e1612_ : S 1100002 p1 = S 1100002 (S 13 l2_23) := congrArg ((S 1100002)) (la_object_178 h1578_)
    have e1613_ : S 1100002 p1 = S 1100002 l2_23 := congrArg ((S 1100002)) (la_object_178 h1578_)
    have e1614_ : S 1100003 l2_23 = S 1100003 (S 13 l2_23) := congrArg ((S 1100003)) (la_object_178 h1578_)
    have e1615_ : S 1100004 l2_23 = S 1100004 (S 13 l2_23) := congrArg ((S 1100004)) (la_object_178 h1578_)
    have e1616_ : S 1100005 (S 12 (5 * l2_23 + 0)) = S 1100005 (S 12 (5 * l2_23)) := congrArg ((S 1100005)) (la_object_178 h1578_)
    have e1617_ : S 1100005 (S 13 l2_23) = S 1100005 (S 12 (5 * l2_23)) := congrArg ((S 1100005)) (la_object_178 h1578_)
    have e1618_ : S 1100005 (S 13 l2_23) = S 1100005 (S 12 (5 * l2_23 + 0)) := congrArg ((S 1100005)) (la_object_178 h1578_)
    have e1619_ : S 1100005 l2_23 = S 1100005 (S 12 (5 * l2_23)) := congrArg ((S 1100005)) (la_object_178 h1578_)
    have e1620_ : S 1100005 l2_23 = S 1100005 (S 12 (5 * l2_23 + 0)) := congrArg ((S 1100005)) (la_object_178 h1578_)
    have e1621_ : S 1100005 l2_23 = S 1100005 (S 13 l2_23) := congrArg ((S 1100005)) (la_object_178 h1578_)
    have e1622_ : S 1100005 p1 = S 1100005 (S 12 (5 * l2_23)) := congrArg ((S 1100005)) (la_object_178 h1578_)
    have e1623_ : S 1100005 p1 = S 1100005 (S 12 (5 * l2_23 + 0)) := congrArg ((S 1100005)) (la_object_178 h1578_)
    have e1624_ : S 1100005 p1 = S 1100005 (S 13 l2_23) := congrArg ((S 1100005)) (la_object_178 h1578_)
    have e1625_ : S 1100005 p1 = S 1100005 l2_23 := congrArg ((S 1100005)) (la_object_178 h1578_)
    have e1626_ : S 1100007 (S 1100023 (S 1046 0)) = S 1100007 (S 1046 0) := congrArg ((S 1100007)) (la_object_178 h1578_)
    have e1627_ : S 1100007 (S 1100025 (S 1046 0)) = S 1100007 (S 1046 0) := congrArg ((S 1100007)) (la_object_178 h1578_)
    have e1628_ : S 1100007 (S 1100025 (S 1046 0)) = S 1100007 (S 1100023 (S 1046 0)) := congrArg ((S 1100007)) (la_object_178 h1578_)
    have e1629_ : S 1100007 (g22 1046 0) = S 1100007 (S 1046 0) := congrArg ((S 1100007)) (la_object_178 h1578_)
    have e1630_ : S 1100007 (g22 1046 0) = S 1100007 (S 1100023 (S 1046 0)) := congrArg ((S 1100007)) (la_object_178 h1578_)
    have e1631_ : S 1100007 (g22 1046 0) = S 1100007 (S 1100025 (S 1046 0)) := congrArg ((S 1100007)) (la_object_178 h1578_)
    have e1632_ : S 1100007 (g22 1100023 (g22 1046 0)) = S 1100007 (S 1046 0) := congrArg ((S 1100007)) (la_object_178 h1578_)
    have e1633_ : S 1100007 (g22 1100023 (g22 1046 0)) = S 1100007 (S 1100023 (S 1046 0)) := congrArg ((S 1100007)) h386_
    have e1634_ : S 1100007 (g22 1100023 (g22 1046 0)) = S 1100007 (S 1100025 (S 1046 0)) := congrArg ((S 1100007)) (la_object_178 h1578_)
    have e1635_ : S 1100007 (g22 1100023 (g22 1046 0)) = S 1100007 (g22 1046 0) := congrArg ((S 1100007)) (la_object_178 h1578_)
    have e1636_ : S 1100007 (g22 1100025 (g22 1046 0)) = S 1100007 (S 1046 0) := congrArg ((S 1100007)) (la_object_178 h1578_)
    have e1637_ : S 1100007 (g22 1100025 (g22 1046 0)) = S 1100007 (S 1100023 (S 1046 0)) := congrArg ((S 1100007)) (la_object_178 h1578_)
    have e1638_ : S 1100007 (g22 1100025 (g22 1046 0)) = S 1100007 (S 1100025 (S 1046 0)) := congrArg ((S 1100007)) h388_
    have e1639_ : S 1100007 (g22 1100025 (g22 1046 0)) = S 1100007 (g22 1046 0) := congrArg ((S 1100007)) (la_object_178 h1578_)
    have e1640_ : S 1100007 (g22 1100025 (g22 1046 0)) = S 1100007 (g22 1100023 (g22 1046 0)) := congrArg ((S 1100007)) (la_object_178 h1578_)
    have e1641_ : S 1100007 (g40 1046 0) = S 1100007 (S 1046 0) := congrArg ((S 1100007)) (la_object_178 h1578_)
    have e1642_ : S 1100007 (g40 1046 0) = S 1100007 (S 1100023 (S 1046 0)) := congrArg ((S 1100007)) (la_object_178 h1578_)
    have e1643_ : S 1100007 (g40 1046 0) = S 1100007 (S 1100025 (S 1046 0)) := congrArg ((S 1100007)) (la_object_178 h1578_)
    have e1644_ : S 1100007 (g40 1046 0) = S 1100007 (g22 1046 0) := congrArg ((S 1100007)) (la_object_178 h1578_)
    have e1645_ : S 1100007 (g40 1046 0) = S 1100007 (g22 1100023 (g22 1046 0)) := congrArg ((S 1100007)) (la_object_178 h1578_)
    have e1646_ : S 1100007 (g40 1046 0) = S 1100007 (g22 1100025 (g22 1046 0)) := congrArg ((S 1100007)) (la_object_178 h1578_)
    have e1647_ : S 1100007 (g40 1100023 (g40 1046 0)) = S 1100007 (S 1046 0) := congrArg ((S 1100007)) (la_object_178 h1578_)
    have e1648_ : S 1100007 (g40 1100023 (g40 1046 0)) = S 1100007 (S 1100023 (S 1046 0)) := congrArg ((S 1100007)) (la_object_178 h1578_)
    have e1649_ : S 1100007 (g40 1100023 (g40 1046 0)) = S 1100007 (S 1100025 (S 1046 0)) := congrArg ((S 1100007)) (la_object_178 h1578_)
    have e1650_ : S 1100007 (g40 1100023 (g40 1046 0)) = S 1100007 (g22 1046 0) := congrArg ((S 1100007)) (la_object_178 h1578_)
    have e1651_ : S 1100007 (g40 1100023 (g40 1046 0)) = S 1100007 (g22 1100023 (g22 1046 0)) := congrArg ((S 1100007)) (la_object_178 h1578_)
    have e1652_ : S 1100007 (g40 1100023 (g40 1046 0)) = S 1100007 (g22 1100025 (g22 1046 0)) := congrArg ((S 1100007)) (la_object_178 h1578_)
    have e1653_ : S 1100007 (g40 1100023 (g40 1046 0)) = S 1100007 (g40 1046 0) := congrArg ((S 1100007)) (la_object_178 h1578_)
    have e1654_ : S 1100007 (g40 1100025 (g40 1046 0)) = S 1100007 (S 1046 0) := congrArg ((S 1100007)) (la_object_178 h1578_)
    have e1655_ : S 1100007 (g40 1100025 (g40 1046 0)) = S 1100007 (S 1100023 (S 1046 0)) := congrArg ((S 1100007)) (la_object_178 h1578_)
    have e1656_ : S 1100007 (g40 1100025 (g40 1046 0)) = S 1100007 (S 1100025 (S 1046 0)) := congrArg ((S 1100007)) (la_object_178 h1578_)
    have e1657_ : S 1100007 (g40 1100025 (g40 1046 0)) = S 1100007 (g22 1046 0) := congrArg ((S 1100007)) (la_object_178 h1578_)
    have e1658_ : S 1100007 (g40 1100025 (g40 1046 0)) = S 1100007 (g22 1100023 (g22 1046 0)) := congrArg ((S 1100007)) (la_object_178 h1578_)
    have e1659_ : S 1100007 (g40 1100025 (g40 1046 0)) = S 1100007 (g22 1100025 (g22 1046 0)) := congrArg ((S 1100007)) (la_object_178 h1578_)
    have e1660_ : S 1100007 (g40 1100025 (g40 1046 0)) = S 1100007 (g40 1046 0) := congrArg ((S 1100007)) (la_object_178 h1578_)
    have e1661_ : S 1100007 (g40 1100025 (g40 1046 0)) = S 1100007 (g40 1100023 (g40 1046 0)) := congrArg ((S 1100007)) (la_object_178 h1578_)
    have e1662_ : S 1100007 (g48 1046 0) = S 1100007 (S 1046 0) := congrArg ((S 1100007)) (la_object_178 h1578_)
    have e1663_ : S 1100007 (g48 1046 0) = S 1100007 (S 1100023 (S 1046 0)) := congrArg ((S 1100007)) (la_object_178 h1578_)
    have e1664_ : S 1100007 (g48 1046 0) = S 1100007 (S 1100025 (S 1046 0)) := congrArg ((S 1100007)) (la_object_178 h1578_)
    have e1665_ : S 1100007 (g48 1046 0) = S 1100007 (g22 1046 0) := congrArg ((S 1100007)) (la_object_178 h1578_)
    have e1666_ : S 1100007 (g48 1046 0) = S 1100007 (g22 1100023 (g22 1046 0)) := congrArg ((S 1100007)) (la_object_178 h1578_)
    have e1667_ : S 1100007 (g48 1046 0) = S 1100007 (g22 1100025 (g22 1046 0)) := congrArg ((S 1100007)) (la_object_178 h1578_)
    have e1668_ : S 1100007 (g48 1046 0) = S 1100007 (g40 1046 0) := congrArg ((S 1100007)) (la_object_178 h1578_)
    have e1669_ : S 1100007 (g48 1046 0) = S 1100007 (g40 1100023 (g40 1046 0)) := congrArg ((S 1100007)) (la_object_178 h1578_)
    have e1670_ : S 1100007 (g48 1046 0) = S 1100007 (g40 1100025 (g40 1046 0)) := congrArg ((S 1100007)) (la_object_178 h1578_)
    have e1671_ : S 1100007 (g48 1100023 (g48 1046 0)) = S 1100007 (S 1046 0) := congrArg ((S 1100007)) (la_object_178 h1578_)
    have e1672_ : S 1100007 (g48 1100023 (g48 1046 0)) = S 1100007 (S 1100023 (S 1046 0)) := congrArg ((S 1100007)) (la_object_178 h1578_)
    have e1673_ : S 1100007 (g48 1100023 (g48 1046 0)) = S 1100007 (S 1100025 (S 1046 0)) := congrArg ((S 1100007)) (la_object_178 h1578_)
    have e1674_ : S 1100007 (g48 1100023 (g48 1046 0)) = S 1100007 (g22 1046 0) := congrArg ((S 1100007)) (la_object_178 h1578_)
    have e1675_ : S 1100007 (g48 1100023 (g48 1046 0)) = S 1100007 (g22 1100023 (g22 1046 0)) := congrArg ((S 1100007)) (la_object_178 h1578_)
    have e1676_ : S 1100007 (g48 1100023 (g48 1046 0)) = S 1100007 (g22 1100025 (g22 1046 0)) := congrArg ((S 1100007)) (la_object_178 h1578_)
    have e1677_ : S 1100007 (g48 1100023 (g48 1046 0)) = S 1100007 (g40 1046 0) := congrArg ((S 1100007)) (la_object_178 h1578_)
    have e1678_ : S 1100007 (g48 1100023 (g48 1046 0)) = S 1100007 (g40 1100023 (g40 1046 0)) := congrArg ((S 1100007)) (la_object_178 h1578_)
    have e1679_ : S 1100007 (g48 1100023 (g48 1046 0)) = S 1100007 (g40 1100025 (g40 1046 0)) := congrArg ((S 1100007)) (la_object_178 h1578_)
    have e1680_ : S 1100007 (g48 1100023 (g48 1046 0)) = S 1100007 (g48 1046 0) := congrArg ((S 1100007)) (la_object_178 h1578_)
    have e1681_ : S 1100007 (g48 1100025 (g48 1046 0)) = S 1100007 (S 1046 0) := congrArg ((S 1100007)) (la_object_178 h1578_)
    have e1682_ : S 1100007 (g48 1100025 (g48 1046 0)) = S 1100007 (S 1100023 (S 1046 0)) := congrArg ((S 1100007)) (la_object_178 h1578_)
    have e1683_ : S 1100007 (g48 1100025 (g48 1046 0)) = S 1100007 (S 1100025 (S 1046 0)) := congrArg ((S 1100007)) (la_object_178 h1578_)
    have e1684_ : S 1100007 (g48 1100025 (g48 1046 0)) = S 1100007 (g22 1046 0) := congrArg ((S 1100007)) (la_object_178 h1578_)
    have e1685_ : S 1100007 (g48 1100025 (g48 1046 0)) = S 1100007 (g22 1100023 (g22 1046 0)) := congrArg ((S 1100007)) (la_object_178 h1578_)
    have e1686_ : S 1100007 (g48 1100025 (g48 1046 0)) = S 1100007 (g22 1100025 (g22 1046 0)) := congrArg ((S 1100007)) (la_object_178 h1578_)
    have e1687_ : S 1100007 (g48 1100025 (g48 1046 0)) = S 1100007 (g40 1046 0) := congrArg ((S 1100007)) (la_object_178 h1578_)
    have e1688_ : S 1100007 (g48 1100025 (g48 1046 0)) = S 1100007 (g40 1100023 (g40 1046 0)) := congrArg ((S 1100007)) (la_object_178 h1578_)
    have e1689_ : S 1100007 (g48 1100025 (g48 1046 0)) = S 1100007 (g40 1100025 (g40 1046 0)) := congrArg ((S 1100007)) (la_object_178 h1578_)
    have e1690_ : S 1100007 (g48 1100025 (g48 1046 0)) = S 1100007 (g48 1046 0) := congrArg ((S 1100007)) (la_object_178 h1578_)
    have e1691_ : S 1100007 (g48 1100025 (g48 1046 0)) = S 1100007 (g48 1100023 (g48 1046 0)) := congrArg ((S 1100007)) (la_object_178 h1578_)
    have e1692_ : S 1100023 (g22 1046 0) = S 1100023 (S 1046 0) := congrArg ((S 1100023)) (la_object_178 h1578_)
    have e1693_ : S 1100023 (g40 1046 0) = S 1100023 (S 1046 0) := congrArg ((S 1100023)) (la_object_178 h1578_)
    have e1694_ : S 1100023 (g40 1046 0) = S 1100023 (g22 1046 0) := congrArg ((S 1100023)) (la_object_178 h1578_)
    have e1695_ : S 1100023 (g48 1046 0) = S 1100023 (S 1046 0) := congrArg ((S 1100023)) (la_object_178 h1578_)
    have e1696_ : S 1100023 (g48 1046 0) = S 1100023 (g22 1046 0) := congrArg ((S 1100023)) (la_object_178 h1578_)
    have e1697_ : S 1100023 (g48 1046 0) = S 1100023 (g40 1046 0) := congrArg ((S 1100023)) (la_object_178 h1578_)
    have e1698_ : S 1100024 (g22 1046 0) = S 1100024 (S 1046 0) := congrArg ((S 1100024)) (la_object_178 h1578_)
    have e1699_ : S 1100024 (g40 1046 0) = S 1100024 (S 1046 0) := congrArg ((S 1100024)) (la_object_178 h1578_)
    have e1700_ : S 1100024 (g40 1046 0) = S 1100024 (g22 1046 0) := congrArg ((S 1100024)) (la_object_178 h1578_)
    have e1701_ : S 1100024 (g48 1046 0) = S 1100024 (S 1046 0) := congrArg ((S 1100024)) (la_object_178 h1578_)
    have e1702_ : S 1100024 (g48 1046 0) = S 1100024 (g22 1046 0) := congrArg ((S 1100024)) (la_object_178 h1578_)
    have e1703_ : S 1100024 (g48 1046 0) = S 1100024 (g40 1046 0) := congrArg ((S 1100024)) (la_object_178 h1578_)
    have e1704_ : S 1100025 (g22 1046 0) = S 1100025 (S 1046 0) := congrArg ((S 1100025)) (la_object_178 h1578_)
    have e1705_ : S 1100025 (g40 1046 0) = S 1100025 (S 1046 0) := congrArg ((S 1100025)) (la_object_178 h1578_)
    have e1706_ : S 1100025 (g40 1046 0) = S 1100025 (g22 1046 0) := congrArg ((S 1100025)) (la_object_178 h1578_)
    have e1707_ : S 1100025 (g48 1046 0) = S 1100025 (S 1046 0) := congrArg ((S 1100025)) (la_object_178 h1578_)
    have e1708_ : S 1100025 (g48 1046 0) = S 1100025 (g22 1046 0) := congrArg ((S 1100025)) (la_object_178 h1578_)
    have e1709_ : S 1100025 (g48 1046 0) = S 1100025 (g40 1046 0) := congrArg ((S 1100025)) (la_object_178 h1578_)
    have e1710_ : S 12 (5 * S 12 (5 * l2_23) + 1) = S 12 (5 * l2_23) := congrArg ((S 12)) (la_object_179 h1578_)
    have e1711_ : S 12 (5 * l2_23 + 0) = S 12 (5 * l2_23) := congrArg ((S 12)) la_object_56
    have e1712_ : S 12 (5 * l2_23 + 0) = S 12 (5 * S 12 (5 * l2_23) + 1) := congrArg ((S 12)) (la_object_180 h1578_)
    have e1713_ : S 12 (5 * l2_23 + 1) = S 12 (5 * l2_23) := congrArg ((S 12)) (la_object_181 h1578_)
    have e1714_ : S 12 (5 * l2_23 + 1) = S 12 (5 * S 12 (5 * l2_23) + 1) := congrArg ((S 12)) (la_object_182 h1578_)
    have e1715_ : S 12 (5 * l2_23 + 1) = S 12 (5 * l2_23 + 0) := congrArg ((S 12)) (la_object_183 h1578_)
    have e1716_ : S 26 (g40 1046 0) = S 26 (g22 1046 0) := congrArg ((S 26)) (la_object_178 h1578_)
    have e1717_ : S 29 (g40 1046 0) = S 29 (g22 1046 0) := congrArg ((S 29)) (la_object_178 h1578_)
    have e1718_ : g22 1100007 (g22 1100023 (g22 1046 0)) = g22 1100007 (g22 1046 0) := congrArg ((g22 1100007)) (la_object_178 h1578_)
    have e1719_ : g22 1100007 (g22 1100023 (g22 1100023 (g22 1046 0))) = g22 1100007 (g22 1046 0) := congrArg ((g22 1100007)) (la_object_178 h1578_)
    have e1720_ : g22 1100007 (g22 1100023 (g22 1100023 (g22 1046 0))) = g22 1100007 (g22 1100023 (g22 1046 0)) := congrArg ((g22 1100007)) (la_object_178 h1578_)
    have e1721_ : g22 1100007 (g22 1100025 (g22 1046 0)) = g22 1100007 (g22 1046 0) := congrArg ((g22 1100007)) (la_object_178 h1578_)
    have e1722_ : g22 1100007 (g22 1100025 (g22 1046 0)) = g22 1100007 (g22 1100023 (g22 1046 0)) := congrArg ((g22 1100007)) (la_object_178 h1578_)
    have e1723_ : g22 1100007 (g22 1100025 (g22 1046 0)) = g22 1100007 (g22 1100023 (g22 1100023 (g22 1046 0))) := congrArg ((g22 1100007)) (la_object_178 h1578_)
    have e1724_ : g22 1100007 (g40 1046 0) = g22 1100007 (g22 1046 0) := congrArg ((g22 1100007)) (la_object_178 h1578_)
    have e1725_ : g22 1100007 (g40 1046 0) = g22 1100007 (g22 1100023 (g22 1046 0)) := congrArg ((g22 1100007)) (la_object_178 h1578_)
    have e1726_ : g22 1100007 (g40 1046 0) = g22 1100007 (g22 1100023 (g22 1100023 (g22 1046 0))) := congrArg ((g22 1100007)) (la_object_178 h1578_)
    have e1727_ : g22 1100007 (g40 1046 0) = g22 1100007 (g22 1100025 (g22 1046 0)) := congrArg ((g22 1100007)) (la_object_178 h1578_)
    have e1728_ : g22 1100007 (g40 1100023 (g40 1046 0)) = g22 1100007 (g22 1046 0) := congrArg ((g22 1100007)) (la_object_178 h1578_)
    have e1729_ : g22 1100007 (g40 1100023 (g40 1046 0)) = g22 1100007 (g22 1100023 (g22 1046 0)) := congrArg ((g22 1100007)) (la_object_178 h1578_)
    have e1730_ : g22 1100007 (g40 1100023 (g40 1046 0)) = g22 1100007 (g22 1100023 (g22 1100023 (g22 1046 0))) := congrArg ((g22 1100007)) (la_object_178 h1578_)
    have e1731_ : g22 1100007 (g40 1100023 (g40 1046 0)) = g22 1100007 (g22 1100025 (g22 1046 0)) := congrArg ((g22 1100007)) (la_object_178 h1578_)
    have e1732_ : g22 1100007 (g40 1100023 (g40 1046 0)) = g22 1100007 (g40 1046 0) := congrArg ((g22 1100007)) (la_object_178 h1578_)
    have e1733_ : g22 1100007 (g40 1100025 (g40 1046 0)) = g22 1100007 (g22 1046 0) := congrArg ((g22 1100007)) (la_object_178 h1578_)
    have e1734_ : g22 1100007 (g40 1100025 (g40 1046 0)) = g22 1100007 (g22 1100023 (g22 1046 0)) := congrArg ((g22 1100007)) (la_object_178 h1578_)
    have e1735_ : g22 1100007 (g40 1100025 (g40 1046 0)) = g22 1100007 (g22 1100023 (g22 1100023 (g22 1046 0))) := congrArg ((g22 1100007)) (la_object_178 h1578_)
    have e1736_ : g22 1100007 (g40 1100025 (g40 1046 0)) = g22 1100007 (g22 1100025 (g22 1046 0)) := congrArg ((g22 1100007)) (la_object_178 h1578_)
    have e1737_ : g22 1100007 (g40 1100025 (g40 1046 0)) = g22 1100007 (g40 1046 0) := congrArg ((g22 1100007)) (la_object_178 h1578_)
    have e1738_ : g22 1100007 (g40 1100025 (g40 1046 0)) = g22 1100007 (g40 1100023 (g40 1046 0)) := congrArg ((g22 1100007)) (la_object_178 h1578_)
    have e1739_ : g22 1100007 (g48 1046 0) = g22 1100007 (g22 1046 0) := congrArg ((g22 1100007)) (la_object_178 h1578_)
    have e1740_ : g22 1100007 (g48 1046 0) = g22 1100007 (g22 1100023 (g22 1046 0)) := congrArg ((g22 1100007)) (la_object_178 h1578_)
    have e1741_ : g22 1100007 (g48 1046 0) = g22 1100007 (g22 1100023 (g22 1100023 (g22 1046 0))) := congrArg ((g22 1100007)) (la_object_178 h1578_)
    have e1742_ : g22 1100007 (g48 1046 0) = g22 1100007 (g22 1100025 (g22 1046 0)) := congrArg ((g22 1100007)) (la_object_178 h1578_)
    have e1743_ : g22 1100007 (g48 1046 0) = g22 1100007 (g40 1046 0) := congrArg ((g22 1100007)) (la_object_178 h1578_)
    have e1744_ : g22 1100007 (g48 1046 0) = g22 1100007 (g40 1100023 (g40 1046 0)) := congrArg ((g22 1100007)) (la_object_178 h1578_)
    have e1745_ : g22 1100007 (g48 1046 0) = g22 1100007 (g40 1100025 (g40 1046 0)) := congrArg ((g22 1100007)) (la_object_178 h1578_)
    have e1746_ : g22 1100007 (g48 1100023 (g48 1046 0)) = g22 1100007 (g22 1046 0) := congrArg ((g22 1100007)) (la_object_178 h1578_)
    have e1747_ : g22 1100007 (g48 1100023 (g48 1046 0)) = g22 1100007 (g22 1100023 (g22 1046 0)) := congrArg ((g22 1100007)) (la_object_178 h1578_)
    have e1748_ : g22 1100007 (g48 1100023 (g48 1046 0)) = g22 1100007 (g22 1100023 (g22 1100023 (g22 1046 0))) := congrArg ((g22 1100007)) (la_object_178 h1578_)
    have e1749_ : g22 1100007 (g48 1100023 (g48 1046 0)) = g22 1100007 (g22 1100025 (g22 1046 0)) := congrArg ((g22 1100007)) (la_object_178 h1578_)
    have e1750_ : g22 1100007 (g48 1100023 (g48 1046 0)) = g22 1100007 (g40 1046 0) := congrArg ((g22 1100007)) (la_object_178 h1578_)
    have e1751_ : g22 1100007 (g48 1100023 (g48 1046 0)) = g22 1100007 (g40 1100023 (g40 1046 0)) := congrArg ((g22 1100007)) (la_object_178 h1578_)
    have e1752_ : g22 1100007 (g48 1100023 (g48 1046 0)) = g22 1100007 (g40 1100025 (g40 1046 0)) := congrArg ((g22 1100007)) (la_object_178 h1578_)
    have e1753_ : g22 1100007 (g48 1100023 (g48 1046 0)) = g22 1100007 (g48 1046 0) := congrArg ((g22 1100007)) (la_object_178 h1578_)
    have e1754_ : g22 1100007 (g48 1100025 (g48 1046 0)) = g22 1100007 (g22 1046 0) := congrArg ((g22 1100007)) (la_object_178 h1578_)
    have e1755_ : g22 1100007 (g48 1100025 (g48 1046 0)) = g22 1100007 (g22 1100023 (g22 1046 0)) := congrArg ((g22 1100007)) (la_object_178 h1578_)
    have e1756_ : g22 1100007 (g48 1100025 (g48 1046 0)) = g22 1100007 (g22 1100023 (g22 1100023 (g22 1046 0))) := congrArg ((g22 1100007)) (la_object_178 h1578_)
    have e1757_ : g22 1100007 (g48 1100025 (g48 1046 0)) = g22 1100007 (g22 1100025 (g22 1046 0)) := congrArg ((g22 1100007)) (la_object_178 h1578_)
    have e1758_ : g22 1100007 (g48 1100025 (g48 1046 0)) = g22 1100007 (g40 1046 0) := congrArg ((g22 1100007)) (la_object_178 h1578_)
    have e1759_ : g22 1100007 (g48 1100025 (g48 1046 0)) = g22 1100007 (g40 1100023 (g40 1046 0)) := congrArg ((g22 1100007)) (la_object_178 h1578_)
    have e1760_ : g22 1100007 (g48 1100025 (g48 1046 0)) = g22 1100007 (g40 1100025 (g40 1046 0)) := congrArg ((g22 1100007)) (la_object_178 h1578_)
    have e1761_ : g22 1100007 (g48 1100025 (g48 1046 0)) = g22 1100007 (g48 1046 0) := congrArg ((g22 1100007)) (la_object_178 h1578_)
    have e1762_ : g22 1100007 (g48 1100025 (g48 1046 0)) = g22 1100007 (g48 1100023 (g48 1046 0)) := congrArg ((g22 1100007)) (la_object_178 h1578_)
    have e1763_ : g22 1100007 (g58 1046 0) = g22 1100007 (g22 1046 0) := congrArg ((g22 1100007)) (la_object_178 h1578_)
    have e1764_ : g22 1100007 (g58 1046 0) = g22 1100007 (g22 1100023 (g22 1046 0)) := congrArg ((g22 1100007)) (la_object_178 h1578_)
    have e1765_ : g22 1100007 (g58 1046 0) = g22 1100007 (g22 1100023 (g22 1100023 (g22 1046 0))) := congrArg ((g22 1100007)) (la_object_178 h1578_)
    have e1766_ : g22 1100007 (g58 1046 0) = g22 1100007 (g22 1100025 (g22 1046 0)) := congrArg ((g22 1100007)) (la_object_178 h1578_)
    have e1767_ : g22 1100007 (g58 1046 0) = g22 1100007 (g40 1046 0) := congrArg ((g22 1100007)) (la_object_178 h1578_)
    have e1768_ : g22 1100007 (g58 1046 0) = g22 1100007 (g40 1100023 (g40 1046 0)) := congrArg ((g22 1100007)) (la_object_178 h1578_)
    have e1769_ : g22 1100007 (g58 1046 0) = g22 1100007 (g40 1100025 (g40 1046 0)) := congrArg ((g22 1100007)) (la_object_178 h1578_)
    have e1770_ : g22 1100007 (g58 1046 0) = g22 1100007 (g48 1046 0) := congrArg ((g22 1100007)) (la_object_178 h1578_)
    have e1771_ : g22 1100007 (g58 1046 0) = g22 1100007 (g48 1100023 (g48 1046 0)) := congrArg ((g22 1100007)) (la_object_178 h1578_)
    have e1772_ : g22 1100007 (g58 1046 0) = g22 1100007 (g48 1100025 (g48 1046 0)) := congrArg ((g22 1100007)) (la_object_178 h1578_)
    have e1773_ : g22 1100007 (g58 1100023 (g58 1046 0)) = g22 1100007 (g22 1046 0) := congrArg ((g22 1100007)) (la_object_178 h1578_)
    have e1774_ : g22 1100007 (g58 1100023 (g58 1046 0)) = g22 1100007 (g22 1100023 (g22 1046 0)) := congrArg ((g22 1100007)) (la_object_178 h1578_)
    have e1775_ : g22 1100007 (g58 1100023 (g58 1046 0)) = g22 1100007 (g22 1100023 (g22 1100023 (g22 1046 0))) := congrArg ((g22 1100007)) (la_object_178 h1578_)
    have e1776_ : g22 1100007 (g58 1100023 (g58 1046 0)) = g22 1100007 (g22 1100025 (g22 1046 0)) := congrArg ((g22 1100007)) (la_object_178 h1578_)
    have e1777_ : g22 1100007 (g58 1100023 (g58 1046 0)) = g22 1100007 (g40 1046 0) := congrArg ((g22 1100007)) (la_object_178 h1578_)
    have e1778_ : g22 1100007 (g58 1100023 (g58 1046 0)) = g22 1100007 (g40 1100023 (g40 1046 0)) := congrArg ((g22 1100007)) (la_object_178 h1578_)
    have e1779_ : g22 1100007 (g58 1100023 (g58 1046 0)) = g22 1100007 (g40 1100025 (g40 1046 0)) := congrArg ((g22 1100007)) (la_object_178 h1578_)
    have e1780_ : g22 1100007 (g58 1100023 (g58 1046 0)) = g22 1100007 (g48 1046 0) := congrArg ((g22 1100007)) (la_object_178 h1578_)
    have e1781_ : g22 1100007 (g58 1100023 (g58 1046 0)) = g22 1100007 (g48 1100023 (g48 1046 0)) := congrArg ((g22 1100007)) h1534_
    have e1782_ : g22 1100007 (g58 1100023 (g58 1046 0)) = g22 1100007 (g48 1100025 (g48 1046 0)) := congrArg ((g22 1100007)) (la_object_178 h1578_)
    have e1783_ : g22 1100007 (g58 1100023 (g58 1046 0)) = g22 1100007 (g58 1046 0) := congrArg ((g22 1100007)) (la_object_178 h1578_)
    have e1784_ : g22 1100007 (g58 1100025 (g58 1046 0)) = g22 1100007 (g22 1046 0) := congrArg ((g22 1100007)) (la_object_178 h1578_)
    have e1785_ : g22 1100007 (g58 1100025 (g58 1046 0)) = g22 1100007 (g22 1100023 (g22 1046 0)) := congrArg ((g22 1100007)) (la_object_178 h1578_)
    have e1786_ : g22 1100007 (g58 1100025 (g58 1046 0)) = g22 1100007 (g22 1100023 (g22 1100023 (g22 1046 0))) := congrArg ((g22 1100007)) (la_object_178 h1578_)
    have e1787_ : g22 1100007 (g58 1100025 (g58 1046 0)) = g22 1100007 (g22 1100025 (g22 1046 0)) := congrArg ((g22 1100007)) (la_object_178 h1578_)
    have e1788_ : g22 1100007 (g58 1100025 (g58 1046 0)) = g22 1100007 (g40 1046 0) := congrArg ((g22 1100007)) (la_object_178 h1578_)
    have e1789_ : g22 1100007 (g58 1100025 (g58 1046 0)) = g22 1100007 (g40 1100023 (g40 1046 0)) := congrArg ((g22 1100007)) (la_object_178 h1578_)
    have e1790_ : g22 1100007 (g58 1100025 (g58 1046 0)) = g22 1100007 (g40 1100025 (g40 1046 0)) := congrArg ((g22 1100007)) (la_object_178 h1578_)
    have e1791_ : g22 1100007 (g58 1100025 (g58 1046 0)) = g22 1100007 (g48 1046 0) := congrArg ((g22 1100007)) (la_object_178 h1578_)
    have e1792_ : g22 1100007 (g58 1100025 (g58 1046 0)) = g22 1100007 (g48 1100023 (g48 1046 0)) := congrArg ((g22 1100007)) (la_object_178 h1578_)
    have e1793_ : g22 1100007 (g58 1100025 (g58 1046 0)) = g22 1100007 (g48 1100025 (g48 1046 0)) := congrArg ((g22 1100007)) h1536_
    have e1794_ : g22 1100007 (g58 1100025 (g58 1046 0)) = g22 1100007 (g58 1046 0) := congrArg ((g22 1100007)) (la_object_178 h1578_)
    have e1795_ : g22 1100007 (g58 1100025 (g58 1046 0)) = g22 1100007 (g58 1100023 (g58 1046 0)) := congrArg ((g22 1100007)) (la_object_178 h1578_)
    have e1796_ : g22 1100023 (g22 1100023 (g22 1046 0)) = g22 1100023 (g22 1046 0) := congrArg ((g22 1100023)) (la_object_178 h1578_)
    have e1797_ : g22 1100023 (g40 1046 0) = g22 1100023 (g22 1046 0) := congrArg ((g22 1100023)) (la_object_178 h1578_)
    have e1798_ : g22 1100023 (g40 1046 0) = g22 1100023 (g22 1100023 (g22 1046 0)) := congrArg ((g22 1100023)) (la_object_178 h1578_)
    have e1799_ : g22 1100023 (g48 1046 0) = g22 1100023 (g22 1046 0) := congrArg ((g22 1100023)) (la_object_178 h1578_)
    have e1800_ : g22 1100023 (g48 1046 0) = g22 1100023 (g22 1100023 (g22 1046 0)) := congrArg ((g22 1100023)) (la_object_178 h1578_)
    have e1801_ : g22 1100023 (g48 1046 0) = g22 1100023 (g40 1046 0) := congrArg ((g22 1100023)) (la_object_178 h1578_)
    have e1802_ : g22 1100023 (g58 1046 0) = g22 1100023 (g22 1046 0) := congrArg ((g22 1100023)) (la_object_178 h1578_)
    have e1803_ : g22 1100023 (g58 1046 0) = g22 1100023 (g22 1100023 (g22 1046 0)) := congrArg ((g22 1100023)) (la_object_178 h1578_)
    have e1804_ : g22 1100023 (g58 1046 0) = g22 1100023 (g40 1046 0) := congrArg ((g22 1100023)) (la_object_178 h1578_)
    have e1805_ : g22 1100023 (g58 1046 0) = g22 1100023 (g48 1046 0) := congrArg ((g22 1100023)) (la_object_178 h1578_)
    have e1806_ : g22 1100024 (g40 1046 0) = g22 1100024 (g22 1046 0) := congrArg ((g22 1100024)) (la_object_178 h1578_)
    have e1807_ : g22 1100024 (g48 1046 0) = g22 1100024 (g22 1046 0) := congrArg ((g22 1100024)) (la_object_178 h1578_)
    have e1808_ : g22 1100024 (g48 1046 0) = g22 1100024 (g40 1046 0) := congrArg ((g22 1100024)) (la_object_178 h1578_)
    have e1809_ : g22 1100024 (g58 1046 0) = g22 1100024 (g22 1046 0) := congrArg ((g22 1100024)) (la_object_178 h1578_)
    have e1810_ : g22 1100024 (g58 1046 0) = g22 1100024 (g40 1046 0) := congrArg ((g22 1100024)) (la_object_178 h1578_)
    have e1811_ : g22 1100024 (g58 1046 0) = g22 1100024 (g48 1046 0) := congrArg ((g22 1100024)) (la_object_178 h1578_)
    have e1812_ : g22 1100025 (g22 1100025 (g22 1046 0)) = g22 1100025 (g22 1046 0) := congrArg ((g22 1100025)) (la_object_178 h1578_)
    have e1813_ : g22 1100025 (g40 1046 0) = g22 1100025 (g22 1046 0) := congrArg ((g22 1100025)) (la_object_178 h1578_)
    have e1814_ : g22 1100025 (g40 1046 0) = g22 1100025 (g22 1100025 (g22 1046 0)) := congrArg ((g22 1100025)) (la_object_178 h1578_)
    have e1815_ : g22 1100025 (g48 1046 0) = g22 1100025 (g22 1046 0) := congrArg ((g22 1100025)) (la_object_178 h1578_)
    have e1816_ : g22 1100025 (g48 1046 0) = g22 1100025 (g22 1100025 (g22 1046 0)) := congrArg ((g22 1100025)) (la_object_178 h1578_)
    have e1817_ : g22 1100025 (g48 1046 0) = g22 1100025 (g40 1046 0) := congrArg ((g22 1100025)) (la_object_178 h1578_)
    have e1818_ : g22 1100025 (g58 1046 0) = g22 1100025 (g22 1046 0) := congrArg ((g22 1100025)) (la_object_178 h1578_)
    have e1819_ : g22 1100025 (g58 1046 0) = g22 1100025 (g22 1100025 (g22 1046 0)) := congrArg ((g22 1100025)) (la_object_178 h1578_)
    have e1820_ : g22 1100025 (g58 1046 0) = g22 1100025 (g40 1046 0) := congrArg ((g22 1100025)) (la_object_178 h1578_)
    have e1821_ : g22 1100025 (g58 1046 0) = g22 1100025 (g48 1046 0) := congrArg ((g22 1100025)) (la_object_178 h1578_)
    have e1822_ : g22 26 (g40 1046 0) = g22 26 (g22 1046 0) := congrArg ((g22 26)) (la_object_178 h1578_)
    have e1823_ : g22 29 (g40 1046 0) = g22 29 (g22 1046 0) := congrArg ((g22 29)) (la_object_178 h1578_)
    have e1824_ : g40 1100007 (g40 1100023 (g40 1046 0)) = g40 1100007 (g40 1046 0) := congrArg ((g40 1100007)) (la_object_178 h1578_)
    have e1825_ : g40 1100007 (g40 1100023 (g40 1100023 (g40 1046 0))) = g40 1100007 (g40 1046 0) := congrArg ((g40 1100007)) (la_object_178 h1578_)
    have e1826_ : g40 1100007 (g40 1100023 (g40 1100023 (g40 1046 0))) = g40 1100007 (g40 1100023 (g40 1046 0)) := congrArg ((g40 1100007)) (la_object_178 h1578_)
    have e1827_ : g40 1100007 (g40 1100025 (g40 1046 0)) = g40 1100007 (g40 1046 0) := congrArg ((g40 1100007)) (la_object_178 h1578_)
    have e1828_ : g40 1100007 (g40 1100025 (g40 1046 0)) = g40 1100007 (g40 1100023 (g40 1046 0)) := congrArg ((g40 1100007)) (la_object_178 h1578_)
    have e1829_ : g40 1100007 (g40 1100025 (g40 1046 0)) = g40 1100007 (g40 1100023 (g40 1100023 (g40 1046 0))) := congrArg ((g40 1100007)) (la_object_178 h1578_)
    have e1830_ : g40 1100007 (g48 1046 0) = g40 1100007 (g40 1046 0) := congrArg ((g40 1100007)) (la_object_178 h1578_)
    have e1831_ : g40 1100007 (g48 1046 0) = g40 1100007 (g40 1100023 (g40 1046 0)) := congrArg ((g40 1100007)) (la_object_178 h1578_)
    have e1832_ : g40 1100007 (g48 1046 0) = g40 1100007 (g40 1100023 (g40 1100023 (g40 1046 0))) := congrArg ((g40 1100007)) (la_object_178 h1578_)
    have e1833_ : g40 1100007 (g48 1046 0) = g40 1100007 (g40 1100025 (g40 1046 0)) := congrArg ((g40 1100007)) (la_object_178 h1578_)
    have e1834_ : g40 1100007 (g48 1100023 (g48 1046 0)) = g40 1100007 (g40 1046 0) := congrArg ((g40 1100007)) (la_object_178 h1578_)
    have e1835_ : g40 1100007 (g48 1100023 (g48 1046 0)) = g40 1100007 (g40 1100023 (g40 1046 0)) := congrArg ((g40 1100007)) (la_object_178 h1578_)
    have e1836_ : g40 1100007 (g48 1100023 (g48 1046 0)) = g40 1100007 (g40 1100023 (g40 1100023 (g40 1046 0))) := congrArg ((g40 1100007)) (la_object_178 h1578_)
    have e1837_ : g40 1100007 (g48 1100023 (g48 1046 0)) = g40 1100007 (g40 1100025 (g40 1046 0)) := congrArg ((g40 1100007)) (la_object_178 h1578_)
    have e1838_ : g40 1100007 (g48 1100023 (g48 1046 0)) = g40 1100007 (g48 1046 0) := congrArg ((g40 1100007)) (la_object_178 h1578_)
    have e1839_ : g40 1100007 (g48 1100025 (g48 1046 0)) = g40 1100007 (g40 1046 0) := congrArg ((g40 1100007)) (la_object_178 h1578_)
    have e1840_ : g40 1100007 (g48 1100025 (g48 1046 0)) = g40 1100007 (g40 1100023 (g40 1046 0)) := congrArg ((g40 1100007)) (la_object_178 h1578_)
    have e1841_ : g40 1100007 (g48 1100025 (g48 1046 0)) = g40 1100007 (g40 1100023 (g40 1100023 (g40 1046 0))) := congrArg ((g40 1100007)) (la_object_178 h1578_)
    have e1842_ : g40 1100007 (g48 1100025 (g48 1046 0)) = g40 1100007 (g40 1100025 (g40 1046 0)) := congrArg ((g40 1100007)) (la_object_178 h1578_)
    have e1843_ : g40 1100007 (g48 1100025 (g48 1046 0)) = g40 1100007 (g48 1046 0) := congrArg ((g40 1100007)) (la_object_178 h1578_)
    have e1844_ : g40 1100007 (g48 1100025 (g48 1046 0)) = g40 1100007 (g48 1100023 (g48 1046 0)) := congrArg ((g40 1100007)) (la_object_178 h1578_)
    have e1845_ : g40 1100007 (g58 1046 0) = g40 1100007 (g40 1046 0) := congrArg ((g40 1100007)) (la_object_178 h1578_)
    have e1846_ : g40 1100007 (g58 1046 0) = g40 1100007 (g40 1100023 (g40 1046 0)) := congrArg ((g40 1100007)) (la_object_178 h1578_)
    have e1847_ : g40 1100007 (g58 1046 0) = g40 1100007 (g40 1100023 (g40 1100023 (g40 1046 0))) := congrArg ((g40 1100007)) (la_object_178 h1578_)
    have e1848_ : g40 1100007 (g58 1046 0) = g40 1100007 (g40 1100025 (g40 1046 0)) := congrArg ((g40 1100007)) (la_object_178 h1578_)
    have e1849_ : g40 1100007 (g58 1046 0) = g40 1100007 (g48 1046 0) := congrArg ((g40 1100007)) (la_object_178 h1578_)
    have e1850_ : g40 1100007 (g58 1046 0) = g40 1100007 (g48 1100023 (g48 1046 0)) := congrArg ((g40 1100007)) (la_object_178 h1578_)
    have e1851_ : g40 1100007 (g58 1046 0) = g40 1100007 (g48 1100025 (g48 1046 0)) := congrArg ((g40 1100007)) (la_object_178 h1578_)
    have e1852_ : g40 1100007 (g58 1100023 (g58 1046 0)) = g40 1100007 (g40 1046 0) := congrArg ((g40 1100007)) (la_object_178 h1578_)
    have e1853_ : g40 1100007 (g58 1100023 (g58 1046 0)) = g40 1100007 (g40 1100023 (g40 1046 0)) := congrArg ((g40 1100007)) (la_object_178 h1578_)
    have e1854_ : g40 1100007 (g58 1100023 (g58 1046 0)) = g40 1100007 (g40 1100023 (g40 1100023 (g40 1046 0))) := congrArg ((g40 1100007)) (la_object_178 h1578_)
    have e1855_ : g40 1100007 (g58 1100023 (g58 1046 0)) = g40 1100007 (g40 1100025 (g40 1046 0)) := congrArg ((g40 1100007)) (la_object_178 h1578_)
    have e1856_ : g40 1100007 (g58 1100023 (g58 1046 0)) = g40 1100007 (g48 1046 0) := congrArg ((g40 1100007)) (la_object_178 h1578_)
    have e1857_ : g40 1100007 (g58 1100023 (g58 1046 0)) = g40 1100007 (g48 1100023 (g48 1046 0)) := congrArg ((g40 1100007)) h1534_
    have e1858_ : g40 1100007 (g58 1100023 (g58 1046 0)) = g40 1100007 (g48 1100025 (g48 1046 0)) := congrArg ((g40 1100007)) (la_object_178 h1578_)
    have e1859_ : g40 1100007 (g58 1100023 (g58 1046 0)) = g40 1100007 (g58 1046 0) := congrArg ((g40 1100007)) (la_object_178 h1578_)
    have e1860_ : g40 1100007 (g58 1100025 (g58 1046 0)) = g40 1100007 (g40 1046 0) := congrArg ((g40 1100007)) (la_object_178 h1578_)
    have e1861_ : g40 1100007 (g58 1100025 (g58 1046 0)) = g40 1100007 (g40 1100023 (g40 1046 0)) := congrArg ((g40 1100007)) (la_object_178 h1578_)
    have e1862_ : g40 1100007 (g58 1100025 (g58 1046 0)) = g40 1100007 (g40 1100023 (g40 1100023 (g40 1046 0))) := congrArg ((g40 1100007)) (la_object_178 h1578_)
    have e1863_ : g40 1100007 (g58 1100025 (g58 1046 0)) = g40 1100007 (g40 1100025 (g40 1046 0)) := congrArg ((g40 1100007)) (la_object_178 h1578_)
    have e1864_ : g40 1100007 (g58 1100025 (g58 1046 0)) = g40 1100007 (g48 1046 0) := congrArg ((g40 1100007)) (la_object_178 h1578_)
    have e1865_ : g40 1100007 (g58 1100025 (g58 1046 0)) = g40 1100007 (g48 1100023 (g48 1046 0)) := congrArg ((g40 1100007)) (la_object_178 h1578_)
    have e1866_ : g40 1100007 (g58 1100025 (g58 1046 0)) = g40 1100007 (g48 1100025 (g48 1046 0)) := congrArg ((g40 1100007)) h1536_
    have e1867_ : g40 1100007 (g58 1100025 (g58 1046 0)) = g40 1100007 (g58 1046 0) := congrArg ((g40 1100007)) (la_object_178 h1578_)
    have e1868_ : g40 1100007 (g58 1100025 (g58 1046 0)) = g40 1100007 (g58 1100023 (g58 1046 0)) := congrArg ((g40 1100007)) (la_object_178 h1578_)
    have e1869_ : g40 1100007 (g65 1046 0) = g40 1100007 (g40 1046 0) := congrArg ((g40 1100007)) (la_object_178 h1578_)
    have e1870_ : g40 1100007 (g65 1046 0) = g40 1100007 (g40 1100023 (g40 1046 0)) := congrArg ((g40 1100007)) (la_object_178 h1578_)
    have e1871_ : g40 1100007 (g65 1046 0) = g40 1100007 (g40 1100023 (g40 1100023 (g40 1046 0))) := congrArg ((g40 1100007)) (la_object_178 h1578_)
    have e1872_ : g40 1100007 (g65 1046 0) = g40 1100007 (g40 1100025 (g40 1046 0)) := congrArg ((g40 1100007)) (la_object_178 h1578_)
    have e1873_ : g40 1100007 (g65 1046 0) = g40 1100007 (g48 1046 0) := congrArg ((g40 1100007)) (la_object_178 h1578_)
    have e1874_ : g40 1100007 (g65 1046 0) = g40 1100007 (g48 1100023 (g48 1046 0)) := congrArg ((g40 1100007)) (la_object_178 h1578_)
    have e1875_ : g40 1100007 (g65 1046 0) = g40 1100007 (g48 1100025 (g48 1046 0)) := congrArg ((g40 1100007)) (la_object_178 h1578_)
    have e1876_ : g40 1100007 (g65 1046 0) = g40 1100007 (g58 1046 0) := congrArg ((g40 1100007)) (la_object_178 h1578_)
    have e1877_ : g40 1100007 (g65 1046 0) = g40 1100007 (g58 1100023 (g58 1046 0)) := congrArg ((g40 1100007)) (la_object_178 h1578_)
    have e1878_ : g40 1100007 (g65 1046 0) = g40 1100007 (g58 1100025 (g58 1046 0)) := congrArg ((g40 1100007)) (la_object_178 h1578_)
    have e1879_ : g40 1100007 (g65 1100023 (g65 1046 0)) = g40 1100007 (g40 1046 0) := congrArg ((g40 1100007)) (la_object_178 h1578_)
    have e1880_ : g40 1100007 (g65 1100023 (g65 1046 0)) = g40 1100007 (g40 1100023 (g40 1046 0)) := congrArg ((g40 1100007)) (la_object_178 h1578_)
    have e1881_ : g40 1100007 (g65 1100023 (g65 1046 0)) = g40 1100007 (g40 1100023 (g40 1100023 (g40 1046 0))) := congrArg ((g40 1100007)) (la_object_178 h1578_)
    have e1882_ : g40 1100007 (g65 1100023 (g65 1046 0)) = g40 1100007 (g40 1100025 (g40 1046 0)) := congrArg ((g40 1100007)) (la_object_178 h1578_)
    have e1883_ : g40 1100007 (g65 1100023 (g65 1046 0)) = g40 1100007 (g48 1046 0) := congrArg ((g40 1100007)) (la_object_178 h1578_)
    have e1884_ : g40 1100007 (g65 1100023 (g65 1046 0)) = g40 1100007 (g48 1100023 (g48 1046 0)) := congrArg ((g40 1100007)) (la_object_178 h1578_)
    have e1885_ : g40 1100007 (g65 1100023 (g65 1046 0)) = g40 1100007 (g48 1100025 (g48 1046 0)) := congrArg ((g40 1100007)) (la_object_178 h1578_)
    have e1886_ : g40 1100007 (g65 1100023 (g65 1046 0)) = g40 1100007 (g58 1046 0) := congrArg ((g40 1100007)) (la_object_178 h1578_)
    have e1887_ : g40 1100007 (g65 1100023 (g65 1046 0)) = g40 1100007 (g58 1100023 (g58 1046 0)) := congrArg ((g40 1100007)) (la_object_178 h1578_)
    have e1888_ : g40 1100007 (g65 1100023 (g65 1046 0)) = g40 1100007 (g58 1100025 (g58 1046 0)) := congrArg ((g40 1100007)) (la_object_178 h1578_)
    have e1889_ : g40 1100007 (g65 1100023 (g65 1046 0)) = g40 1100007 (g65 1046 0) := congrArg ((g40 1100007)) (la_object_178 h1578_)
    have e1890_ : g40 1100007 (g65 1100025 (g65 1046 0)) = g40 1100007 (g40 1046 0) := congrArg ((g40 1100007)) (la_object_178 h1578_)
    have e1891_ : g40 1100007 (g65 1100025 (g65 1046 0)) = g40 1100007 (g40 1100023 (g40 1046 0)) := congrArg ((g40 1100007)) (la_object_178 h1578_)
    have e1892_ : g40 1100007 (g65 1100025 (g65 1046 0)) = g40 1100007 (g40 1100023 (g40 1100023 (g40 1046 0))) := congrArg ((g40 1100007)) (la_object_178 h1578_)
    have e1893_ : g40 1100007 (g65 1100025 (g65 1046 0)) = g40 1100007 (g40 1100025 (g40 1046 0)) := congrArg ((g40 1100007)) (la_object_178 h1578_)
    have e1894_ : g40 1100007 (g65 1100025 (g65 1046 0)) = g40 1100007 (g48 1046 0) := congrArg ((g40 1100007)) (la_object_178 h1578_)
    have e1895_ : g40 1100007 (g65 1100025 (g65 1046 0)) = g40 1100007 (g48 1100023 (g48 1046 0)) := congrArg ((g40 1100007)) (la_object_178 h1578_)
    have e1896_ : g40 1100007 (g65 1100025 (g65 1046 0)) = g40 1100007 (g48 1100025 (g48 1046 0)) := congrArg ((g40 1100007)) (la_object_178 h1578_)
    have e1897_ : g40 1100007 (g65 1100025 (g65 1046 0)) = g40 1100007 (g58 1046 0) := congrArg ((g40 1100007)) (la_object_178 h1578_)
    have e1898_ : g40 1100007 (g65 1100025 (g65 1046 0)) = g40 1100007 (g58 1100023 (g58 1046 0)) := congrArg ((g40 1100007)) (la_object_178 h1578_)
    have e1899_ : g40 1100007 (g65 1100025 (g65 1046 0)) = g40 1100007 (g58 1100025 (g58 1046 0)) := congrArg ((g40 1100007)) (la_object_178 h1578_)
    have e1900_ : g40 1100007 (g65 1100025 (g65 1046 0)) = g40 1100007 (g65 1046 0) := congrArg ((g40 1100007)) (la_object_178 h1578_)
    have e1901_ : g40 1100007 (g65 1100025 (g65 1046 0)) = g40 1100007 (g65 1100023 (g65 1046 0)) := congrArg ((g40 1100007)) (la_object_178 h1578_)
    have e1902_ : g40 1100023 (g40 1100023 (g40 1046 0)) = g40 1100023 (g40 1046 0) := congrArg ((g40 1100023)) (la_object_178 h1578_)
    have e1903_ : g40 1100023 (g48 1046 0) = g40 1100023 (g40 1046 0) := congrArg ((g40 1100023)) (la_object_178 h1578_)
    have e1904_ : g40 1100023 (g48 1046 0) = g40 1100023 (g40 1100023 (g40 1046 0)) := congrArg ((g40 1100023)) (la_object_178 h1578_)
    have e1905_ : g40 1100023 (g58 1046 0) = g40 1100023 (g40 1046 0) := congrArg ((g40 1100023)) (la_object_178 h1578_)
    have e1906_ : g40 1100023 (g58 1046 0) = g40 1100023 (g40 1100023 (g40 1046 0)) := congrArg ((g40 1100023)) (la_object_178 h1578_)
    have e1907_ : g40 1100023 (g58 1046 0) = g40 1100023 (g48 1046 0) := congrArg ((g40 1100023)) (la_object_178 h1578_)
    have e1908_ : g40 1100023 (g65 1046 0) = g40 1100023 (g40 1046 0) := congrArg ((g40 1100023)) (la_object_178 h1578_)
    have e1909_ : g40 1100023 (g65 1046 0) = g40 1100023 (g40 1100023 (g40 1046 0)) := congrArg ((g40 1100023)) (la_object_178 h1578_)
    have e1910_ : g40 1100023 (g65 1046 0) = g40 1100023 (g48 1046 0) := congrArg ((g40 1100023)) (la_object_178 h1578_)
    have e1911_ : g40 1100023 (g65 1046 0) = g40 1100023 (g58 1046 0) := congrArg ((g40 1100023)) (la_object_178 h1578_)
    have e1912_ : g40 1100024 (g48 1046 0) = g40 1100024 (g40 1046 0) := congrArg ((g40 1100024)) (la_object_178 h1578_)
    have e1913_ : g40 1100024 (g58 1046 0) = g40 1100024 (g40 1046 0) := congrArg ((g40 1100024)) (la_object_178 h1578_)
    have e1914_ : g40 1100024 (g58 1046 0) = g40 1100024 (g48 1046 0) := congrArg ((g40 1100024)) (la_object_178 h1578_)
    have e1915_ : g40 1100024 (g65 1046 0) = g40 1100024 (g40 1046 0) := congrArg ((g40 1100024)) (la_object_178 h1578_)
    have e1916_ : g40 1100024 (g65 1046 0) = g40 1100024 (g48 1046 0) := congrArg ((g40 1100024)) (la_object_178 h1578_)
    have e1917_ : g40 1100024 (g65 1046 0) = g40 1100024 (g58 1046 0) := congrArg ((g40 1100024)) (la_object_178 h1578_)
    have e1918_ : g40 1100025 (g40 1100025 (g40 1046 0)) = g40 1100025 (g40 1046 0) := congrArg ((g40 1100025)) (la_object_178 h1578_)
    have e1919_ : g40 1100025 (g48 1046 0) = g40 1100025 (g40 1046 0) := congrArg ((g40 1100025)) (la_object_178 h1578_)
    have e1920_ : g40 1100025 (g48 1046 0) = g40 1100025 (g40 1100025 (g40 1046 0)) := congrArg ((g40 1100025)) (la_object_178 h1578_)
    have e1921_ : g40 1100025 (g58 1046 0) = g40 1100025 (g40 1046 0) := congrArg ((g40 1100025)) (la_object_178 h1578_)
    have e1922_ : g40 1100025 (g58 1046 0) = g40 1100025 (g40 1100025 (g40 1046 0)) := congrArg ((g40 1100025)) (la_object_178 h1578_)
    have e1923_ : g40 1100025 (g58 1046 0) = g40 1100025 (g48 1046 0) := congrArg ((g40 1100025)) (la_object_178 h1578_)
    have e1924_ : g40 1100025 (g65 1046 0) = g40 1100025 (g40 1046 0) := congrArg ((g40 1100025)) (la_object_178 h1578_)
    have e1925_ : g40 1100025 (g65 1046 0) = g40 1100025 (g40 1100025 (g40 1046 0)) := congrArg ((g40 1100025)) (la_object_178 h1578_)
    have e1926_ : g40 1100025 (g65 1046 0) = g40 1100025 (g48 1046 0) := congrArg ((g40 1100025)) (la_object_178 h1578_)
    have e1927_ : g40 1100025 (g65 1046 0) = g40 1100025 (g58 1046 0) := congrArg ((g40 1100025)) (la_object_178 h1578_)
    have e1928_ : g40 26 (g40 1046 0) = g40 26 (g22 1046 0) := congrArg ((g40 26)) (la_object_178 h1578_)
    have e1929_ : g40 26 (g58 1046 0) = g40 26 (g22 1046 0) := congrArg ((g40 26)) (la_object_178 h1578_)
    have e1930_ : g40 26 (g58 1046 0) = g40 26 (g40 1046 0) := congrArg ((g40 26)) (la_object_178 h1578_)
    have e1931_ : g40 29 (g40 1046 0) = g40 29 (g22 1046 0) := congrArg ((g40 29)) (la_object_178 h1578_)
    have e1932_ : g40 29 (g58 1046 0) = g40 29 (g22 1046 0) := congrArg ((g40 29)) (la_object_178 h1578_)
    have e1933_ : g40 29 (g58 1046 0) = g40 29 (g40 1046 0) := congrArg ((g40 29)) (la_object_178 h1578_)
    have e1934_ : g48 1100007 (g48 1100023 (g48 1046 0)) = g48 1100007 (g48 1046 0) := congrArg ((g48 1100007)) (la_object_178 h1578_)
    have e1935_ : g48 1100007 (g48 1100025 (g48 1046 0)) = g48 1100007 (g48 1046 0) := congrArg ((g48 1100007)) (la_object_178 h1578_)
    have e1936_ : g48 1100007 (g48 1100025 (g48 1046 0)) = g48 1100007 (g48 1100023 (g48 1046 0)) := congrArg ((g48 1100007)) (la_object_178 h1578_)
    have e1937_ : g48 1100007 (g58 1046 0) = g48 1100007 (g48 1046 0) := congrArg ((g48 1100007)) (la_object_178 h1578_)
    have e1938_ : g48 1100007 (g58 1046 0) = g48 1100007 (g48 1100023 (g48 1046 0)) := congrArg ((g48 1100007)) (la_object_178 h1578_)
    have e1939_ : g48 1100007 (g58 1046 0) = g48 1100007 (g48 1100025 (g48 1046 0)) := congrArg ((g48 1100007)) (la_object_178 h1578_)
    have e1940_ : g48 1100007 (g58 1100023 (g58 1046 0)) = g48 1100007 (g48 1046 0) := congrArg ((g48 1100007)) (la_object_178 h1578_)
    have e1941_ : g48 1100007 (g58 1100023 (g58 1046 0)) = g48 1100007 (g48 1100023 (g48 1046 0)) := congrArg ((g48 1100007)) h1534_
    have e1942_ : g48 1100007 (g58 1100023 (g58 1046 0)) = g48 1100007 (g48 1100025 (g48 1046 0)) := congrArg ((g48 1100007)) (la_object_178 h1578_)
    have e1943_ : g48 1100007 (g58 1100023 (g58 1046 0)) = g48 1100007 (g58 1046 0) := congrArg ((g48 1100007)) (la_object_178 h1578_)
    have e1944_ : g48 1100007 (g58 1100025 (g58 1046 0)) = g48 1100007 (g48 1046 0) := congrArg ((g48 1100007)) (la_object_178 h1578_)
    have e1945_ : g48 1100007 (g58 1100025 (g58 1046 0)) = g48 1100007 (g48 1100023 (g48 1046 0)) := congrArg ((g48 1100007)) (la_object_178 h1578_)
    have e1946_ : g48 1100007 (g58 1100025 (g58 1046 0)) = g48 1100007 (g48 1100025 (g48 1046 0)) := congrArg ((g48 1100007)) h1536_
    have e1947_ : g48 1100007 (g58 1100025 (g58 1046 0)) = g48 1100007 (g58 1046 0) := congrArg ((g48 1100007)) (la_object_178 h1578_)
    have e1948_ : g48 1100007 (g58 1100025 (g58 1046 0)) = g48 1100007 (g58 1100023 (g58 1046 0)) := congrArg ((g48 1100007)) (la_object_178 h1578_)
    have e1949_ : g48 1100007 (g65 1046 0) = g48 1100007 (g48 1046 0) := congrArg ((g48 1100007)) (la_object_178 h1578_)
    have e1950_ : g48 1100007 (g65 1046 0) = g48 1100007 (g48 1100023 (g48 1046 0)) := congrArg ((g48 1100007)) (la_object_178 h1578_)
    have e1951_ : g48 1100007 (g65 1046 0) = g48 1100007 (g48 1100025 (g48 1046 0)) := congrArg ((g48 1100007)) (la_object_178 h1578_)
    have e1952_ : g48 1100007 (g65 1046 0) = g48 1100007 (g58 1046 0) := congrArg ((g48 1100007)) (la_object_178 h1578_)
    have e1953_ : g48 1100007 (g65 1046 0) = g48 1100007 (g58 1100023 (g58 1046 0)) := congrArg ((g48 1100007)) (la_object_178 h1578_)
    have e1954_ : g48 1100007 (g65 1046 0) = g48 1100007 (g58 1100025 (g58 1046 0)) := congrArg ((g48 1100007)) (la_object_178 h1578_)
    have e1955_ : g48 1100007 (g65 1100023 (g65 1046 0)) = g48 1100007 (g48 1046 0) := congrArg ((g48 1100007)) (la_object_178 h1578_)
    have e1956_ : g48 1100007 (g65 1100023 (g65 1046 0)) = g48 1100007 (g48 1100023 (g48 1046 0)) := congrArg ((g48 1100007)) (la_object_178 h1578_)
    have e1957_ : g48 1100007 (g65 1100023 (g65 1046 0)) = g48 1100007 (g48 1100025 (g48 1046 0)) := congrArg ((g48 1100007)) (la_object_178 h1578_)
    have e1958_ : g48 1100007 (g65 1100023 (g65 1046 0)) = g48 1100007 (g58 1046 0) := congrArg ((g48 1100007)) (la_object_178 h1578_)
    have e1959_ : g48 1100007 (g65 1100023 (g65 1046 0)) = g48 1100007 (g58 1100023 (g58 1046 0)) := congrArg ((g48 1100007)) (la_object_178 h1578_)
    have e1960_ : g48 1100007 (g65 1100023 (g65 1046 0)) = g48 1100007 (g58 1100025 (g58 1046 0)) := congrArg ((g48 1100007)) (la_object_178 h1578_)
    have e1961_ : g48 1100007 (g65 1100023 (g65 1046 0)) = g48 1100007 (g65 1046 0) := congrArg ((g48 1100007)) (la_object_178 h1578_)
    have e1962_ : g48 1100007 (g65 1100025 (g65 1046 0)) = g48 1100007 (g48 1046 0) := congrArg ((g48 1100007)) (la_object_178 h1578_)
    have e1963_ : g48 1100007 (g65 1100025 (g65 1046 0)) = g48 1100007 (g48 1100023 (g48 1046 0)) := congrArg ((g48 1100007)) (la_object_178 h1578_)
    have e1964_ : g48 1100007 (g65 1100025 (g65 1046 0)) = g48 1100007 (g48 1100025 (g48 1046 0)) := congrArg ((g48 1100007)) (la_object_178 h1578_)
    have e1965_ : g48 1100007 (g65 1100025 (g65 1046 0)) = g48 1100007 (g58 1046 0) := congrArg ((g48 1100007)) (la_object_178 h1578_)
    have e1966_ : g48 1100007 (g65 1100025 (g65 1046 0)) = g48 1100007 (g58 1100023 (g58 1046 0)) := congrArg ((g48 1100007)) (la_object_178 h1578_)
    have e1967_ : g48 1100007 (g65 1100025 (g65 1046 0)) = g48 1100007 (g58 1100025 (g58 1046 0)) := congrArg ((g48 1100007)) (la_object_178 h1578_)
    have e1968_ : g48 1100007 (g65 1100025 (g65 1046 0)) = g48 1100007 (g65 1046 0) := congrArg ((g48 1100007)) (la_object_178 h1578_)
    have e1969_ : g48 1100007 (g65 1100025 (g65 1046 0)) = g48 1100007 (g65 1100023 (g65 1046 0)) := congrArg ((g48 1100007)) (la_object_178 h1578_)
    have e1970_ : g48 1100023 (g58 1046 0) = g48 1100023 (g48 1046 0) := congrArg ((g48 1100023)) (la_object_178 h1578_)
    have e1971_ : g48 1100023 (g65 1046 0) = g48 1100023 (g48 1046 0) := congrArg ((g48 1100023)) (la_object_178 h1578_)
    have e1972_ : g48 1100023 (g65 1046 0) = g48 1100023 (g58 1046 0) := congrArg ((g48 1100023)) (la_object_178 h1578_)
    have e1973_ : g48 1100024 (g58 1046 0) = g48 1100024 (g48 1046 0) := congrArg ((g48 1100024)) (la_object_178 h1578_)
    have e1974_ : g48 1100024 (g65 1046 0) = g48 1100024 (g48 1046 0) := congrArg ((g48 1100024)) (la_object_178 h1578_)
    have e1975_ : g48 1100024 (g65 1046 0) = g48 1100024 (g58 1046 0) := congrArg ((g48 1100024)) (la_object_178 h1578_)
    have e1976_ : g48 1100025 (g58 1046 0) = g48 1100025 (g48 1046 0) := congrArg ((g48 1100025)) (la_object_178 h1578_)
    have e1977_ : g48 1100025 (g65 1046 0) = g48 1100025 (g48 1046 0) := congrArg ((g48 1100025)) (la_object_178 h1578_)
    have e1978_ : g48 1100025 (g65 1046 0) = g48 1100025 (g58 1046 0) := congrArg ((g48 1100025)) (la_object_178 h1578_)
    have e1979_ : g48 26 (g58 1046 0) = g48 26 (g40 1046 0) := congrArg ((g48 26)) (la_object_178 h1578_)
    have e1980_ : g48 29 (g58 1046 0) = g48 29 (g40 1046 0) := congrArg ((g48 29)) (la_object_178 h1578_)
    have e1981_ : g58 1100007 (g58 1100023 (g58 1046 0)) = g58 1100007 (g58 1046 0) := congrArg ((g58 1100007)) (la_object_178 h1578_)
    have e1982_ : g58 1100007 (g58 1100023 (g58 1100023 (g58 1046 0))) = g58 1100007 (g58 1046 0) := congrArg ((g58 1100007)) (la_object_178 h1578_)
    have e1983_ : g58 1100007 (g58 1100023 (g58 1100023 (g58 1046 0))) = g58 1100007 (g58 1100023 (g58 1046 0)) := congrArg ((g58 1100007)) (la_object_178 h1578_)
    have e1984_ : g58 1100007 (g58 1100025 (g58 1046 0)) = g58 1100007 (g58 1046 0) := congrArg ((g58 1100007)) (la_object_178 h1578_)
    have e1985_ : g58 1100007 (g58 1100025 (g58 1046 0)) = g58 1100007 (g58 1100023 (g58 1046 0)) := congrArg ((g58 1100007)) (la_object_178 h1578_)
    have e1986_ : g58 1100007 (g58 1100025 (g58 1046 0)) = g58 1100007 (g58 1100023 (g58 1100023 (g58 1046 0))) := congrArg ((g58 1100007)) (la_object_178 h1578_)
    have e1987_ : g58 1100007 (g65 1046 0) = g58 1100007 (g58 1046 0) := congrArg ((g58 1100007)) (la_object_178 h1578_)
    have e1988_ : g58 1100007 (g65 1046 0) = g58 1100007 (g58 1100023 (g58 1046 0)) := congrArg ((g58 1100007)) (la_object_178 h1578_)
    have e1989_ : g58 1100007 (g65 1046 0) = g58 1100007 (g58 1100023 (g58 1100023 (g58 1046 0))) := congrArg ((g58 1100007)) (la_object_178 h1578_)
    have e1990_ : g58 1100007 (g65 1046 0) = g58 1100007 (g58 1100025 (g58 1046 0)) := congrArg ((g58 1100007)) (la_object_178 h1578_)
    have e1991_ : g58 1100007 (g65 1100023 (g65 1046 0)) = g58 1100007 (g58 1046 0) := congrArg ((g58 1100007)) (la_object_178 h1578_)
    have e1992_ : g58 1100007 (g65 1100023 (g65 1046 0)) = g58 1100007 (g58 1100023 (g58 1046 0)) := congrArg ((g58 1100007)) (la_object_178 h1578_)
    have e1993_ : g58 1100007 (g65 1100023 (g65 1046 0)) = g58 1100007 (g58 1100023 (g58 1100023 (g58 1046 0))) := congrArg ((g58 1100007)) (la_object_178 h1578_)
    have e1994_ : g58 1100007 (g65 1100023 (g65 1046 0)) = g58 1100007 (g58 1100025 (g58 1046 0)) := congrArg ((g58 1100007)) (la_object_178 h1578_)
    have e1995_ : g58 1100007 (g65 1100023 (g65 1046 0)) = g58 1100007 (g65 1046 0) := congrArg ((g58 1100007)) (la_object_178 h1578_)
    have e1996_ : g58 1100007 (g65 1100025 (g65 1046 0)) = g58 1100007 (g58 1046 0) := congrArg ((g58 1100007)) (la_object_178 h1578_)
    have e1997_ : g58 1100007 (g65 1100025 (g65 1046 0)) = g58 1100007 (g58 1100023 (g58 1046 0)) := congrArg ((g58 1100007)) (la_object_178 h1578_)
    have e1998_ : g58 1100007 (g65 1100025 (g65 1046 0)) = g58 1100007 (g58 1100023 (g58 1100023 (g58 1046 0))) := congrArg ((g58 1100007)) (la_object_178 h1578_)
    have e1999_ : g58 1100007 (g65 1100025 (g65 1046 0)) = g58 1100007 (g58 1100025 (g58 1046 0)) := congrArg ((g58 1100007)) (la_object_178 h1578_)
    have e2000_ : g58 1100007 (g65 1100025 (g65 1046 0)) = g58 1100007 (g65 1046 0) := congrArg ((g58 1100007)) (la_object_178 h1578_)
    have e2001_ : g58 1100007 (g65 1100025 (g65 1046 0)) = g58 1100007 (g65 1100023 (g65 1046 0)) := congrArg ((g58 1100007)) (la_object_178 h1578_)
    have e2002_ : g58 1100023 (g58 1100023 (g58 1046 0)) = g58 1100023 (g58 1046 0) := congrArg ((g58 1100023)) (la_object_178 h1578_)
    have e2003_ : g58 1100023 (g65 1046 0) = g58 1100023 (g58 1046 0) := congrArg ((g58 1100023)) (la_object_178 h1578_)
    have e2004_ : g58 1100023 (g65 1046 0) = g58 1100023 (g58 1100023 (g58 1046 0)) := congrArg ((g58 1100023)) (la_object_178 h1578_)
    have e2005_ : g58 1100024 (g65 1046 0) = g58 1100024 (g58 1046 0) := congrArg ((g58 1100024)) (la_object_178 h1578_)
    have e2006_ : g58 1100025 (g58 1100025 (g58 1046 0)) = g58 1100025 (g58 1046 0) := congrArg ((g58 1100025)) (la_object_178 h1578_)
    have e2007_ : g58 1100025 (g65 1046 0) = g58 1100025 (g58 1046 0) := congrArg ((g58 1100025)) (la_object_178 h1578_)
    have e2008_ : g58 1100025 (g65 1046 0) = g58 1100025 (g58 1100025 (g58 1046 0)) := congrArg ((g58 1100025)) (la_object_178 h1578_)
    have e2009_ : g65 1100007 (g65 1100023 (g65 1046 0)) = g65 1100007 (g65 1046 0) := congrArg ((g65 1100007)) (la_object_178 h1578_)
    have e2010_ : g65 1100007 (g65 1100025 (g65 1046 0)) = g65 1100007 (g65 1046 0) := congrArg ((g65 1100007)) (la_object_178 h1578_)
    have e2011_ : g65 1100007 (g65 1100025 (g65 1046 0)) = g65 1100007 (g65 1100023 (g65 1046 0)) := congrArg ((g65 1100007)) (la_object_178 h1578_)
    have e2012_ : g65 1100023 (g65 1100023 (g65 1046 0)) = g65 1100023 (g65 1046 0) := congrArg ((g65 1100023)) (la_object_178 h1578_)
    have e2013_ : g65 1100025 (g65 1100025 (g65 1046 0)) = g65 1100025 (g65 1046 0) := congrArg ((g65 1100025)) (la_object_178 h1578_)
    have e2014_ : S 1100023 (g22 1100023 (g22 1046 0)) = S 1100023 (S 1046 0) := congrArg ((S 1100023)) (la_object_178 h1578_)
    have e2015_ : S 1100023 (g22 1100023 (g22 1046 0)) = S 1100023 (g22 1046 0) := congrArg ((S 1100023)) (la_object_178 h1578_)
    have e2016_ : S 1100023 (g40 1046 0) = S 1100023 (g22 1100023 (g22 1046 0)) := congrArg ((S 1100023)) (la_object_178 h1578_)
    have e2017_ : S 1100023 (g40 1100023 (g40 1046 0)) = S 1100023 (S 1046 0) := congrArg ((S 1100023)) (la_object_178 h1578_)
    have e2018_ : S 1100023 (g40 1100023 (g40 1046 0)) = S 1100023 (g22 1046 0) := congrArg ((S 1100023)) (la_object_178 h1578_)
    have e2019_ : S 1100023 (g40 1100023 (g40 1046 0)) = S 1100023 (g22 1100023 (g22 1046 0)) := congrArg ((S 1100023)) (la_object_178 h1578_)
    have e2020_ : S 1100023 (g40 1100023 (g40 1046 0)) = S 1100023 (g40 1046 0) := congrArg ((S 1100023)) (la_object_178 h1578_)
    have e2021_ : S 1100023 (g48 1046 0) = S 1100023 (g22 1100023 (g22 1046 0)) := congrArg ((S 1100023)) (la_object_178 h1578_)
    have e2022_ : S 1100023 (g48 1046 0) = S 1100023 (g40 1100023 (g40 1046 0)) := congrArg ((S 1100023)) (la_object_178 h1578_)
    have e2023_ : S 1100023 (g58 1046 0) = S 1100023 (S 1046 0) := congrArg ((S 1100023)) (la_object_178 h1578_)
    have e2024_ : S 1100023 (g58 1046 0) = S 1100023 (g22 1046 0) := congrArg ((S 1100023)) (la_object_178 h1578_)
    have e2025_ : S 1100023 (g58 1046 0) = S 1100023 (g22 1100023 (g22 1046 0)) := congrArg ((S 1100023)) (la_object_178 h1578_)
    have e2026_ : S 1100023 (g58 1046 0) = S 1100023 (g40 1046 0) := congrArg ((S 1100023)) (la_object_178 h1578_)
    have e2027_ : S 1100023 (g58 1046 0) = S 1100023 (g40 1100023 (g40 1046 0)) := congrArg ((S 1100023)) (la_object_178 h1578_)
    have e2028_ : S 1100023 (g58 1046 0) = S 1100023 (g48 1046 0) := congrArg ((S 1100023)) (la_object_178 h1578_)
    have e2029_ : S 1100023 (g65 1046 0) = S 1100023 (S 1046 0) := congrArg ((S 1100023)) (la_object_178 h1578_)
    have e2030_ : S 1100023 (g65 1046 0) = S 1100023 (g22 1046 0) := congrArg ((S 1100023)) (la_object_178 h1578_)
    have e2031_ : S 1100023 (g65 1046 0) = S 1100023 (g22 1100023 (g22 1046 0)) := congrArg ((S 1100023)) (la_object_178 h1578_)
    have e2032_ : S 1100023 (g65 1046 0) = S 1100023 (g40 1046 0) := congrArg ((S 1100023)) (la_object_178 h1578_)
    have e2033_ : S 1100023 (g65 1046 0) = S 1100023 (g40 1100023 (g40 1046 0)) := congrArg ((S 1100023)) (la_object_178 h1578_)
    have e2034_ : S 1100023 (g65 1046 0) = S 1100023 (g48 1046 0) := congrArg ((S 1100023)) (la_object_178 h1578_)
    have e2035_ : S 1100023 (g65 1046 0) = S 1100023 (g58 1046 0) := congrArg ((S 1100023)) (la_object_178 h1578_)
    have e2036_ : S 1100024 (g58 1046 0) = S 1100024 (S 1046 0) := congrArg ((S 1100024)) (la_object_178 h1578_)
    have e2037_ : S 1100024 (g58 1046 0) = S 1100024 (g22 1046 0) := congrArg ((S 1100024)) (la_object_178 h1578_)
    have e2038_ : S 1100024 (g58 1046 0) = S 1100024 (g40 1046 0) := congrArg ((S 1100024)) (la_object_178 h1578_)
    have e2039_ : S 1100024 (g58 1046 0) = S 1100024 (g48 1046 0) := congrArg ((S 1100024)) (la_object_178 h1578_)
    have e2040_ : S 1100024 (g65 1046 0) = S 1100024 (S 1046 0) := congrArg ((S 1100024)) (la_object_178 h1578_)
    have e2041_ : S 1100024 (g65 1046 0) = S 1100024 (g22 1046 0) := congrArg ((S 1100024)) (la_object_178 h1578_)
    have e2042_ : S 1100024 (g65 1046 0) = S 1100024 (g40 1046 0) := congrArg ((S 1100024)) (la_object_178 h1578_)
    have e2043_ : S 1100024 (g65 1046 0) = S 1100024 (g48 1046 0) := congrArg ((S 1100024)) (la_object_178 h1578_)
    have e2044_ : S 1100024 (g65 1046 0) = S 1100024 (g58 1046 0) := congrArg ((S 1100024)) (la_object_178 h1578_)
    have e2045_ : S 1100025 (g22 1100025 (g22 1046 0)) = S 1100025 (S 1046 0) := congrArg ((S 1100025)) (la_object_178 h1578_)
    have e2046_ : S 1100025 (g22 1100025 (g22 1046 0)) = S 1100025 (g22 1046 0) := congrArg ((S 1100025)) (la_object_178 h1578_)
    have e2047_ : S 1100025 (g40 1046 0) = S 1100025 (g22 1100025 (g22 1046 0)) := congrArg ((S 1100025)) (la_object_178 h1578_)
    have e2048_ : S 1100025 (g40 1100025 (g40 1046 0)) = S 1100025 (S 1046 0) := congrArg ((S 1100025)) (la_object_178 h1578_)
    have e2049_ : S 1100025 (g40 1100025 (g40 1046 0)) = S 1100025 (g22 1046 0) := congrArg ((S 1100025)) (la_object_178 h1578_)
    have e2050_ : S 1100025 (g40 1100025 (g40 1046 0)) = S 1100025 (g22 1100025 (g22 1046 0)) := congrArg ((S 1100025)) (la_object_178 h1578_)
    have e2051_ : S 1100025 (g40 1100025 (g40 1046 0)) = S 1100025 (g40 1046 0) := congrArg ((S 1100025)) (la_object_178 h1578_)
    have e2052_ : S 1100025 (g48 1046 0) = S 1100025 (g22 1100025 (g22 1046 0)) := congrArg ((S 1100025)) (la_object_178 h1578_)
    have e2053_ : S 1100025 (g48 1046 0) = S 1100025 (g40 1100025 (g40 1046 0)) := congrArg ((S 1100025)) (la_object_178 h1578_)
    have e2054_ : S 1100025 (g58 1046 0) = S 1100025 (S 1046 0) := congrArg ((S 1100025)) (la_object_178 h1578_)
    have e2055_ : S 1100025 (g58 1046 0) = S 1100025 (g22 1046 0) := congrArg ((S 1100025)) (la_object_178 h1578_)
    have e2056_ : S 1100025 (g58 1046 0) = S 1100025 (g22 1100025 (g22 1046 0)) := congrArg ((S 1100025)) (la_object_178 h1578_)
    have e2057_ : S 1100025 (g58 1046 0) = S 1100025 (g40 1046 0) := congrArg ((S 1100025)) (la_object_178 h1578_)
    have e2058_ : S 1100025 (g58 1046 0) = S 1100025 (g40 1100025 (g40 1046 0)) := congrArg ((S 1100025)) (la_object_178 h1578_)
    have e2059_ : S 1100025 (g58 1046 0) = S 1100025 (g48 1046 0) := congrArg ((S 1100025)) (la_object_178 h1578_)
    have e2060_ : S 1100025 (g65 1046 0) = S 1100025 (S 1046 0) := congrArg ((S 1100025)) (la_object_178 h1578_)
    have e2061_ : S 1100025 (g65 1046 0) = S 1100025 (g22 1046 0) := congrArg ((S 1100025)) (la_object_178 h1578_)
    have e2062_ : S 1100025 (g65 1046 0) = S 1100025 (g22 1100025 (g22 1046 0)) := congrArg ((S 1100025)) (la_object_178 h1578_)
    have e2063_ : S 1100025 (g65 1046 0) = S 1100025 (g40 1046 0) := congrArg ((S 1100025)) (la_object_178 h1578_)
    have e2064_ : S 1100025 (g65 1046 0) = S 1100025 (g40 1100025 (g40 1046 0)) := congrArg ((S 1100025)) (la_object_178 h1578_)
    have e2065_ : S 1100025 (g65 1046 0) = S 1100025 (g48 1046 0) := congrArg ((S 1100025)) (la_object_178 h1578_)
    have e2066_ : S 1100025 (g65 1046 0) = S 1100025 (g58 1046 0) := congrArg ((S 1100025)) (la_object_178 h1578_)
    have e2067_ : S 26 (g58 1046 0) = S 26 (g22 1046 0) := congrArg ((S 26)) (la_object_178 h1578_)
    have e2068_ : S 26 (g58 1046 0) = S 26 (g40 1046 0) := congrArg ((S 26)) (la_object_178 h1578_)
    have e2069_ : S 29 (g58 1046 0) = S 29 (g22 1046 0) := congrArg ((S 29)) (la_object_178 h1578_)
    have e2070_ : S 29 (g58 1046 0) = S 29 (g40 1046 0) := congrArg ((S 29)) (la_object_178 h1578_)
    have e2071_ : g22 1100023 (g40 1100023 (g40 1046 0)) = g22 1100023 (g22 1046 0) := congrArg ((g22 1100023)) (la_object_178 h1578_)
    have e2072_ : g22 1100023 (g40 1100023 (g40 1046 0)) = g22 1100023 (g22 1100023 (g22 1046 0)) := congrArg ((g22 1100023)) (la_object_178 h1578_)
    have e2073_ : g22 1100023 (g40 1100023 (g40 1046 0)) = g22 1100023 (g40 1046 0) := congrArg ((g22 1100023)) (la_object_178 h1578_)
    have e2074_ : g22 1100023 (g48 1046 0) = g22 1100023 (g40 1100023 (g40 1046 0)) := congrArg ((g22 1100023)) (la_object_178 h1578_)
    have e2075_ : g22 1100023 (g58 1046 0) = g22 1100023 (g40 1100023 (g40 1046 0)) := congrArg ((g22 1100023)) (la_object_178 h1578_)
    have e2076_ : g22 1100023 (g58 1100023 (g58 1046 0)) = g22 1100023 (g22 1046 0) := congrArg ((g22 1100023)) (la_object_178 h1578_)
    have e2077_ : g22 1100023 (g58 1100023 (g58 1046 0)) = g22 1100023 (g22 1100023 (g22 1046 0)) := congrArg ((g22 1100023)) (la_object_178 h1578_)
    have e2078_ : g22 1100023 (g58 1100023 (g58 1046 0)) = g22 1100023 (g40 1046 0) := congrArg ((g22 1100023)) (la_object_178 h1578_)
    have e2079_ : g22 1100023 (g58 1100023 (g58 1046 0)) = g22 1100023 (g40 1100023 (g40 1046 0)) := congrArg ((g22 1100023)) (la_object_178 h1578_)
    have e2080_ : g22 1100023 (g58 1100023 (g58 1046 0)) = g22 1100023 (g48 1046 0) := congrArg ((g22 1100023)) (la_object_178 h1578_)
    have e2081_ : g22 1100023 (g58 1100023 (g58 1046 0)) = g22 1100023 (g58 1046 0) := congrArg ((g22 1100023)) (la_object_178 h1578_)
    have e2082_ : g22 1100023 (g65 1046 0) = g22 1100023 (g22 1046 0) := congrArg ((g22 1100023)) (la_object_178 h1578_)
    have e2083_ : g22 1100023 (g65 1046 0) = g22 1100023 (g22 1100023 (g22 1046 0)) := congrArg ((g22 1100023)) (la_object_178 h1578_)
    have e2084_ : g22 1100023 (g65 1046 0) = g22 1100023 (g40 1046 0) := congrArg ((g22 1100023)) (la_object_178 h1578_)
    have e2085_ : g22 1100023 (g65 1046 0) = g22 1100023 (g40 1100023 (g40 1046 0)) := congrArg ((g22 1100023)) (la_object_178 h1578_)
    have e2086_ : g22 1100023 (g65 1046 0) = g22 1100023 (g48 1046 0) := congrArg ((g22 1100023)) (la_object_178 h1578_)
    have e2087_ : g22 1100023 (g65 1046 0) = g22 1100023 (g58 1046 0) := congrArg ((g22 1100023)) (la_object_178 h1578_)
    have e2088_ : g22 1100023 (g65 1046 0) = g22 1100023 (g58 1100023 (g58 1046 0)) := congrArg ((g22 1100023)) (la_object_178 h1578_)
    have e2089_ : g22 1100024 (g65 1046 0) = g22 1100024 (g22 1046 0) := congrArg ((g22 1100024)) (la_object_178 h1578_)
    have e2090_ : g22 1100024 (g65 1046 0) = g22 1100024 (g40 1046 0) := congrArg ((g22 1100024)) (la_object_178 h1578_)
    have e2091_ : g22 1100024 (g65 1046 0) = g22 1100024 (g48 1046 0) := congrArg ((g22 1100024)) (la_object_178 h1578_)
    have e2092_ : g22 1100024 (g65 1046 0) = g22 1100024 (g58 1046 0) := congrArg ((g22 1100024)) (la_object_178 h1578_)
    have e2093_ : g22 1100025 (g40 1100025 (g40 1046 0)) = g22 1100025 (g22 1046 0) := congrArg ((g22 1100025)) (la_object_178 h1578_)
    have e2094_ : g22 1100025 (g40 1100025 (g40 1046 0)) = g22 1100025 (g22 1100025 (g22 1046 0)) := congrArg ((g22 1100025)) (la_object_178 h1578_)
    have e2095_ : g22 1100025 (g40 1100025 (g40 1046 0)) = g22 1100025 (g40 1046 0) := congrArg ((g22 1100025)) (la_object_178 h1578_)
    have e2096_ : g22 1100025 (g48 1046 0) = g22 1100025 (g40 1100025 (g40 1046 0)) := congrArg ((g22 1100025)) (la_object_178 h1578_)
    have e2097_ : g22 1100025 (g58 1046 0) = g22 1100025 (g40 1100025 (g40 1046 0)) := congrArg ((g22 1100025)) (la_object_178 h1578_)
    have e2098_ : g22 1100025 (g58 1100025 (g58 1046 0)) = g22 1100025 (g22 1046 0) := congrArg ((g22 1100025)) (la_object_178 h1578_)
    have e2099_ : g22 1100025 (g58 1100025 (g58 1046 0)) = g22 1100025 (g22 1100025 (g22 1046 0)) := congrArg ((g22 1100025)) (la_object_178 h1578_)
    have e2100_ : g22 1100025 (g58 1100025 (g58 1046 0)) = g22 1100025 (g40 1046 0) := congrArg ((g22 1100025)) (la_object_178 h1578_)
    have e2101_ : g22 1100025 (g58 1100025 (g58 1046 0)) = g22 1100025 (g40 1100025 (g40 1046 0)) := congrArg ((g22 1100025)) (la_object_178 h1578_)
    have e2102_ : g22 1100025 (g58 1100025 (g58 1046 0)) = g22 1100025 (g48 1046 0) := congrArg ((g22 1100025)) (la_object_178 h1578_)
    have e2103_ : g22 1100025 (g58 1100025 (g58 1046 0)) = g22 1100025 (g58 1046 0) := congrArg ((g22 1100025)) (la_object_178 h1578_)
    have e2104_ : g22 1100025 (g65 1046 0) = g22 1100025 (g22 1046 0) := congrArg ((g22 1100025)) (la_object_178 h1578_)
    have e2105_ : g22 1100025 (g65 1046 0) = g22 1100025 (g22 1100025 (g22 1046 0)) := congrArg ((g22 1100025)) (la_object_178 h1578_)
    have e2106_ : g22 1100025 (g65 1046 0) = g22 1100025 (g40 1046 0) := congrArg ((g22 1100025)) (la_object_178 h1578_)
    have e2107_ : g22 1100025 (g65 1046 0) = g22 1100025 (g40 1100025 (g40 1046 0)) := congrArg ((g22 1100025)) (la_object_178 h1578_)
    have e2108_ : g22 1100025 (g65 1046 0) = g22 1100025 (g48 1046 0) := congrArg ((g22 1100025)) (la_object_178 h1578_)
    have e2109_ : g22 1100025 (g65 1046 0) = g22 1100025 (g58 1046 0) := congrArg ((g22 1100025)) (la_object_178 h1578_)
    have e2110_ : g22 1100025 (g65 1046 0) = g22 1100025 (g58 1100025 (g58 1046 0)) := congrArg ((g22 1100025)) (la_object_178 h1578_)
    have e2111_ : g22 26 (g58 1046 0) = g22 26 (g22 1046 0) := congrArg ((g22 26)) (la_object_178 h1578_)
    have e2112_ : g22 26 (g58 1046 0) = g22 26 (g40 1046 0) := congrArg ((g22 26)) (la_object_178 h1578_)
    have e2113_ : g22 29 (g58 1046 0) = g22 29 (g22 1046 0) := congrArg ((g22 29)) (la_object_178 h1578_)
    have e2114_ : g22 29 (g58 1046 0) = g22 29 (g40 1046 0) := congrArg ((g22 29)) (la_object_178 h1578_)
    have e2115_ : g40 1100007 (g58 1100023 (g58 1100023 (g58 1046 0))) = g40 1100007 (g40 1046 0) := congrArg ((g40 1100007)) (la_object_178 h1578_)
    have e2116_ : g40 1100007 (g58 1100023 (g58 1100023 (g58 1046 0))) = g40 1100007 (g40 1100023 (g40 1046 0)) := congrArg ((g40 1100007)) (la_object_178 h1578_)
    have e2117_ : g40 1100007 (g58 1100023 (g58 1100023 (g58 1046 0))) = g40 1100007 (g40 1100023 (g40 1100023 (g40 1046 0))) := congrArg ((g40 1100007)) (la_object_178 h1578_)
    have e2118_ : g40 1100007 (g58 1100023 (g58 1100023 (g58 1046 0))) = g40 1100007 (g40 1100025 (g40 1046 0)) := congrArg ((g40 1100007)) (la_object_178 h1578_)
    have e2119_ : g40 1100007 (g58 1100023 (g58 1100023 (g58 1046 0))) = g40 1100007 (g48 1046 0) := congrArg ((g40 1100007)) (la_object_178 h1578_)
    have e2120_ : g40 1100007 (g58 1100023 (g58 1100023 (g58 1046 0))) = g40 1100007 (g48 1100023 (g48 1046 0)) := congrArg ((g40 1100007)) (la_object_178 h1578_)
    have e2121_ : g40 1100007 (g58 1100023 (g58 1100023 (g58 1046 0))) = g40 1100007 (g48 1100025 (g48 1046 0)) := congrArg ((g40 1100007)) (la_object_178 h1578_)
    have e2122_ : g40 1100007 (g58 1100023 (g58 1100023 (g58 1046 0))) = g40 1100007 (g58 1046 0) := congrArg ((g40 1100007)) (la_object_178 h1578_)
    have e2123_ : g40 1100007 (g58 1100023 (g58 1100023 (g58 1046 0))) = g40 1100007 (g58 1100023 (g58 1046 0)) := congrArg ((g40 1100007)) e2002_
    have e2124_ : g40 1100007 (g58 1100025 (g58 1046 0)) = g40 1100007 (g58 1100023 (g58 1100023 (g58 1046 0))) := congrArg ((g40 1100007)) (la_object_178 h1578_)
    have e2125_ : g40 1100007 (g65 1046 0) = g40 1100007 (g58 1100023 (g58 1100023 (g58 1046 0))) := congrArg ((g40 1100007)) (la_object_178 h1578_)
    have e2126_ : g40 1100007 (g65 1100023 (g65 1046 0)) = g40 1100007 (g58 1100023 (g58 1100023 (g58 1046 0))) := congrArg ((g40 1100007)) (la_object_178 h1578_)
    have e2127_ : g40 1100007 (g65 1100025 (g65 1046 0)) = g40 1100007 (g58 1100023 (g58 1100023 (g58 1046 0))) := congrArg ((g40 1100007)) (la_object_178 h1578_)
    have e2128_ : g40 1100023 (g58 1100023 (g58 1046 0)) = g40 1100023 (g40 1046 0) := congrArg ((g40 1100023)) (la_object_178 h1578_)
    have e2129_ : g40 1100023 (g58 1100023 (g58 1046 0)) = g40 1100023 (g40 1100023 (g40 1046 0)) := congrArg ((g40 1100023)) (la_object_178 h1578_)
    have e2130_ : g40 1100023 (g58 1100023 (g58 1046 0)) = g40 1100023 (g48 1046 0) := congrArg ((g40 1100023)) (la_object_178 h1578_)
    have e2131_ : g40 1100023 (g58 1100023 (g58 1046 0)) = g40 1100023 (g58 1046 0) := congrArg ((g40 1100023)) (la_object_178 h1578_)
    have e2132_ : g40 1100023 (g65 1046 0) = g40 1100023 (g58 1100023 (g58 1046 0)) := congrArg ((g40 1100023)) (la_object_178 h1578_)
    have e2133_ : g40 1100023 (g65 1100023 (g65 1046 0)) = g40 1100023 (g40 1046 0) := congrArg ((g40 1100023)) (la_object_178 h1578_)
    have e2134_ : g40 1100023 (g65 1100023 (g65 1046 0)) = g40 1100023 (g40 1100023 (g40 1046 0)) := congrArg ((g40 1100023)) (la_object_178 h1578_)
    have e2135_ : g40 1100023 (g65 1100023 (g65 1046 0)) = g40 1100023 (g48 1046 0) := congrArg ((g40 1100023)) (la_object_178 h1578_)
    have e2136_ : g40 1100023 (g65 1100023 (g65 1046 0)) = g40 1100023 (g58 1046 0) := congrArg ((g40 1100023)) (la_object_178 h1578_)
    have e2137_ : g40 1100023 (g65 1100023 (g65 1046 0)) = g40 1100023 (g58 1100023 (g58 1046 0)) := congrArg ((g40 1100023)) (la_object_178 h1578_)
    have e2138_ : g40 1100023 (g65 1100023 (g65 1046 0)) = g40 1100023 (g65 1046 0) := congrArg ((g40 1100023)) (la_object_178 h1578_)
    have e2139_ : g40 1100025 (g58 1100025 (g58 1046 0)) = g40 1100025 (g40 1046 0) := congrArg ((g40 1100025)) (la_object_178 h1578_)
    have e2140_ : g40 1100025 (g58 1100025 (g58 1046 0)) = g40 1100025 (g40 1100025 (g40 1046 0)) := congrArg ((g40 1100025)) (la_object_178 h1578_)
    have e2141_ : g40 1100025 (g58 1100025 (g58 1046 0)) = g40 1100025 (g48 1046 0) := congrArg ((g40 1100025)) (la_object_178 h1578_)
    have e2142_ : g40 1100025 (g58 1100025 (g58 1046 0)) = g40 1100025 (g58 1046 0) := congrArg ((g40 1100025)) (la_object_178 h1578_)
    have e2143_ : g40 1100025 (g65 1046 0) = g40 1100025 (g58 1100025 (g58 1046 0)) := congrArg ((g40 1100025)) (la_object_178 h1578_)
    have e2144_ : g40 1100025 (g65 1100025 (g65 1046 0)) = g40 1100025 (g40 1046 0) := congrArg ((g40 1100025)) (la_object_178 h1578_)
    have e2145_ : g40 1100025 (g65 1100025 (g65 1046 0)) = g40 1100025 (g40 1100025 (g40 1046 0)) := congrArg ((g40 1100025)) (la_object_178 h1578_)
    have e2146_ : g40 1100025 (g65 1100025 (g65 1046 0)) = g40 1100025 (g48 1046 0) := congrArg ((g40 1100025)) (la_object_178 h1578_)
    have e2147_ : g40 1100025 (g65 1100025 (g65 1046 0)) = g40 1100025 (g58 1046 0) := congrArg ((g40 1100025)) (la_object_178 h1578_)
    have e2148_ : g40 1100025 (g65 1100025 (g65 1046 0)) = g40 1100025 (g58 1100025 (g58 1046 0)) := congrArg ((g40 1100025)) (la_object_178 h1578_)
    have e2149_ : g40 1100025 (g65 1100025 (g65 1046 0)) = g40 1100025 (g65 1046 0) := congrArg ((g40 1100025)) (la_object_178 h1578_)
    have e2150_ : g48 1100007 (g58 1100023 (g58 1100023 (g58 1046 0))) = g48 1100007 (g48 1046 0) := congrArg ((g48 1100007)) (la_object_178 h1578_)
    have e2151_ : g48 1100007 (g58 1100023 (g58 1100023 (g58 1046 0))) = g48 1100007 (g48 1100023 (g48 1046 0)) := congrArg ((g48 1100007)) (la_object_178 h1578_)
    have e2152_ : g48 1100007 (g58 1100023 (g58 1100023 (g58 1046 0))) = g48 1100007 (g48 1100025 (g48 1046 0)) := congrArg ((g48 1100007)) (la_object_178 h1578_)
    have e2153_ : g48 1100007 (g58 1100023 (g58 1100023 (g58 1046 0))) = g48 1100007 (g58 1046 0) := congrArg ((g48 1100007)) (la_object_178 h1578_)
    have e2154_ : g48 1100007 (g58 1100023 (g58 1100023 (g58 1046 0))) = g48 1100007 (g58 1100023 (g58 1046 0)) := congrArg ((g48 1100007)) e2002_
    have e2155_ : g48 1100007 (g58 1100025 (g58 1046 0)) = g48 1100007 (g58 1100023 (g58 1100023 (g58 1046 0))) := congrArg ((g48 1100007)) (la_object_178 h1578_)
    have e2156_ : g48 1100007 (g65 1046 0) = g48 1100007 (g58 1100023 (g58 1100023 (g58 1046 0))) := congrArg ((g48 1100007)) (la_object_178 h1578_)
    have e2157_ : g48 1100007 (g65 1100023 (g65 1046 0)) = g48 1100007 (g58 1100023 (g58 1100023 (g58 1046 0))) := congrArg ((g48 1100007)) (la_object_178 h1578_)
    have e2158_ : g48 1100007 (g65 1100025 (g65 1046 0)) = g48 1100007 (g58 1100023 (g58 1100023 (g58 1046 0))) := congrArg ((g48 1100007)) (la_object_178 h1578_)
    have e2159_ : g48 1100023 (g58 1100023 (g58 1046 0)) = g48 1100023 (g48 1046 0) := congrArg ((g48 1100023)) (la_object_178 h1578_)
    have e2160_ : g48 1100023 (g58 1100023 (g58 1046 0)) = g48 1100023 (g58 1046 0) := congrArg ((g48 1100023)) (la_object_178 h1578_)
    have e2161_ : g48 1100023 (g65 1046 0) = g48 1100023 (g58 1100023 (g58 1046 0)) := congrArg ((g48 1100023)) (la_object_178 h1578_)
    have e2162_ : g48 1100023 (g65 1100023 (g65 1046 0)) = g48 1100023 (g48 1046 0) := congrArg ((g48 1100023)) (la_object_178 h1578_)
    have e2163_ : g48 1100023 (g65 1100023 (g65 1046 0)) = g48 1100023 (g58 1046 0) := congrArg ((g48 1100023)) (la_object_178 h1578_)
    have e2164_ : g48 1100023 (g65 1100023 (g65 1046 0)) = g48 1100023 (g58 1100023 (g58 1046 0)) := congrArg ((g48 1100023)) (la_object_178 h1578_)
    have e2165_ : g48 1100023 (g65 1100023 (g65 1046 0)) = g48 1100023 (g65 1046 0) := congrArg ((g48 1100023)) (la_object_178 h1578_)
    have e2166_ : g48 1100025 (g58 1100025 (g58 1046 0)) = g48 1100025 (g48 1046 0) := congrArg ((g48 1100025)) (la_object_178 h1578_)
    have e2167_ : g48 1100025 (g58 1100025 (g58 1046 0)) = g48 1100025 (g58 1046 0) := congrArg ((g48 1100025)) (la_object_178 h1578_)
    have e2168_ : g48 1100025 (g65 1046 0) = g48 1100025 (g58 1100025 (g58 1046 0)) := congrArg ((g48 1100025)) (la_object_178 h1578_)
    have e2169_ : g48 1100025 (g65 1100025 (g65 1046 0)) = g48 1100025 (g48 1046 0) := congrArg ((g48 1100025)) (la_object_178 h1578_)
    have e2170_ : g48 1100025 (g65 1100025 (g65 1046 0)) = g48 1100025 (g58 1046 0) := congrArg ((g48 1100025)) (la_object_178 h1578_)
    have e2171_ : g48 1100025 (g65 1100025 (g65 1046 0)) = g48 1100025 (g58 1100025 (g58 1046 0)) := congrArg ((g48 1100025)) (la_object_178 h1578_)
    have e2172_ : g48 1100025 (g65 1100025 (g65 1046 0)) = g48 1100025 (g65 1046 0) := congrArg ((g48 1100025)) (la_object_178 h1578_)
    have e2173_ : g58 1100023 (g65 1100023 (g65 1046 0)) = g58 1100023 (g58 1046 0) := congrArg ((g58 1100023)) (la_object_178 h1578_)
    have e2174_ : g58 1100023 (g65 1100023 (g65 1046 0)) = g58 1100023 (g58 1100023 (g58 1046 0)) := congrArg ((g58 1100023)) (la_object_178 h1578_)
    have e2175_ : g58 1100023 (g65 1100023 (g65 1046 0)) = g58 1100023 (g65 1046 0) := congrArg ((g58 1100023)) (la_object_178 h1578_)
    have e2176_ : g58 1100025 (g65 1100025 (g65 1046 0)) = g58 1100025 (g58 1046 0) := congrArg ((g58 1100025)) (la_object_178 h1578_)
    have e2177_ : g58 1100025 (g65 1100025 (g65 1046 0)) = g58 1100025 (g58 1100025 (g58 1046 0)) := congrArg ((g58 1100025)) (la_object_178 h1578_)
    have e2178_ : g58 1100025 (g65 1100025 (g65 1046 0)) = g58 1100025 (g65 1046 0) := congrArg ((g58 1100025)) (la_object_178 h1578_)
    have e2179_ : S 1100023 (g58 1100023 (g58 1046 0)) = S 1100023 (S 1046 0) := congrArg ((S 1100023)) (la_object_178 h1578_)
    have e2180_ : S 1100023 (g58 1100023 (g58 1046 0)) = S 1100023 (g22 1046 0) := congrArg ((S 1100023)) (la_object_178 h1578_)
    have e2181_ : S 1100023 (g58 1100023 (g58 1046 0)) = S 1100023 (g22 1100023 (g22 1046 0)) := congrArg ((S 1100023)) (la_object_178 h1578_)
    have e2182_ : S 1100023 (g58 1100023 (g58 1046 0)) = S 1100023 (g40 1046 0) := congrArg ((S 1100023)) (la_object_178 h1578_)
    have e2183_ : S 1100023 (g58 1100023 (g58 1046 0)) = S 1100023 (g40 1100023 (g40 1046 0)) := congrArg ((S 1100023)) (la_object_178 h1578_)
    have e2184_ : S 1100023 (g58 1100023 (g58 1046 0)) = S 1100023 (g48 1046 0) := congrArg ((S 1100023)) (la_object_178 h1578_)
    have e2185_ : S 1100023 (g58 1100023 (g58 1046 0)) = S 1100023 (g58 1046 0) := congrArg ((S 1100023)) (la_object_178 h1578_)
    have e2186_ : S 1100023 (g65 1046 0) = S 1100023 (g58 1100023 (g58 1046 0)) := congrArg ((S 1100023)) (la_object_178 h1578_)
    have e2187_ : S 1100023 (g65 1100023 (g65 1046 0)) = S 1100023 (S 1046 0) := congrArg ((S 1100023)) (la_object_178 h1578_)
    have e2188_ : S 1100023 (g65 1100023 (g65 1046 0)) = S 1100023 (g22 1046 0) := congrArg ((S 1100023)) (la_object_178 h1578_)
    have e2189_ : S 1100023 (g65 1100023 (g65 1046 0)) = S 1100023 (g22 1100023 (g22 1046 0)) := congrArg ((S 1100023)) (la_object_178 h1578_)
    have e2190_ : S 1100023 (g65 1100023 (g65 1046 0)) = S 1100023 (g40 1046 0) := congrArg ((S 1100023)) (la_object_178 h1578_)
    have e2191_ : S 1100023 (g65 1100023 (g65 1046 0)) = S 1100023 (g40 1100023 (g40 1046 0)) := congrArg ((S 1100023)) (la_object_178 h1578_)
    have e2192_ : S 1100023 (g65 1100023 (g65 1046 0)) = S 1100023 (g48 1046 0) := congrArg ((S 1100023)) (la_object_178 h1578_)
    have e2193_ : S 1100023 (g65 1100023 (g65 1046 0)) = S 1100023 (g58 1046 0) := congrArg ((S 1100023)) (la_object_178 h1578_)
    have e2194_ : S 1100023 (g65 1100023 (g65 1046 0)) = S 1100023 (g58 1100023 (g58 1046 0)) := congrArg ((S 1100023)) (la_object_178 h1578_)
    have e2195_ : S 1100023 (g65 1100023 (g65 1046 0)) = S 1100023 (g65 1046 0) := congrArg ((S 1100023)) (la_object_178 h1578_)
    have e2196_ : S 1100025 (g58 1100025 (g58 1046 0)) = S 1100025 (S 1046 0) := congrArg ((S 1100025)) (la_object_178 h1578_)
    have e2197_ : S 1100025 (g58 1100025 (g58 1046 0)) = S 1100025 (g22 1046 0) := congrArg ((S 1100025)) (la_object_178 h1578_)
    have e2198_ : S 1100025 (g58 1100025 (g58 1046 0)) = S 1100025 (g22 1100025 (g22 1046 0)) := congrArg ((S 1100025)) (la_object_178 h1578_)
    have e2199_ : S 1100025 (g58 1100025 (g58 1046 0)) = S 1100025 (g40 1046 0) := congrArg ((S 1100025)) (la_object_178 h1578_)
    have e2200_ : S 1100025 (g58 1100025 (g58 1046 0)) = S 1100025 (g40 1100025 (g40 1046 0)) := congrArg ((S 1100025)) (la_object_178 h1578_)
    have e2201_ : S 1100025 (g58 1100025 (g58 1046 0)) = S 1100025 (g48 1046 0) := congrArg ((S 1100025)) (la_object_178 h1578_)
    have e2202_ : S 1100025 (g58 1100025 (g58 1046 0)) = S 1100025 (g58 1046 0) := congrArg ((S 1100025)) (la_object_178 h1578_)
    have e2203_ : S 1100025 (g65 1046 0) = S 1100025 (g58 1100025 (g58 1046 0)) := congrArg ((S 1100025)) (la_object_178 h1578_)
    have e2204_ : S 1100025 (g65 1100025 (g65 1046 0)) = S 1100025 (S 1046 0) := congrArg ((S 1100025)) (la_object_178 h1578_)
    have e2205_ : S 1100025 (g65 1100025 (g65 1046 0)) = S 1100025 (g22 1046 0) := congrArg ((S 1100025)) (la_object_178 h1578_)
    have e2206_ : S 1100025 (g65 1100025 (g65 1046 0)) = S 1100025 (g22 1100025 (g22 1046 0)) := congrArg ((S 1100025)) (la_object_178 h1578_)
    have e2207_ : S 1100025 (g65 1100025 (g65 1046 0)) = S 1100025 (g40 1046 0) := congrArg ((S 1100025)) (la_object_178 h1578_)
    have e2208_ : S 1100025 (g65 1100025 (g65 1046 0)) = S 1100025 (g40 1100025 (g40 1046 0)) := congrArg ((S 1100025)) (la_object_178 h1578_)
    have e2209_ : S 1100025 (g65 1100025 (g65 1046 0)) = S 1100025 (g48 1046 0) := congrArg ((S 1100025)) (la_object_178 h1578_)
    have e2210_ : S 1100025 (g65 1100025 (g65 1046 0)) = S 1100025 (g58 1046 0) := congrArg ((S 1100025)) (la_object_178 h1578_)
    have e2211_ : S 1100025 (g65 1100025 (g65 1046 0)) = S 1100025 (g58 1100025 (g58 1046 0)) := congrArg ((S 1100025)) (la_object_178 h1578_)
    have e2212_ : S 1100025 (g65 1100025 (g65 1046 0)) = S 1100025 (g65 1046 0) := congrArg ((S 1100025)) (la_object_178 h1578_)
    have e2213_ : g22 1100023 (g65 1100023 (g65 1046 0)) = g22 1100023 (g22 1046 0) := congrArg ((g22 1100023)) (la_object_178 h1578_)
    have e2214_ : g22 1100023 (g65 1100023 (g65 1046 0)) = g22 1100023 (g22 1100023 (g22 1046 0)) := congrArg ((g22 1100023)) (la_object_178 h1578_)
    have e2215_ : g22 1100023 (g65 1100023 (g65 1046 0)) = g22 1100023 (g40 1046 0) := congrArg ((g22 1100023)) (la_object_178 h1578_)
    have e2216_ : g22 1100023 (g65 1100023 (g65 1046 0)) = g22 1100023 (g40 1100023 (g40 1046 0)) := congrArg ((g22 1100023)) (la_object_178 h1578_)
    have e2217_ : g22 1100023 (g65 1100023 (g65 1046 0)) = g22 1100023 (g48 1046 0) := congrArg ((g22 1100023)) (la_object_178 h1578_)
    have e2218_ : g22 1100023 (g65 1100023 (g65 1046 0)) = g22 1100023 (g58 1046 0) := congrArg ((g22 1100023)) (la_object_178 h1578_)
    have e2219_ : g22 1100023 (g65 1100023 (g65 1046 0)) = g22 1100023 (g58 1100023 (g58 1046 0)) := congrArg ((g22 1100023)) (la_object_178 h1578_)
    have e2220_ : g22 1100023 (g65 1100023 (g65 1046 0)) = g22 1100023 (g65 1046 0) := congrArg ((g22 1100023)) (la_object_178 h1578_)
    have e2221_ : g22 1100025 (g65 1100025 (g65 1046 0)) = g22 1100025 (g22 1046 0) := congrArg ((g22 1100025)) (la_object_178 h1578_)
    have e2222_ : g22 1100025 (g65 1100025 (g65 1046 0)) = g22 1100025 (g22 1100025 (g22 1046 0)) := congrArg ((g22 1100025)) (la_object_178 h1578_)
    have e2223_ : g22 1100025 (g65 1100025 (g65 1046 0)) = g22 1100025 (g40 1046 0) := congrArg ((g22 1100025)) (la_object_178 h1578_)
    have e2224_ : g22 1100025 (g65 1100025 (g65 1046 0)) = g22 1100025 (g40 1100025 (g40 1046 0)) := congrArg ((g22 1100025)) (la_object_178 h1578_)
    have e2225_ : g22 1100025 (g65 1100025 (g65 1046 0)) = g22 1100025 (g48 1046 0) := congrArg ((g22 1100025)) (la_object_178 h1578_)
    have e2226_ : g22 1100025 (g65 1100025 (g65 1046 0)) = g22 1100025 (g58 1046 0) := congrArg ((g22 1100025)) (la_object_178 h1578_)
    have e2227_ : g22 1100025 (g65 1100025 (g65 1046 0)) = g22 1100025 (g58 1100025 (g58 1046 0)) := congrArg ((g22 1100025)) (la_object_178 h1578_)
    have e2228_ : g22 1100025 (g65 1100025 (g65 1046 0)) = g22 1100025 (g65 1046 0) := congrArg ((g22 1100025)) (la_object_178 h1578_)
    exact ((la_object_184 h1578_)).elim
  intro g72
  rintro ⟨h2229_, ⟨h2230_, ⟨h2231_, ⟨h2232_, ⟨h2233_, ⟨h2234_, ⟨h2235_, ⟨h2236_, ⟨h2237_, ⟨h2238_, ⟨h2239_, ⟨h2240_, ⟨h2241_, ⟨h2242_, ⟨h2243_, ⟨h2244_, h2245_⟩⟩⟩⟩⟩⟩⟩⟩⟩⟩⟩⟩⟩⟩⟩⟩
  refine ⟨(la_object_185 h8_ h285_ h286_), ?_⟩
  intro h2246_
  refine ⟨?_, ?_⟩
  · skip
    refine ⟨(la_object_17 h2231_), ?_⟩
    refine ⟨h2234_, ?_⟩
    refine ⟨h2229_, ?_⟩
    refine ⟨h2230_, ?_⟩
    refine ⟨h989_, ?_⟩
    refine ⟨h990_, ?_⟩
    refine ⟨(la_object_186 h276_), ?_⟩
    refine ⟨(la_object_187 h276_ h277_ (la_object_13 h20_ h274_) h285_ h287_ h288_ h289_ (la_object_13 (la_object_45 h285_) h273_) h314_), ?_⟩
    refine ⟨?_, ?_⟩
    · skip
      intro h2247_
      exact (sm_LF_w h282_ (sm_F1_le h1009_ (la_object_103 h1008_)) (Int.le_refl _) (la_object_103 h1008_) h990_ (Int.le_refl _))
    refine ⟨(la_object_17 h2231_), ?_⟩
    refine ⟨h2234_, ?_⟩
    refine ⟨h2229_, ?_⟩
    refine ⟨h2230_, ?_⟩
    refine ⟨h989_, ?_⟩
    refine ⟨h990_, ?_⟩
    refine ⟨(la_object_188 h383_ h558_ h594_ h991_ h1494_ h2232_), ?_⟩
    refine ⟨(la_object_189 h22_ h2230_), ?_⟩
    refine ⟨(sm_F1_tr (sm_F1_tr (sm_F1_tr (sm_F1_tr (sm_F1_tr (sm_F1_le h215_ (Int.le_refl _)) h563_ h213_) h599_ (la_object_193 h383_ h558_)) h993_ (la_object_192 h383_ h558_ h594_)) h1499_ (la_object_191 h383_ h558_ h594_ h991_)) h2237_ (la_object_190 h383_ h558_ h594_ h991_ h1494_)), ?_⟩
    refine ⟨(sm_F1_tr (sm_F1_tr (sm_F1_tr (sm_F1_tr (sm_F1_tr (sm_F1_le h216_ (Int.le_refl _)) h564_ h213_) h600_ (la_object_193 h383_ h558_)) h994_ (la_object_192 h383_ h558_ h594_)) h1500_ (la_object_191 h383_ h558_ h594_ h991_)) h2238_ (la_object_190 h383_ h558_ h594_ h991_ h1494_)), ?_⟩
    refine ⟨(sm_F1_tr (sm_F1_tr (sm_F1_tr (sm_F1_tr (sm_F1_tr (sm_F1_le h217_ (Int.le_refl _)) h565_ h213_) h601_ (la_object_193 h383_ h558_)) h995_ (la_object_192 h383_ h558_ h594_)) h1501_ (la_object_191 h383_ h558_ h594_ h991_)) h2239_ (la_object_190 h383_ h558_ h594_ h991_ h1494_)), ?_⟩
    refine ⟨(sm_F1_tr (sm_F1_tr (sm_F1_tr (sm_F1_tr (sm_F1_tr (sm_F1_le h218_ (Int.le_refl _)) h566_ h213_) h602_ (la_object_193 h383_ h558_)) h996_ (la_object_192 h383_ h558_ h594_)) h1502_ (la_object_191 h383_ h558_ h594_ h991_)) h2240_ (la_object_190 h383_ h558_ h594_ h991_ h1494_)), ?_⟩
    refine ⟨(sm_F1_tr (sm_F1_tr (sm_F1_tr (sm_F1_tr (sm_F1_tr (sm_F1_le h219_ (Int.le_refl _)) h567_ (la_object_198 h383_)) h603_ (la_object_197 h383_ h558_)) h997_ (la_object_196 h383_ h558_ h594_)) h1503_ (la_object_195 h383_ h558_ h594_ h991_)) h2241_ (la_object_194 h383_ h558_ h594_ h991_ h1494_)), ?_⟩
    refine ⟨(sm_F1_tr (sm_F1_tr (sm_F1_tr (sm_F1_tr (sm_F1_tr (sm_F1_le h220_ (Int.le_refl _)) h568_ (la_object_198 h383_)) h604_ (la_object_197 h383_ h558_)) h998_ (la_object_196 h383_ h558_ h594_)) h1504_ (la_object_195 h383_ h558_ h594_ h991_)) h2242_ (la_object_194 h383_ h558_ h594_ h991_ h1494_)), ?_⟩
    refine ⟨(sm_F1_tr (sm_F1_tr (sm_F1_tr (sm_F1_tr (sm_F1_tr (sm_F1_le h221_ (Int.le_refl _)) h569_ (la_object_198 h383_)) h605_ (la_object_197 h383_ h558_)) h999_ (la_object_196 h383_ h558_ h594_)) h1505_ (la_object_195 h383_ h558_ h594_ h991_)) h2243_ (la_object_194 h383_ h558_ h594_ h991_ h1494_)), ?_⟩
    refine ⟨(sm_F1_tr (sm_F1_tr (sm_F1_tr (sm_F1_tr (sm_F1_tr (sm_F1_le h222_ (Int.le_refl _)) h570_ (la_object_198 h383_)) h606_ (la_object_197 h383_ h558_)) h1000_ (la_object_196 h383_ h558_ h594_)) h1506_ (la_object_195 h383_ h558_ h594_ h991_)) h2244_ (la_object_194 h383_ h558_ h594_ h991_ h1494_)), ?_⟩
    refine ⟨(sm_F1_tr (sm_F1_le h223_ (Int.le_refl _)) h1001_ h229_), ?_⟩
    refine ⟨(sm_F1_tr (sm_F1_le h224_ (Int.le_refl _)) h1002_ h229_), ?_⟩
    refine ⟨(sm_F1_tr (sm_F1_le h225_ (Int.le_refl _)) h1003_ h229_), ?_⟩
    refine ⟨(sm_F1_tr (sm_F1_le h226_ (Int.le_refl _)) h1004_ h229_), ?_⟩
    refine ⟨(sm_F1_tr (sm_F1_le h227_ (Int.le_refl _)) h1005_ h229_), ?_⟩
    refine ⟨(sm_F1_tr (sm_F1_le h228_ (Int.le_refl _)) h1006_ h229_), ?_⟩
    refine ⟨(la_object_199 h229_ h1007_), ?_⟩
    refine ⟨(la_object_200 h230_ h1008_), ?_⟩
    refine ⟨(sm_F1_tr (sm_F1_le h231_ (Int.le_refl _)) h1009_ (la_object_201 h230_)), ?_⟩
    refine ⟨(la_object_202 h22_), ?_⟩
    refine ⟨(la_object_203 h235_ e284_ h288_ (sm_ex_e h304_).2.2.2.1 h327_ h393_ h558_ h591_ h592_ h594_ h1010_ h1011_), ?_⟩
    intro h2248_
    have h2249_ : ¬ (g65 1047 0 = 1) := fun q_ => (la_object_15 h2248_) (h2235_ q_)
    obtain ⟨h2250_, ⟨h2251_, ⟨h2252_, ⟨h2253_, ⟨h2254_, ⟨h2255_, ⟨h2256_, ⟨h2257_, ⟨h2258_, ⟨h2259_, ⟨h2260_, ⟨h2261_, ⟨h2262_, h2263_⟩⟩⟩⟩⟩⟩⟩⟩⟩⟩⟩⟩⟩ := (h2245_ h2248_)
    have h2264_ : ¬ (g58 1047 0 = 1) := fun q_ => h2249_ (h1497_ q_)
    have h2265_ := (h2262_ la_object_205)
    have h2266_ := (h2263_ la_object_204)
    obtain ⟨h2267_, ⟨h2268_, ⟨h2269_, ⟨h2270_, ⟨h2271_, ⟨h2272_, ⟨h2273_, ⟨h2274_, ⟨h2275_, ⟨h2276_, ⟨h2277_, ⟨h2278_, ⟨h2279_, h2280_⟩⟩⟩⟩⟩⟩⟩⟩⟩⟩⟩⟩⟩ := (h1507_ h2250_)
    have h2281_ : ¬ (g48 1047 0 = 1) := fun q_ => h2264_ (h992_ q_)
    have h2282_ := (h2280_ la_object_157)
    obtain ⟨h2283_, ⟨h2284_, ⟨h2285_, ⟨h2286_, ⟨h2287_, ⟨h2288_, ⟨h2289_, ⟨h2290_, ⟨h2291_, ⟨h2292_, ⟨h2293_, ⟨h2294_, ⟨h2295_, ⟨h2296_, ⟨h2297_, ⟨h2298_, -⟩⟩⟩⟩⟩⟩⟩⟩⟩⟩⟩⟩⟩⟩⟩⟩ := (h1012_ h2267_)
    have h2299_ : ¬ (g40 1047 0 = 1) := fun q_ => h2281_ (h597_ q_)
    have h2300_ := (h1011_ h2283_)
    have h2301_ := (h2282_ la_object_159)
    obtain ⟨h2302_, ⟨h2303_, ⟨h2304_, ⟨h2305_, ⟨h2306_, ⟨h2307_, ⟨h2308_, ⟨h2309_, ⟨h2310_, ⟨h2311_, ⟨h2312_, ⟨h2313_, ⟨h2314_, h2315_⟩⟩⟩⟩⟩⟩⟩⟩⟩⟩⟩⟩⟩ := (h607_ h2283_)
    have h2316_ := (h2315_ la_object_105)
    obtain ⟨h2317_, ⟨h2318_, ⟨h2319_, ⟨h2320_, ⟨h2321_, ⟨h2322_, ⟨h2323_, ⟨h2324_, ⟨h2325_, ⟨h2326_, ⟨h2327_, ⟨h2328_, ⟨h2329_, h2330_⟩⟩⟩⟩⟩⟩⟩⟩⟩⟩⟩⟩⟩ := (h571_ h2302_)
    have h2331_ := (h2316_ la_object_107)
    have h2332_ := (h2330_ la_object_89)
    have h2333_ := (h2332_ la_object_91)
    refine ⟨h22_, ?_⟩
    refine ⟨h2252_, ?_⟩
    refine ⟨h2285_, ?_⟩
    refine ⟨h2286_, ?_⟩
    refine ⟨(la_object_206 h2251_ h2268_ h2287_), ?_⟩
    refine ⟨(la_object_207 h383_ h2251_ h2268_ h2288_ h2303_ h2318_), ?_⟩
    refine ⟨(sm_FC_s (sm_FC_F h384_ (sm_F1_tr (sm_F1_tr (sm_F1_tr (sm_F1_tr (sm_F1_le h566_ (Int.le_refl _)) h602_ h558_) h996_ (la_object_215 h2303_ h2318_)) h1502_ (la_object_214 h2288_ h2303_ h2318_)) h2240_ (la_object_213 h2268_ h2288_ h2303_ h2318_)) (Int.le_refl _) (Int.le_refl _) (Int.le_refl _) rfl) (sm_FC_1 (((sm_F1_at h2240_ (g22 1046 0) (la_object_216 h2268_ h2288_ h2303_ h2318_)).trans ((sm_F1_at h1502_ (g22 1046 0) (la_object_217 h2288_ h2303_ h2318_)).trans ((sm_F1_at h996_ (g22 1046 0) (la_object_218 h2303_ h2318_)).trans ((sm_F1_at h602_ (g22 1046 0) (la_object_219 h2318_)).trans rfl)))).trans h2322_) (sm_FC_1 (((sm_F1_at h2240_ (g22 1046 0 + 1) (la_object_220 h2268_ h2288_ h2303_ h2318_)).trans ((sm_F1_at h1502_ (g22 1046 0 + 1) (la_object_221 h2288_ h2303_ h2318_)).trans ((sm_F1_at h996_ (g22 1046 0 + 1) (la_object_222 h2303_ h2318_)).trans ((congrArg (g48 29) (la_object_223 h559_ h2318_)).trans h2307_)))).trans rfl) (sm_FC_s (sm_FC_F h2289_ (sm_F1_tr (sm_F1_le h1502_ (Int.le_refl _)) h2240_ h1494_) (Int.le_refl _) (la_object_226 h2303_ h2318_) (Int.le_refl _) rfl) (sm_FC_1 (((sm_F1_at h2240_ (g58 1046 0) (la_object_219 h2268_)).trans rfl).trans h2272_) (sm_FC_1 (((congrArg (g72 29) (la_object_223 h1495_ h2268_)).trans h2255_).trans rfl) (sm_FC_0 (la_object_228 h2233_ h2268_)))))))), ?_⟩
    refine ⟨(la_object_229 h385_ h2256_ (sm_dl_17 : sm_dl 17 0 = (-1)) h2273_ (sm_dl_11 : sm_dl 11 0 = (-2)) h2290_ h2308_ (sm_dl_0 : sm_dl 0 6 = 1) h2323_ (sm_dl_18 : sm_dl 18 0 = 1)), ?_⟩
    refine ⟨(la_object_230 h386_ h2257_ (sm_nt_17 : sm_nt 17 (g65 1046 0) (g65 1100023 (g65 1046 0)) (g65 1100023 (g65 1100023 (g65 1046 0))) = g65 1100023 (g65 1046 0)) h2274_ (sm_nt_11 : sm_nt 11 (g58 1046 0) (g58 1100023 (g58 1046 0)) (g58 1100023 (g58 1100023 (g58 1046 0))) = g58 1100023 (g58 1046 0)) h2291_ h2309_ (sm_nt_0 : sm_nt 0 (g40 1046 0) (g40 1100023 (g40 1046 0)) (g40 1100023 (g40 1100023 (g40 1046 0))) = g40 1100023 (g40 1046 0)) h2324_ (sm_nt_18 : sm_nt 18 (g22 1046 0) (g22 1100023 (g22 1046 0)) (g22 1100023 (g22 1100023 (g22 1046 0))) = g22 1100023 (g22 1046 0))), ?_⟩
    refine ⟨(la_object_230 h387_ h2258_ (sm_nd_17 : sm_nd 17 (g65 1100024 (g65 1046 0)) = g65 1100024 (g65 1046 0)) h2275_ (sm_nd_11 : sm_nd 11 (g58 1100024 (g58 1046 0)) = g58 1100024 (g58 1046 0)) h2292_ h2310_ (sm_nd_0 : sm_nd 0 (g40 1100024 (g40 1046 0)) = g40 1100024 (g40 1046 0)) h2325_ (sm_nd_18 : sm_nd 18 (g22 1100024 (g22 1046 0)) = g22 1100024 (g22 1046 0))), ?_⟩
    refine ⟨?_, ?_⟩
    · skip
      have e2334_ : S 1100007 (g22 1100023 (g22 1046 0)) = S 1100007 (S 1100023 (S 1046 0)) := congrArg ((S 1100007)) h386_
      have e2335_ : S 1100007 (g22 1100025 (g22 1046 0)) = S 1100007 (S 1100025 (S 1046 0)) := congrArg ((S 1100007)) h388_
      have e2336_ : S 1100007 (g40 1100023 (g40 1046 0)) = S 1100007 (S 1100023 (S 1046 0)) := congrArg ((S 1100007)) (la_object_130 h386_ h2324_ (sm_nt_18 : sm_nt 18 (g22 1046 0) (g22 1100023 (g22 1046 0)) (g22 1100023 (g22 1100023 (g22 1046 0))) = g22 1100023 (g22 1046 0)))
      have e2337_ : S 1100007 (g40 1100023 (g40 1046 0)) = S 1100007 (g22 1100023 (g22 1046 0)) := congrArg ((S 1100007)) (la_object_32 h2324_ (sm_nt_18 : sm_nt 18 (g22 1046 0) (g22 1100023 (g22 1046 0)) (g22 1100023 (g22 1100023 (g22 1046 0))) = g22 1100023 (g22 1046 0)))
      have e2338_ : S 1100007 (g40 1100025 (g40 1046 0)) = S 1100007 (S 1100025 (S 1046 0)) := congrArg ((S 1100007)) (la_object_130 h388_ h2326_ (sm_nl_18 : sm_nl 18 (g22 1046 0) (g22 1100007 (g22 1046 0)) (g22 1100025 (g22 1046 0)) (g22 1100007 (g22 1100025 (g22 1046 0))) (g22 1100025 (g22 1100025 (g22 1046 0))) = g22 1100025 (g22 1046 0)))
      have e2339_ : S 1100007 (g40 1100025 (g40 1046 0)) = S 1100007 (g22 1100025 (g22 1046 0)) := congrArg ((S 1100007)) (la_object_32 h2326_ (sm_nl_18 : sm_nl 18 (g22 1046 0) (g22 1100007 (g22 1046 0)) (g22 1100025 (g22 1046 0)) (g22 1100007 (g22 1100025 (g22 1046 0))) (g22 1100025 (g22 1100025 (g22 1046 0))) = g22 1100025 (g22 1046 0)))
      have e2340_ : S 1100007 (g48 1100023 (g48 1046 0)) = S 1100007 (S 1100023 (S 1046 0)) := congrArg ((S 1100007)) (la_object_243 h386_ h2309_ (sm_nt_0 : sm_nt 0 (g40 1046 0) (g40 1100023 (g40 1046 0)) (g40 1100023 (g40 1100023 (g40 1046 0))) = g40 1100023 (g40 1046 0)) h2324_ (sm_nt_18 : sm_nt 18 (g22 1046 0) (g22 1100023 (g22 1046 0)) (g22 1100023 (g22 1100023 (g22 1046 0))) = g22 1100023 (g22 1046 0)))
      have e2341_ : S 1100007 (g48 1100023 (g48 1046 0)) = S 1100007 (g22 1100023 (g22 1046 0)) := congrArg ((S 1100007)) (la_object_244 h2309_ (sm_nt_0 : sm_nt 0 (g40 1046 0) (g40 1100023 (g40 1046 0)) (g40 1100023 (g40 1100023 (g40 1046 0))) = g40 1100023 (g40 1046 0)) h2324_ (sm_nt_18 : sm_nt 18 (g22 1046 0) (g22 1100023 (g22 1046 0)) (g22 1100023 (g22 1100023 (g22 1046 0))) = g22 1100023 (g22 1046 0)))
      have e2342_ : S 1100007 (g48 1100023 (g48 1046 0)) = S 1100007 (g40 1100023 (g40 1046 0)) := congrArg ((S 1100007)) (la_object_32 h2309_ (sm_nt_0 : sm_nt 0 (g40 1046 0) (g40 1100023 (g40 1046 0)) (g40 1100023 (g40 1100023 (g40 1046 0))) = g40 1100023 (g40 1046 0)))
      have e2343_ : S 1100007 (g48 1100025 (g48 1046 0)) = S 1100007 (S 1100025 (S 1046 0)) := congrArg ((S 1100007)) (la_object_243 h388_ h2311_ (sm_nl_0 : sm_nl 0 (g40 1046 0) (g40 1100007 (g40 1046 0)) (g40 1100025 (g40 1046 0)) (g40 1100007 (g40 1100025 (g40 1046 0))) (g40 1100025 (g40 1100025 (g40 1046 0))) = g40 1100025 (g40 1046 0)) h2326_ (sm_nl_18 : sm_nl 18 (g22 1046 0) (g22 1100007 (g22 1046 0)) (g22 1100025 (g22 1046 0)) (g22 1100007 (g22 1100025 (g22 1046 0))) (g22 1100025 (g22 1100025 (g22 1046 0))) = g22 1100025 (g22 1046 0)))
      have e2344_ : S 1100007 (g48 1100025 (g48 1046 0)) = S 1100007 (g22 1100025 (g22 1046 0)) := congrArg ((S 1100007)) (la_object_244 h2311_ (sm_nl_0 : sm_nl 0 (g40 1046 0) (g40 1100007 (g40 1046 0)) (g40 1100025 (g40 1046 0)) (g40 1100007 (g40 1100025 (g40 1046 0))) (g40 1100025 (g40 1100025 (g40 1046 0))) = g40 1100025 (g40 1046 0)) h2326_ (sm_nl_18 : sm_nl 18 (g22 1046 0) (g22 1100007 (g22 1046 0)) (g22 1100025 (g22 1046 0)) (g22 1100007 (g22 1100025 (g22 1046 0))) (g22 1100025 (g22 1100025 (g22 1046 0))) = g22 1100025 (g22 1046 0)))
      have e2345_ : S 1100007 (g48 1100025 (g48 1046 0)) = S 1100007 (g40 1100025 (g40 1046 0)) := congrArg ((S 1100007)) (la_object_32 h2311_ (sm_nl_0 : sm_nl 0 (g40 1046 0) (g40 1100007 (g40 1046 0)) (g40 1100025 (g40 1046 0)) (g40 1100007 (g40 1100025 (g40 1046 0))) (g40 1100025 (g40 1100025 (g40 1046 0))) = g40 1100025 (g40 1046 0)))
      have e2346_ : S 12 (5 * l2_23 + 0) = S 12 (5 * l2_23) := congrArg ((S 12)) la_object_56
      have e2347_ : g22 1100007 (g40 1100023 (g40 1046 0)) = g22 1100007 (g22 1100023 (g22 1046 0)) := congrArg ((g22 1100007)) (la_object_32 h2324_ (sm_nt_18 : sm_nt 18 (g22 1046 0) (g22 1100023 (g22 1046 0)) (g22 1100023 (g22 1100023 (g22 1046 0))) = g22 1100023 (g22 1046 0)))
      have e2348_ : g22 1100007 (g40 1100025 (g40 1046 0)) = g22 1100007 (g22 1100025 (g22 1046 0)) := congrArg ((g22 1100007)) (la_object_32 h2326_ (sm_nl_18 : sm_nl 18 (g22 1046 0) (g22 1100007 (g22 1046 0)) (g22 1100025 (g22 1046 0)) (g22 1100007 (g22 1100025 (g22 1046 0))) (g22 1100025 (g22 1100025 (g22 1046 0))) = g22 1100025 (g22 1046 0)))
      have e2349_ : g22 1100007 (g48 1100023 (g48 1046 0)) = g22 1100007 (g22 1100023 (g22 1046 0)) := congrArg ((g22 1100007)) (la_object_244 h2309_ (sm_nt_0 : sm_nt 0 (g40 1046 0) (g40 1100023 (g40 1046 0)) (g40 1100023 (g40 1100023 (g40 1046 0))) = g40 1100023 (g40 1046 0)) h2324_ (sm_nt_18 : sm_nt 18 (g22 1046 0) (g22 1100023 (g22 1046 0)) (g22 1100023 (g22 1100023 (g22 1046 0))) = g22 1100023 (g22 1046 0)))
      have e2350_ : g22 1100007 (g48 1100023 (g48 1046 0)) = g22 1100007 (g40 1100023 (g40 1046 0)) := congrArg ((g22 1100007)) (la_object_32 h2309_ (sm_nt_0 : sm_nt 0 (g40 1046 0) (g40 1100023 (g40 1046 0)) (g40 1100023 (g40 1100023 (g40 1046 0))) = g40 1100023 (g40 1046 0)))
      have e2351_ : g22 1100007 (g48 1100025 (g48 1046 0)) = g22 1100007 (g22 1100025 (g22 1046 0)) := congrArg ((g22 1100007)) (la_object_244 h2311_ (sm_nl_0 : sm_nl 0 (g40 1046 0) (g40 1100007 (g40 1046 0)) (g40 1100025 (g40 1046 0)) (g40 1100007 (g40 1100025 (g40 1046 0))) (g40 1100025 (g40 1100025 (g40 1046 0))) = g40 1100025 (g40 1046 0)) h2326_ (sm_nl_18 : sm_nl 18 (g22 1046 0) (g22 1100007 (g22 1046 0)) (g22 1100025 (g22 1046 0)) (g22 1100007 (g22 1100025 (g22 1046 0))) (g22 1100025 (g22 1100025 (g22 1046 0))) = g22 1100025 (g22 1046 0)))
      have e2352_ : g22 1100007 (g48 1100025 (g48 1046 0)) = g22 1100007 (g40 1100025 (g40 1046 0)) := congrArg ((g22 1100007)) (la_object_32 h2311_ (sm_nl_0 : sm_nl 0 (g40 1046 0) (g40 1100007 (g40 1046 0)) (g40 1100025 (g40 1046 0)) (g40 1100007 (g40 1100025 (g40 1046 0))) (g40 1100025 (g40 1100025 (g40 1046 0))) = g40 1100025 (g40 1046 0)))
      have e2353_ : g22 1100007 (g58 1100023 (g58 1046 0)) = g22 1100007 (g22 1100023 (g22 1046 0)) := congrArg ((g22 1100007)) (la_object_245 h2291_ h2309_ (sm_nt_0 : sm_nt 0 (g40 1046 0) (g40 1100023 (g40 1046 0)) (g40 1100023 (g40 1100023 (g40 1046 0))) = g40 1100023 (g40 1046 0)) h2324_ (sm_nt_18 : sm_nt 18 (g22 1046 0) (g22 1100023 (g22 1046 0)) (g22 1100023 (g22 1100023 (g22 1046 0))) = g22 1100023 (g22 1046 0)))
      have e2354_ : g22 1100007 (g58 1100023 (g58 1046 0)) = g22 1100007 (g40 1100023 (g40 1046 0)) := congrArg ((g22 1100007)) (la_object_246 h2291_ h2309_ (sm_nt_0 : sm_nt 0 (g40 1046 0) (g40 1100023 (g40 1046 0)) (g40 1100023 (g40 1100023 (g40 1046 0))) = g40 1100023 (g40 1046 0)))
      have e2355_ : g22 1100007 (g58 1100023 (g58 1046 0)) = g22 1100007 (g48 1100023 (g48 1046 0)) := congrArg ((g22 1100007)) h2291_
      have e2356_ : g22 1100007 (g58 1100025 (g58 1046 0)) = g22 1100007 (g22 1100025 (g22 1046 0)) := congrArg ((g22 1100007)) (la_object_245 h2293_ h2311_ (sm_nl_0 : sm_nl 0 (g40 1046 0) (g40 1100007 (g40 1046 0)) (g40 1100025 (g40 1046 0)) (g40 1100007 (g40 1100025 (g40 1046 0))) (g40 1100025 (g40 1100025 (g40 1046 0))) = g40 1100025 (g40 1046 0)) h2326_ (sm_nl_18 : sm_nl 18 (g22 1046 0) (g22 1100007 (g22 1046 0)) (g22 1100025 (g22 1046 0)) (g22 1100007 (g22 1100025 (g22 1046 0))) (g22 1100025 (g22 1100025 (g22 1046 0))) = g22 1100025 (g22 1046 0)))
      have e2357_ : g22 1100007 (g58 1100025 (g58 1046 0)) = g22 1100007 (g40 1100025 (g40 1046 0)) := congrArg ((g22 1100007)) (la_object_246 h2293_ h2311_ (sm_nl_0 : sm_nl 0 (g40 1046 0) (g40 1100007 (g40 1046 0)) (g40 1100025 (g40 1046 0)) (g40 1100007 (g40 1100025 (g40 1046 0))) (g40 1100025 (g40 1100025 (g40 1046 0))) = g40 1100025 (g40 1046 0)))
      have e2358_ : g22 1100007 (g58 1100025 (g58 1046 0)) = g22 1100007 (g48 1100025 (g48 1046 0)) := congrArg ((g22 1100007)) h2293_
      have e2359_ : g40 1100007 (g48 1100023 (g48 1046 0)) = g40 1100007 (g40 1100023 (g40 1046 0)) := congrArg ((g40 1100007)) (la_object_32 h2309_ (sm_nt_0 : sm_nt 0 (g40 1046 0) (g40 1100023 (g40 1046 0)) (g40 1100023 (g40 1100023 (g40 1046 0))) = g40 1100023 (g40 1046 0)))
      have e2360_ : g40 1100007 (g48 1100025 (g48 1046 0)) = g40 1100007 (g40 1100025 (g40 1046 0)) := congrArg ((g40 1100007)) (la_object_32 h2311_ (sm_nl_0 : sm_nl 0 (g40 1046 0) (g40 1100007 (g40 1046 0)) (g40 1100025 (g40 1046 0)) (g40 1100007 (g40 1100025 (g40 1046 0))) (g40 1100025 (g40 1100025 (g40 1046 0))) = g40 1100025 (g40 1046 0)))
      have e2361_ : g40 1100007 (g58 1100023 (g58 1046 0)) = g40 1100007 (g40 1100023 (g40 1046 0)) := congrArg ((g40 1100007)) (la_object_246 h2291_ h2309_ (sm_nt_0 : sm_nt 0 (g40 1046 0) (g40 1100023 (g40 1046 0)) (g40 1100023 (g40 1100023 (g40 1046 0))) = g40 1100023 (g40 1046 0)))
      have e2362_ : g40 1100007 (g58 1100023 (g58 1046 0)) = g40 1100007 (g48 1100023 (g48 1046 0)) := congrArg ((g40 1100007)) h2291_
      have e2363_ : g40 1100007 (g58 1100025 (g58 1046 0)) = g40 1100007 (g40 1100025 (g40 1046 0)) := congrArg ((g40 1100007)) (la_object_246 h2293_ h2311_ (sm_nl_0 : sm_nl 0 (g40 1046 0) (g40 1100007 (g40 1046 0)) (g40 1100025 (g40 1046 0)) (g40 1100007 (g40 1100025 (g40 1046 0))) (g40 1100025 (g40 1100025 (g40 1046 0))) = g40 1100025 (g40 1046 0)))
      have e2364_ : g40 1100007 (g58 1100025 (g58 1046 0)) = g40 1100007 (g48 1100025 (g48 1046 0)) := congrArg ((g40 1100007)) h2293_
      have e2365_ : g40 1100007 (g65 1100023 (g65 1046 0)) = g40 1100007 (g40 1100023 (g40 1046 0)) := congrArg ((g40 1100007)) (la_object_245 h2274_ (sm_nt_11 : sm_nt 11 (g58 1046 0) (g58 1100023 (g58 1046 0)) (g58 1100023 (g58 1100023 (g58 1046 0))) = g58 1100023 (g58 1046 0)) h2291_ h2309_ (sm_nt_0 : sm_nt 0 (g40 1046 0) (g40 1100023 (g40 1046 0)) (g40 1100023 (g40 1100023 (g40 1046 0))) = g40 1100023 (g40 1046 0)))
      have e2366_ : g40 1100007 (g65 1100023 (g65 1046 0)) = g40 1100007 (g48 1100023 (g48 1046 0)) := congrArg ((g40 1100007)) (la_object_246 h2274_ (sm_nt_11 : sm_nt 11 (g58 1046 0) (g58 1100023 (g58 1046 0)) (g58 1100023 (g58 1100023 (g58 1046 0))) = g58 1100023 (g58 1046 0)) h2291_)
      have e2367_ : g40 1100007 (g65 1100023 (g65 1046 0)) = g40 1100007 (g58 1100023 (g58 1046 0)) := congrArg ((g40 1100007)) (la_object_32 h2274_ (sm_nt_11 : sm_nt 11 (g58 1046 0) (g58 1100023 (g58 1046 0)) (g58 1100023 (g58 1100023 (g58 1046 0))) = g58 1100023 (g58 1046 0)))
      have e2368_ : g40 1100007 (g65 1100025 (g65 1046 0)) = g40 1100007 (g40 1100025 (g40 1046 0)) := congrArg ((g40 1100007)) (la_object_245 h2276_ (sm_nl_11 : sm_nl 11 (g58 1046 0) (g58 1100007 (g58 1046 0)) (g58 1100025 (g58 1046 0)) (g58 1100007 (g58 1100025 (g58 1046 0))) (g58 1100025 (g58 1100025 (g58 1046 0))) = g58 1100025 (g58 1046 0)) h2293_ h2311_ (sm_nl_0 : sm_nl 0 (g40 1046 0) (g40 1100007 (g40 1046 0)) (g40 1100025 (g40 1046 0)) (g40 1100007 (g40 1100025 (g40 1046 0))) (g40 1100025 (g40 1100025 (g40 1046 0))) = g40 1100025 (g40 1046 0)))
      have e2369_ : g40 1100007 (g65 1100025 (g65 1046 0)) = g40 1100007 (g48 1100025 (g48 1046 0)) := congrArg ((g40 1100007)) (la_object_246 h2276_ (sm_nl_11 : sm_nl 11 (g58 1046 0) (g58 1100007 (g58 1046 0)) (g58 1100025 (g58 1046 0)) (g58 1100007 (g58 1100025 (g58 1046 0))) (g58 1100025 (g58 1100025 (g58 1046 0))) = g58 1100025 (g58 1046 0)) h2293_)
      have e2370_ : g40 1100007 (g65 1100025 (g65 1046 0)) = g40 1100007 (g58 1100025 (g58 1046 0)) := congrArg ((g40 1100007)) (la_object_32 h2276_ (sm_nl_11 : sm_nl 11 (g58 1046 0) (g58 1100007 (g58 1046 0)) (g58 1100025 (g58 1046 0)) (g58 1100007 (g58 1100025 (g58 1046 0))) (g58 1100025 (g58 1100025 (g58 1046 0))) = g58 1100025 (g58 1046 0)))
      have e2371_ : g40 1100025 (g65 1100025 (g65 1046 0)) = g40 1100025 (g40 1100025 (g40 1046 0)) := congrArg ((g40 1100025)) (la_object_245 h2276_ (sm_nl_11 : sm_nl 11 (g58 1046 0) (g58 1100007 (g58 1046 0)) (g58 1100025 (g58 1046 0)) (g58 1100007 (g58 1100025 (g58 1046 0))) (g58 1100025 (g58 1100025 (g58 1046 0))) = g58 1100025 (g58 1046 0)) h2293_ h2311_ (sm_nl_0 : sm_nl 0 (g40 1046 0) (g40 1100007 (g40 1046 0)) (g40 1100025 (g40 1046 0)) (g40 1100007 (g40 1100025 (g40 1046 0))) (g40 1100025 (g40 1100025 (g40 1046 0))) = g40 1100025 (g40 1046 0)))
      have e2372_ : g48 1100007 (g58 1100023 (g58 1046 0)) = g48 1100007 (g48 1100023 (g48 1046 0)) := congrArg ((g48 1100007)) h2291_
      have e2373_ : g48 1100007 (g58 1100025 (g58 1046 0)) = g48 1100007 (g48 1100025 (g48 1046 0)) := congrArg ((g48 1100007)) h2293_
      have e2374_ : g48 1100007 (g65 1100023 (g65 1046 0)) = g48 1100007 (g48 1100023 (g48 1046 0)) := congrArg ((g48 1100007)) (la_object_246 h2274_ (sm_nt_11 : sm_nt 11 (g58 1046 0) (g58 1100023 (g58 1046 0)) (g58 1100023 (g58 1100023 (g58 1046 0))) = g58 1100023 (g58 1046 0)) h2291_)
      have e2375_ : g48 1100007 (g65 1100023 (g65 1046 0)) = g48 1100007 (g58 1100023 (g58 1046 0)) := congrArg ((g48 1100007)) (la_object_32 h2274_ (sm_nt_11 : sm_nt 11 (g58 1046 0) (g58 1100023 (g58 1046 0)) (g58 1100023 (g58 1100023 (g58 1046 0))) = g58 1100023 (g58 1046 0)))
      have e2376_ : g48 1100007 (g65 1100025 (g65 1046 0)) = g48 1100007 (g48 1100025 (g48 1046 0)) := congrArg ((g48 1100007)) (la_object_246 h2276_ (sm_nl_11 : sm_nl 11 (g58 1046 0) (g58 1100007 (g58 1046 0)) (g58 1100025 (g58 1046 0)) (g58 1100007 (g58 1100025 (g58 1046 0))) (g58 1100025 (g58 1100025 (g58 1046 0))) = g58 1100025 (g58 1046 0)) h2293_)
      have e2377_ : g48 1100007 (g65 1100025 (g65 1046 0)) = g48 1100007 (g58 1100025 (g58 1046 0)) := congrArg ((g48 1100007)) (la_object_32 h2276_ (sm_nl_11 : sm_nl 11 (g58 1046 0) (g58 1100007 (g58 1046 0)) (g58 1100025 (g58 1046 0)) (g58 1100007 (g58 1100025 (g58 1046 0))) (g58 1100025 (g58 1100025 (g58 1046 0))) = g58 1100025 (g58 1046 0)))
      have e2378_ : g48 1100007 (g72 1100023 (g72 1046 0)) = g48 1100007 (g48 1100023 (g48 1046 0)) := congrArg ((g48 1100007)) (la_object_245 h2257_ (sm_nt_17 : sm_nt 17 (g65 1046 0) (g65 1100023 (g65 1046 0)) (g65 1100023 (g65 1100023 (g65 1046 0))) = g65 1100023 (g65 1046 0)) h2274_ (sm_nt_11 : sm_nt 11 (g58 1046 0) (g58 1100023 (g58 1046 0)) (g58 1100023 (g58 1100023 (g58 1046 0))) = g58 1100023 (g58 1046 0)) h2291_)
      have e2379_ : g48 1100007 (g72 1100023 (g72 1046 0)) = g48 1100007 (g58 1100023 (g58 1046 0)) := congrArg ((g48 1100007)) (la_object_244 h2257_ (sm_nt_17 : sm_nt 17 (g65 1046 0) (g65 1100023 (g65 1046 0)) (g65 1100023 (g65 1100023 (g65 1046 0))) = g65 1100023 (g65 1046 0)) h2274_ (sm_nt_11 : sm_nt 11 (g58 1046 0) (g58 1100023 (g58 1046 0)) (g58 1100023 (g58 1100023 (g58 1046 0))) = g58 1100023 (g58 1046 0)))
      have e2380_ : g48 1100007 (g72 1100023 (g72 1046 0)) = g48 1100007 (g65 1100023 (g65 1046 0)) := congrArg ((g48 1100007)) (la_object_32 h2257_ (sm_nt_17 : sm_nt 17 (g65 1046 0) (g65 1100023 (g65 1046 0)) (g65 1100023 (g65 1100023 (g65 1046 0))) = g65 1100023 (g65 1046 0)))
      have e2381_ : g58 1100007 (g65 1100023 (g65 1046 0)) = g58 1100007 (g58 1100023 (g58 1046 0)) := congrArg ((g58 1100007)) (la_object_32 h2274_ (sm_nt_11 : sm_nt 11 (g58 1046 0) (g58 1100023 (g58 1046 0)) (g58 1100023 (g58 1100023 (g58 1046 0))) = g58 1100023 (g58 1046 0)))
      have e2382_ : g58 1100007 (g65 1100025 (g65 1046 0)) = g58 1100007 (g58 1100025 (g58 1046 0)) := congrArg ((g58 1100007)) (la_object_32 h2276_ (sm_nl_11 : sm_nl 11 (g58 1046 0) (g58 1100007 (g58 1046 0)) (g58 1100025 (g58 1046 0)) (g58 1100007 (g58 1100025 (g58 1046 0))) (g58 1100025 (g58 1100025 (g58 1046 0))) = g58 1100025 (g58 1046 0)))
      have e2383_ : g58 1100007 (g72 1100023 (g72 1046 0)) = g58 1100007 (g58 1100023 (g58 1046 0)) := congrArg ((g58 1100007)) (la_object_244 h2257_ (sm_nt_17 : sm_nt 17 (g65 1046 0) (g65 1100023 (g65 1046 0)) (g65 1100023 (g65 1100023 (g65 1046 0))) = g65 1100023 (g65 1046 0)) h2274_ (sm_nt_11 : sm_nt 11 (g58 1046 0) (g58 1100023 (g58 1046 0)) (g58 1100023 (g58 1100023 (g58 1046 0))) = g58 1100023 (g58 1046 0)))
      have e2384_ : g58 1100007 (g72 1100023 (g72 1046 0)) = g58 1100007 (g65 1100023 (g65 1046 0)) := congrArg ((g58 1100007)) (la_object_32 h2257_ (sm_nt_17 : sm_nt 17 (g65 1046 0) (g65 1100023 (g65 1046 0)) (g65 1100023 (g65 1100023 (g65 1046 0))) = g65 1100023 (g65 1046 0)))
      have e2385_ : g58 1100025 (g65 1100025 (g65 1046 0)) = g58 1100025 (g58 1100025 (g58 1046 0)) := congrArg ((g58 1100025)) (la_object_32 h2276_ (sm_nl_11 : sm_nl 11 (g58 1046 0) (g58 1100007 (g58 1046 0)) (g58 1100025 (g58 1046 0)) (g58 1100007 (g58 1100025 (g58 1046 0))) (g58 1100025 (g58 1100025 (g58 1046 0))) = g58 1100025 (g58 1046 0)))
      have e2386_ : g65 1100007 (g72 1100023 (g72 1046 0)) = g65 1100007 (g65 1100023 (g65 1046 0)) := congrArg ((g65 1100007)) (la_object_32 h2257_ (sm_nt_17 : sm_nt 17 (g65 1046 0) (g65 1100023 (g65 1046 0)) (g65 1100023 (g65 1100023 (g65 1046 0))) = g65 1100023 (g65 1046 0)))
      have e2387_ : g65 1100007 (g72 1100025 (g72 1046 0)) = g65 1100007 (g65 1100025 (g65 1046 0)) := congrArg ((g65 1100007)) (la_object_247 h28_ h385_ h388_ h390_ (sm_KC_n h2252_).2.1.2.2.2.2.2.2.1 h2259_ (sm_nl_17b : (0 ≤ g65 1100025 (g65 1046 0) → g65 1100007 (g65 1100025 (g65 1046 0)) < g65 1100007 (g65 1046 0)) → sm_nl 17 (g65 1046 0) (g65 1100007 (g65 1046 0)) (g65 1100025 (g65 1046 0)) (g65 1100007 (g65 1100025 (g65 1046 0))) (g65 1100025 (g65 1100025 (g65 1046 0))) = g65 1100025 (g65 1046 0)) h2273_ (sm_dl_11 : sm_dl 11 0 = (-2)) h2276_ (sm_nl_11 : sm_nl 11 (g58 1046 0) (g58 1100007 (g58 1046 0)) (g58 1100025 (g58 1046 0)) (g58 1100007 (g58 1100025 (g58 1046 0))) (g58 1100025 (g58 1100025 (g58 1046 0))) = g58 1100025 (g58 1046 0)) h2290_ h2293_ h2295_ h2301_ h2308_ (sm_dl_0 : sm_dl 0 6 = 1) h2311_ (sm_nl_0 : sm_nl 0 (g40 1046 0) (g40 1100007 (g40 1046 0)) (g40 1100025 (g40 1046 0)) (g40 1100007 (g40 1100025 (g40 1046 0))) (g40 1100025 (g40 1100025 (g40 1046 0))) = g40 1100025 (g40 1046 0)) h2323_ (sm_dl_18 : sm_dl 18 0 = 1) h2326_ (sm_nl_18 : sm_nl 18 (g22 1046 0) (g22 1100007 (g22 1046 0)) (g22 1100025 (g22 1046 0)) (g22 1100007 (g22 1100025 (g22 1046 0))) (g22 1100025 (g22 1100025 (g22 1046 0))) = g22 1100025 (g22 1046 0)) h2331_ h2333_)
      exact (la_object_248 h28_ h385_ h388_ h390_ (sm_KC_n h2252_).2.1.2.2.2.2.2.2.1 h2259_ (sm_nl_17b : (0 ≤ g65 1100025 (g65 1046 0) → g65 1100007 (g65 1100025 (g65 1046 0)) < g65 1100007 (g65 1046 0)) → sm_nl 17 (g65 1046 0) (g65 1100007 (g65 1046 0)) (g65 1100025 (g65 1046 0)) (g65 1100007 (g65 1100025 (g65 1046 0))) (g65 1100025 (g65 1100025 (g65 1046 0))) = g65 1100025 (g65 1046 0)) h2273_ (sm_dl_11 : sm_dl 11 0 = (-2)) h2276_ (sm_nl_11 : sm_nl 11 (g58 1046 0) (g58 1100007 (g58 1046 0)) (g58 1100025 (g58 1046 0)) (g58 1100007 (g58 1100025 (g58 1046 0))) (g58 1100025 (g58 1100025 (g58 1046 0))) = g58 1100025 (g58 1046 0)) h2290_ h2293_ h2295_ h2301_ h2308_ (sm_dl_0 : sm_dl 0 6 = 1) h2311_ (sm_nl_0 : sm_nl 0 (g40 1046 0) (g40 1100007 (g40 1046 0)) (g40 1100025 (g40 1046 0)) (g40 1100007 (g40 1100025 (g40 1046 0))) (g40 1100025 (g40 1100025 (g40 1046 0))) = g40 1100025 (g40 1046 0)) h2323_ (sm_dl_18 : sm_dl 18 0 = 1) h2326_ (sm_nl_18 : sm_nl 18 (g22 1046 0) (g22 1100007 (g22 1046 0)) (g22 1100025 (g22 1046 0)) (g22 1100007 (g22 1100025 (g22 1046 0))) (g22 1100025 (g22 1100025 (g22 1046 0))) = g22 1100025 (g22 1046 0)) h2331_ h2333_)
    refine ⟨(la_object_230 h389_ h2260_ (sm_nt_17 : sm_nt 17 (g65 1100007 (g65 1046 0)) (g65 1100007 (g65 1100023 (g65 1046 0))) (g65 1100007 (g65 1100023 (g65 1100023 (g65 1046 0)))) = g65 1100007 (g65 1100023 (g65 1046 0))) h2277_ (sm_nt_11 : sm_nt 11 (g58 1100007 (g58 1046 0)) (g58 1100007 (g58 1100023 (g58 1046 0))) (g58 1100007 (g58 1100023 (g58 1100023 (g58 1046 0)))) = g58 1100007 (g58 1100023 (g58 1046 0))) h2294_ h2312_ (sm_nt_0 : sm_nt 0 (g40 1100007 (g40 1046 0)) (g40 1100007 (g40 1100023 (g40 1046 0))) (g40 1100007 (g40 1100023 (g40 1100023 (g40 1046 0)))) = g40 1100007 (g40 1100023 (g40 1046 0))) h2327_ (sm_nt_18 : sm_nt 18 (g22 1100007 (g22 1046 0)) (g22 1100007 (g22 1100023 (g22 1046 0))) (g22 1100007 (g22 1100023 (g22 1100023 (g22 1046 0)))) = g22 1100007 (g22 1100023 (g22 1046 0)))), ?_⟩
    refine ⟨?_, ?_⟩
    · skip
      have e2388_ : S 1100007 (g22 1100023 (g22 1046 0)) = S 1100007 (S 1100023 (S 1046 0)) := congrArg ((S 1100007)) h386_
      have e2389_ : S 1100007 (g22 1100025 (g22 1046 0)) = S 1100007 (S 1100025 (S 1046 0)) := congrArg ((S 1100007)) h388_
      have e2390_ : S 1100007 (g40 1100023 (g40 1046 0)) = S 1100007 (S 1100023 (S 1046 0)) := congrArg ((S 1100007)) (la_object_130 h386_ h2324_ (sm_nt_18 : sm_nt 18 (g22 1046 0) (g22 1100023 (g22 1046 0)) (g22 1100023 (g22 1100023 (g22 1046 0))) = g22 1100023 (g22 1046 0)))
      have e2391_ : S 1100007 (g40 1100023 (g40 1046 0)) = S 1100007 (g22 1100023 (g22 1046 0)) := congrArg ((S 1100007)) (la_object_32 h2324_ (sm_nt_18 : sm_nt 18 (g22 1046 0) (g22 1100023 (g22 1046 0)) (g22 1100023 (g22 1100023 (g22 1046 0))) = g22 1100023 (g22 1046 0)))
      have e2392_ : S 1100007 (g40 1100025 (g40 1046 0)) = S 1100007 (S 1100025 (S 1046 0)) := congrArg ((S 1100007)) (la_object_130 h388_ h2326_ (sm_nl_18 : sm_nl 18 (g22 1046 0) (g22 1100007 (g22 1046 0)) (g22 1100025 (g22 1046 0)) (g22 1100007 (g22 1100025 (g22 1046 0))) (g22 1100025 (g22 1100025 (g22 1046 0))) = g22 1100025 (g22 1046 0)))
      have e2393_ : S 1100007 (g40 1100025 (g40 1046 0)) = S 1100007 (g22 1100025 (g22 1046 0)) := congrArg ((S 1100007)) (la_object_32 h2326_ (sm_nl_18 : sm_nl 18 (g22 1046 0) (g22 1100007 (g22 1046 0)) (g22 1100025 (g22 1046 0)) (g22 1100007 (g22 1100025 (g22 1046 0))) (g22 1100025 (g22 1100025 (g22 1046 0))) = g22 1100025 (g22 1046 0)))
      have e2394_ : S 1100007 (g48 1100023 (g48 1046 0)) = S 1100007 (S 1100023 (S 1046 0)) := congrArg ((S 1100007)) (la_object_243 h386_ h2309_ (sm_nt_0 : sm_nt 0 (g40 1046 0) (g40 1100023 (g40 1046 0)) (g40 1100023 (g40 1100023 (g40 1046 0))) = g40 1100023 (g40 1046 0)) h2324_ (sm_nt_18 : sm_nt 18 (g22 1046 0) (g22 1100023 (g22 1046 0)) (g22 1100023 (g22 1100023 (g22 1046 0))) = g22 1100023 (g22 1046 0)))
      have e2395_ : S 1100007 (g48 1100023 (g48 1046 0)) = S 1100007 (g22 1100023 (g22 1046 0)) := congrArg ((S 1100007)) (la_object_244 h2309_ (sm_nt_0 : sm_nt 0 (g40 1046 0) (g40 1100023 (g40 1046 0)) (g40 1100023 (g40 1100023 (g40 1046 0))) = g40 1100023 (g40 1046 0)) h2324_ (sm_nt_18 : sm_nt 18 (g22 1046 0) (g22 1100023 (g22 1046 0)) (g22 1100023 (g22 1100023 (g22 1046 0))) = g22 1100023 (g22 1046 0)))
      have e2396_ : S 1100007 (g48 1100023 (g48 1046 0)) = S 1100007 (g40 1100023 (g40 1046 0)) := congrArg ((S 1100007)) (la_object_32 h2309_ (sm_nt_0 : sm_nt 0 (g40 1046 0) (g40 1100023 (g40 1046 0)) (g40 1100023 (g40 1100023 (g40 1046 0))) = g40 1100023 (g40 1046 0)))
      have e2397_ : S 1100007 (g48 1100025 (g48 1046 0)) = S 1100007 (S 1100025 (S 1046 0)) := congrArg ((S 1100007)) (la_object_243 h388_ h2311_ (sm_nl_0 : sm_nl 0 (g40 1046 0) (g40 1100007 (g40 1046 0)) (g40 1100025 (g40 1046 0)) (g40 1100007 (g40 1100025 (g40 1046 0))) (g40 1100025 (g40 1100025 (g40 1046 0))) = g40 1100025 (g40 1046 0)) h2326_ (sm_nl_18 : sm_nl 18 (g22 1046 0) (g22 1100007 (g22 1046 0)) (g22 1100025 (g22 1046 0)) (g22 1100007 (g22 1100025 (g22 1046 0))) (g22 1100025 (g22 1100025 (g22 1046 0))) = g22 1100025 (g22 1046 0)))
      have e2398_ : S 1100007 (g48 1100025 (g48 1046 0)) = S 1100007 (g22 1100025 (g22 1046 0)) := congrArg ((S 1100007)) (la_object_244 h2311_ (sm_nl_0 : sm_nl 0 (g40 1046 0) (g40 1100007 (g40 1046 0)) (g40 1100025 (g40 1046 0)) (g40 1100007 (g40 1100025 (g40 1046 0))) (g40 1100025 (g40 1100025 (g40 1046 0))) = g40 1100025 (g40 1046 0)) h2326_ (sm_nl_18 : sm_nl 18 (g22 1046 0) (g22 1100007 (g22 1046 0)) (g22 1100025 (g22 1046 0)) (g22 1100007 (g22 1100025 (g22 1046 0))) (g22 1100025 (g22 1100025 (g22 1046 0))) = g22 1100025 (g22 1046 0)))
      have e2399_ : S 1100007 (g48 1100025 (g48 1046 0)) = S 1100007 (g40 1100025 (g40 1046 0)) := congrArg ((S 1100007)) (la_object_32 h2311_ (sm_nl_0 : sm_nl 0 (g40 1046 0) (g40 1100007 (g40 1046 0)) (g40 1100025 (g40 1046 0)) (g40 1100007 (g40 1100025 (g40 1046 0))) (g40 1100025 (g40 1100025 (g40 1046 0))) = g40 1100025 (g40 1046 0)))
      have e2400_ : S 12 (5 * l2_23 + 0) = S 12 (5 * l2_23) := congrArg ((S 12)) la_object_56
      have e2401_ : g22 1100007 (g40 1100023 (g40 1046 0)) = g22 1100007 (g22 1100023 (g22 1046 0)) := congrArg ((g22 1100007)) (la_object_32 h2324_ (sm_nt_18 : sm_nt 18 (g22 1046 0) (g22 1100023 (g22 1046 0)) (g22 1100023 (g22 1100023 (g22 1046 0))) = g22 1100023 (g22 1046 0)))
      have e2402_ : g22 1100007 (g40 1100025 (g40 1046 0)) = g22 1100007 (g22 1100025 (g22 1046 0)) := congrArg ((g22 1100007)) (la_object_32 h2326_ (sm_nl_18 : sm_nl 18 (g22 1046 0) (g22 1100007 (g22 1046 0)) (g22 1100025 (g22 1046 0)) (g22 1100007 (g22 1100025 (g22 1046 0))) (g22 1100025 (g22 1100025 (g22 1046 0))) = g22 1100025 (g22 1046 0)))
      have e2403_ : g22 1100007 (g48 1100023 (g48 1046 0)) = g22 1100007 (g22 1100023 (g22 1046 0)) := congrArg ((g22 1100007)) (la_object_244 h2309_ (sm_nt_0 : sm_nt 0 (g40 1046 0) (g40 1100023 (g40 1046 0)) (g40 1100023 (g40 1100023 (g40 1046 0))) = g40 1100023 (g40 1046 0)) h2324_ (sm_nt_18 : sm_nt 18 (g22 1046 0) (g22 1100023 (g22 1046 0)) (g22 1100023 (g22 1100023 (g22 1046 0))) = g22 1100023 (g22 1046 0)))
      have e2404_ : g22 1100007 (g48 1100023 (g48 1046 0)) = g22 1100007 (g40 1100023 (g40 1046 0)) := congrArg ((g22 1100007)) (la_object_32 h2309_ (sm_nt_0 : sm_nt 0 (g40 1046 0) (g40 1100023 (g40 1046 0)) (g40 1100023 (g40 1100023 (g40 1046 0))) = g40 1100023 (g40 1046 0)))
      have e2405_ : g22 1100007 (g48 1100025 (g48 1046 0)) = g22 1100007 (g22 1100025 (g22 1046 0)) := congrArg ((g22 1100007)) (la_object_244 h2311_ (sm_nl_0 : sm_nl 0 (g40 1046 0) (g40 1100007 (g40 1046 0)) (g40 1100025 (g40 1046 0)) (g40 1100007 (g40 1100025 (g40 1046 0))) (g40 1100025 (g40 1100025 (g40 1046 0))) = g40 1100025 (g40 1046 0)) h2326_ (sm_nl_18 : sm_nl 18 (g22 1046 0) (g22 1100007 (g22 1046 0)) (g22 1100025 (g22 1046 0)) (g22 1100007 (g22 1100025 (g22 1046 0))) (g22 1100025 (g22 1100025 (g22 1046 0))) = g22 1100025 (g22 1046 0)))
      have e2406_ : g22 1100007 (g48 1100025 (g48 1046 0)) = g22 1100007 (g40 1100025 (g40 1046 0)) := congrArg ((g22 1100007)) (la_object_32 h2311_ (sm_nl_0 : sm_nl 0 (g40 1046 0) (g40 1100007 (g40 1046 0)) (g40 1100025 (g40 1046 0)) (g40 1100007 (g40 1100025 (g40 1046 0))) (g40 1100025 (g40 1100025 (g40 1046 0))) = g40 1100025 (g40 1046 0)))
      have e2407_ : g22 1100007 (g58 1100023 (g58 1046 0)) = g22 1100007 (g22 1100023 (g22 1046 0)) := congrArg ((g22 1100007)) (la_object_245 h2291_ h2309_ (sm_nt_0 : sm_nt 0 (g40 1046 0) (g40 1100023 (g40 1046 0)) (g40 1100023 (g40 1100023 (g40 1046 0))) = g40 1100023 (g40 1046 0)) h2324_ (sm_nt_18 : sm_nt 18 (g22 1046 0) (g22 1100023 (g22 1046 0)) (g22 1100023 (g22 1100023 (g22 1046 0))) = g22 1100023 (g22 1046 0)))
      have e2408_ : g22 1100007 (g58 1100023 (g58 1046 0)) = g22 1100007 (g40 1100023 (g40 1046 0)) := congrArg ((g22 1100007)) (la_object_246 h2291_ h2309_ (sm_nt_0 : sm_nt 0 (g40 1046 0) (g40 1100023 (g40 1046 0)) (g40 1100023 (g40 1100023 (g40 1046 0))) = g40 1100023 (g40 1046 0)))
      have e2409_ : g22 1100007 (g58 1100023 (g58 1046 0)) = g22 1100007 (g48 1100023 (g48 1046 0)) := congrArg ((g22 1100007)) h2291_
      have e2410_ : g22 1100007 (g58 1100025 (g58 1046 0)) = g22 1100007 (g22 1100025 (g22 1046 0)) := congrArg ((g22 1100007)) (la_object_245 h2293_ h2311_ (sm_nl_0 : sm_nl 0 (g40 1046 0) (g40 1100007 (g40 1046 0)) (g40 1100025 (g40 1046 0)) (g40 1100007 (g40 1100025 (g40 1046 0))) (g40 1100025 (g40 1100025 (g40 1046 0))) = g40 1100025 (g40 1046 0)) h2326_ (sm_nl_18 : sm_nl 18 (g22 1046 0) (g22 1100007 (g22 1046 0)) (g22 1100025 (g22 1046 0)) (g22 1100007 (g22 1100025 (g22 1046 0))) (g22 1100025 (g22 1100025 (g22 1046 0))) = g22 1100025 (g22 1046 0)))
      have e2411_ : g22 1100007 (g58 1100025 (g58 1046 0)) = g22 1100007 (g40 1100025 (g40 1046 0)) := congrArg ((g22 1100007)) (la_object_246 h2293_ h2311_ (sm_nl_0 : sm_nl 0 (g40 1046 0) (g40 1100007 (g40 1046 0)) (g40 1100025 (g40 1046 0)) (g40 1100007 (g40 1100025 (g40 1046 0))) (g40 1100025 (g40 1100025 (g40 1046 0))) = g40 1100025 (g40 1046 0)))
      have e2412_ : g22 1100007 (g58 1100025 (g58 1046 0)) = g22 1100007 (g48 1100025 (g48 1046 0)) := congrArg ((g22 1100007)) h2293_
      have e2413_ : g40 1100007 (g48 1100023 (g48 1046 0)) = g40 1100007 (g40 1100023 (g40 1046 0)) := congrArg ((g40 1100007)) (la_object_32 h2309_ (sm_nt_0 : sm_nt 0 (g40 1046 0) (g40 1100023 (g40 1046 0)) (g40 1100023 (g40 1100023 (g40 1046 0))) = g40 1100023 (g40 1046 0)))
      have e2414_ : g40 1100007 (g48 1100025 (g48 1046 0)) = g40 1100007 (g40 1100025 (g40 1046 0)) := congrArg ((g40 1100007)) (la_object_32 h2311_ (sm_nl_0 : sm_nl 0 (g40 1046 0) (g40 1100007 (g40 1046 0)) (g40 1100025 (g40 1046 0)) (g40 1100007 (g40 1100025 (g40 1046 0))) (g40 1100025 (g40 1100025 (g40 1046 0))) = g40 1100025 (g40 1046 0)))
      have e2415_ : g40 1100007 (g58 1100023 (g58 1046 0)) = g40 1100007 (g40 1100023 (g40 1046 0)) := congrArg ((g40 1100007)) (la_object_246 h2291_ h2309_ (sm_nt_0 : sm_nt 0 (g40 1046 0) (g40 1100023 (g40 1046 0)) (g40 1100023 (g40 1100023 (g40 1046 0))) = g40 1100023 (g40 1046 0)))
      have e2416_ : g40 1100007 (g58 1100023 (g58 1046 0)) = g40 1100007 (g48 1100023 (g48 1046 0)) := congrArg ((g40 1100007)) h2291_
      have e2417_ : g40 1100007 (g58 1100025 (g58 1046 0)) = g40 1100007 (g40 1100025 (g40 1046 0)) := congrArg ((g40 1100007)) (la_object_246 h2293_ h2311_ (sm_nl_0 : sm_nl 0 (g40 1046 0) (g40 1100007 (g40 1046 0)) (g40 1100025 (g40 1046 0)) (g40 1100007 (g40 1100025 (g40 1046 0))) (g40 1100025 (g40 1100025 (g40 1046 0))) = g40 1100025 (g40 1046 0)))
      have e2418_ : g40 1100007 (g58 1100025 (g58 1046 0)) = g40 1100007 (g48 1100025 (g48 1046 0)) := congrArg ((g40 1100007)) h2293_
      have e2419_ : g40 1100007 (g65 1100023 (g65 1046 0)) = g40 1100007 (g40 1100023 (g40 1046 0)) := congrArg ((g40 1100007)) (la_object_245 h2274_ (sm_nt_11 : sm_nt 11 (g58 1046 0) (g58 1100023 (g58 1046 0)) (g58 1100023 (g58 1100023 (g58 1046 0))) = g58 1100023 (g58 1046 0)) h2291_ h2309_ (sm_nt_0 : sm_nt 0 (g40 1046 0) (g40 1100023 (g40 1046 0)) (g40 1100023 (g40 1100023 (g40 1046 0))) = g40 1100023 (g40 1046 0)))
      have e2420_ : g40 1100007 (g65 1100023 (g65 1046 0)) = g40 1100007 (g48 1100023 (g48 1046 0)) := congrArg ((g40 1100007)) (la_object_246 h2274_ (sm_nt_11 : sm_nt 11 (g58 1046 0) (g58 1100023 (g58 1046 0)) (g58 1100023 (g58 1100023 (g58 1046 0))) = g58 1100023 (g58 1046 0)) h2291_)
      have e2421_ : g40 1100007 (g65 1100023 (g65 1046 0)) = g40 1100007 (g58 1100023 (g58 1046 0)) := congrArg ((g40 1100007)) (la_object_32 h2274_ (sm_nt_11 : sm_nt 11 (g58 1046 0) (g58 1100023 (g58 1046 0)) (g58 1100023 (g58 1100023 (g58 1046 0))) = g58 1100023 (g58 1046 0)))
      have e2422_ : g40 1100007 (g65 1100025 (g65 1046 0)) = g40 1100007 (g40 1100025 (g40 1046 0)) := congrArg ((g40 1100007)) (la_object_245 h2276_ (sm_nl_11 : sm_nl 11 (g58 1046 0) (g58 1100007 (g58 1046 0)) (g58 1100025 (g58 1046 0)) (g58 1100007 (g58 1100025 (g58 1046 0))) (g58 1100025 (g58 1100025 (g58 1046 0))) = g58 1100025 (g58 1046 0)) h2293_ h2311_ (sm_nl_0 : sm_nl 0 (g40 1046 0) (g40 1100007 (g40 1046 0)) (g40 1100025 (g40 1046 0)) (g40 1100007 (g40 1100025 (g40 1046 0))) (g40 1100025 (g40 1100025 (g40 1046 0))) = g40 1100025 (g40 1046 0)))
      have e2423_ : g40 1100007 (g65 1100025 (g65 1046 0)) = g40 1100007 (g48 1100025 (g48 1046 0)) := congrArg ((g40 1100007)) (la_object_246 h2276_ (sm_nl_11 : sm_nl 11 (g58 1046 0) (g58 1100007 (g58 1046 0)) (g58 1100025 (g58 1046 0)) (g58 1100007 (g58 1100025 (g58 1046 0))) (g58 1100025 (g58 1100025 (g58 1046 0))) = g58 1100025 (g58 1046 0)) h2293_)
      have e2424_ : g40 1100007 (g65 1100025 (g65 1046 0)) = g40 1100007 (g58 1100025 (g58 1046 0)) := congrArg ((g40 1100007)) (la_object_32 h2276_ (sm_nl_11 : sm_nl 11 (g58 1046 0) (g58 1100007 (g58 1046 0)) (g58 1100025 (g58 1046 0)) (g58 1100007 (g58 1100025 (g58 1046 0))) (g58 1100025 (g58 1100025 (g58 1046 0))) = g58 1100025 (g58 1046 0)))
      have e2425_ : g40 1100025 (g65 1100025 (g65 1046 0)) = g40 1100025 (g40 1100025 (g40 1046 0)) := congrArg ((g40 1100025)) (la_object_245 h2276_ (sm_nl_11 : sm_nl 11 (g58 1046 0) (g58 1100007 (g58 1046 0)) (g58 1100025 (g58 1046 0)) (g58 1100007 (g58 1100025 (g58 1046 0))) (g58 1100025 (g58 1100025 (g58 1046 0))) = g58 1100025 (g58 1046 0)) h2293_ h2311_ (sm_nl_0 : sm_nl 0 (g40 1046 0) (g40 1100007 (g40 1046 0)) (g40 1100025 (g40 1046 0)) (g40 1100007 (g40 1100025 (g40 1046 0))) (g40 1100025 (g40 1100025 (g40 1046 0))) = g40 1100025 (g40 1046 0)))
      have e2426_ : g48 1100007 (g58 1100023 (g58 1046 0)) = g48 1100007 (g48 1100023 (g48 1046 0)) := congrArg ((g48 1100007)) h2291_
      have e2427_ : g48 1100007 (g58 1100025 (g58 1046 0)) = g48 1100007 (g48 1100025 (g48 1046 0)) := congrArg ((g48 1100007)) h2293_
      have e2428_ : g48 1100007 (g65 1100023 (g65 1046 0)) = g48 1100007 (g48 1100023 (g48 1046 0)) := congrArg ((g48 1100007)) (la_object_246 h2274_ (sm_nt_11 : sm_nt 11 (g58 1046 0) (g58 1100023 (g58 1046 0)) (g58 1100023 (g58 1100023 (g58 1046 0))) = g58 1100023 (g58 1046 0)) h2291_)
      have e2429_ : g48 1100007 (g65 1100023 (g65 1046 0)) = g48 1100007 (g58 1100023 (g58 1046 0)) := congrArg ((g48 1100007)) (la_object_32 h2274_ (sm_nt_11 : sm_nt 11 (g58 1046 0) (g58 1100023 (g58 1046 0)) (g58 1100023 (g58 1100023 (g58 1046 0))) = g58 1100023 (g58 1046 0)))
      have e2430_ : g48 1100007 (g65 1100025 (g65 1046 0)) = g48 1100007 (g48 1100025 (g48 1046 0)) := congrArg ((g48 1100007)) (la_object_246 h2276_ (sm_nl_11 : sm_nl 11 (g58 1046 0) (g58 1100007 (g58 1046 0)) (g58 1100025 (g58 1046 0)) (g58 1100007 (g58 1100025 (g58 1046 0))) (g58 1100025 (g58 1100025 (g58 1046 0))) = g58 1100025 (g58 1046 0)) h2293_)
      have e2431_ : g48 1100007 (g65 1100025 (g65 1046 0)) = g48 1100007 (g58 1100025 (g58 1046 0)) := congrArg ((g48 1100007)) (la_object_32 h2276_ (sm_nl_11 : sm_nl 11 (g58 1046 0) (g58 1100007 (g58 1046 0)) (g58 1100025 (g58 1046 0)) (g58 1100007 (g58 1100025 (g58 1046 0))) (g58 1100025 (g58 1100025 (g58 1046 0))) = g58 1100025 (g58 1046 0)))
      have e2432_ : g48 1100007 (g72 1100023 (g72 1046 0)) = g48 1100007 (g48 1100023 (g48 1046 0)) := congrArg ((g48 1100007)) (la_object_245 h2257_ (sm_nt_17 : sm_nt 17 (g65 1046 0) (g65 1100023 (g65 1046 0)) (g65 1100023 (g65 1100023 (g65 1046 0))) = g65 1100023 (g65 1046 0)) h2274_ (sm_nt_11 : sm_nt 11 (g58 1046 0) (g58 1100023 (g58 1046 0)) (g58 1100023 (g58 1100023 (g58 1046 0))) = g58 1100023 (g58 1046 0)) h2291_)
      have e2433_ : g48 1100007 (g72 1100023 (g72 1046 0)) = g48 1100007 (g58 1100023 (g58 1046 0)) := congrArg ((g48 1100007)) (la_object_244 h2257_ (sm_nt_17 : sm_nt 17 (g65 1046 0) (g65 1100023 (g65 1046 0)) (g65 1100023 (g65 1100023 (g65 1046 0))) = g65 1100023 (g65 1046 0)) h2274_ (sm_nt_11 : sm_nt 11 (g58 1046 0) (g58 1100023 (g58 1046 0)) (g58 1100023 (g58 1100023 (g58 1046 0))) = g58 1100023 (g58 1046 0)))
      have e2434_ : g48 1100007 (g72 1100023 (g72 1046 0)) = g48 1100007 (g65 1100023 (g65 1046 0)) := congrArg ((g48 1100007)) (la_object_32 h2257_ (sm_nt_17 : sm_nt 17 (g65 1046 0) (g65 1100023 (g65 1046 0)) (g65 1100023 (g65 1100023 (g65 1046 0))) = g65 1100023 (g65 1046 0)))
      have e2435_ : g58 1100007 (g65 1100023 (g65 1046 0)) = g58 1100007 (g58 1100023 (g58 1046 0)) := congrArg ((g58 1100007)) (la_object_32 h2274_ (sm_nt_11 : sm_nt 11 (g58 1046 0) (g58 1100023 (g58 1046 0)) (g58 1100023 (g58 1100023 (g58 1046 0))) = g58 1100023 (g58 1046 0)))
      have e2436_ : g58 1100007 (g65 1100025 (g65 1046 0)) = g58 1100007 (g58 1100025 (g58 1046 0)) := congrArg ((g58 1100007)) (la_object_32 h2276_ (sm_nl_11 : sm_nl 11 (g58 1046 0) (g58 1100007 (g58 1046 0)) (g58 1100025 (g58 1046 0)) (g58 1100007 (g58 1100025 (g58 1046 0))) (g58 1100025 (g58 1100025 (g58 1046 0))) = g58 1100025 (g58 1046 0)))
      have e2437_ : g58 1100007 (g72 1100023 (g72 1046 0)) = g58 1100007 (g58 1100023 (g58 1046 0)) := congrArg ((g58 1100007)) (la_object_244 h2257_ (sm_nt_17 : sm_nt 17 (g65 1046 0) (g65 1100023 (g65 1046 0)) (g65 1100023 (g65 1100023 (g65 1046 0))) = g65 1100023 (g65 1046 0)) h2274_ (sm_nt_11 : sm_nt 11 (g58 1046 0) (g58 1100023 (g58 1046 0)) (g58 1100023 (g58 1100023 (g58 1046 0))) = g58 1100023 (g58 1046 0)))
      have e2438_ : g58 1100007 (g72 1100023 (g72 1046 0)) = g58 1100007 (g65 1100023 (g65 1046 0)) := congrArg ((g58 1100007)) (la_object_32 h2257_ (sm_nt_17 : sm_nt 17 (g65 1046 0) (g65 1100023 (g65 1046 0)) (g65 1100023 (g65 1100023 (g65 1046 0))) = g65 1100023 (g65 1046 0)))
      have e2439_ : g58 1100025 (g65 1100025 (g65 1046 0)) = g58 1100025 (g58 1100025 (g58 1046 0)) := congrArg ((g58 1100025)) (la_object_32 h2276_ (sm_nl_11 : sm_nl 11 (g58 1046 0) (g58 1100007 (g58 1046 0)) (g58 1100025 (g58 1046 0)) (g58 1100007 (g58 1100025 (g58 1046 0))) (g58 1100025 (g58 1100025 (g58 1046 0))) = g58 1100025 (g58 1046 0)))
      have e2440_ : g65 1100007 (g72 1100023 (g72 1046 0)) = g65 1100007 (g65 1100023 (g65 1046 0)) := congrArg ((g65 1100007)) (la_object_32 h2257_ (sm_nt_17 : sm_nt 17 (g65 1046 0) (g65 1100023 (g65 1046 0)) (g65 1100023 (g65 1100023 (g65 1046 0))) = g65 1100023 (g65 1046 0)))
      have e2441_ : g65 1100007 (g72 1100025 (g72 1046 0)) = g65 1100007 (g65 1100025 (g65 1046 0)) := congrArg ((g65 1100007)) (la_object_247 h28_ h385_ h388_ h390_ (sm_KC_n h2252_).2.1.2.2.2.2.2.2.1 h2259_ (sm_nl_17b : (0 ≤ g65 1100025 (g65 1046 0) → g65 1100007 (g65 1100025 (g65 1046 0)) < g65 1100007 (g65 1046 0)) → sm_nl 17 (g65 1046 0) (g65 1100007 (g65 1046 0)) (g65 1100025 (g65 1046 0)) (g65 1100007 (g65 1100025 (g65 1046 0))) (g65 1100025 (g65 1100025 (g65 1046 0))) = g65 1100025 (g65 1046 0)) h2273_ (sm_dl_11 : sm_dl 11 0 = (-2)) h2276_ (sm_nl_11 : sm_nl 11 (g58 1046 0) (g58 1100007 (g58 1046 0)) (g58 1100025 (g58 1046 0)) (g58 1100007 (g58 1100025 (g58 1046 0))) (g58 1100025 (g58 1100025 (g58 1046 0))) = g58 1100025 (g58 1046 0)) h2290_ h2293_ h2295_ h2301_ h2308_ (sm_dl_0 : sm_dl 0 6 = 1) h2311_ (sm_nl_0 : sm_nl 0 (g40 1046 0) (g40 1100007 (g40 1046 0)) (g40 1100025 (g40 1046 0)) (g40 1100007 (g40 1100025 (g40 1046 0))) (g40 1100025 (g40 1100025 (g40 1046 0))) = g40 1100025 (g40 1046 0)) h2323_ (sm_dl_18 : sm_dl 18 0 = 1) h2326_ (sm_nl_18 : sm_nl 18 (g22 1046 0) (g22 1100007 (g22 1046 0)) (g22 1100025 (g22 1046 0)) (g22 1100007 (g22 1100025 (g22 1046 0))) (g22 1100025 (g22 1100025 (g22 1046 0))) = g22 1100025 (g22 1046 0)) h2331_ h2333_)
      exact (la_object_249 h390_ h2295_ h2301_ h2331_ h2333_ (sm_F1_at h2241_ (g72 1100025 (g72 1046 0)) (la_object_234 h2233_ (sm_KC_n h2252_).2.1.2.2.2.2.2.2.2)) e2441_)
    refine ⟨(sm_AP_s (sm_AP_F h391_ (sm_F1_le h1005_ (Int.le_refl _)) (Int.le_refl _) (Int.le_refl _) (Int.le_refl _)) (sm_AP_F h2296_ sm_F1_rf (Int.le_refl _) (Int.le_refl _) (Int.le_refl _))), ?_⟩
    refine ⟨(sm_HB_1 (by rw [((sm_F1_at h2241_ (S 1046 0) (la_object_250 h383_ h2268_ h2288_ h2303_ h2318_)).trans ((sm_F1_at h1503_ (S 1046 0) (la_object_251 h383_ h2288_ h2303_ h2318_)).trans ((sm_F1_at h997_ (S 1046 0) (la_object_252 h383_ h2303_ h2318_)).trans ((sm_F1_at h603_ (S 1046 0) (la_object_253 h383_ h2318_)).trans ((sm_F1_at h567_ (S 1046 0) (la_object_254 h383_)).trans ((sm_F1_at h219_ (S 1046 0) la_object_40).trans rfl))))))]; exact (la_object_255 h279_ e283_ h383_ h2251_ h2268_ h2288_ h2303_ h2318_)) (sm_HB_s (sm_HB_F h392_ (sm_F1_tr (sm_F1_tr (sm_F1_tr (sm_F1_tr (sm_F1_le h567_ la_object_261) h603_ (la_object_266 h2318_)) h997_ (la_object_265 h2303_ h2318_)) h1503_ (la_object_264 h2288_ h2303_ h2318_)) h2241_ (la_object_263 h2268_ h2288_ h2303_ h2318_)) (Int.le_refl _) la_object_261 (Int.le_refl _) (la_object_262 h2251_ h2268_ h2288_ h2303_ h2318_)) (sm_HB_1 (by rw [((sm_F1_at h2241_ (g22 1046 0) (la_object_267 h2268_ h2288_ h2303_ h2318_)).trans ((sm_F1_at h1503_ (g22 1046 0) (la_object_268 h2288_ h2303_ h2318_)).trans ((sm_F1_at h997_ (g22 1046 0) (la_object_269 h2303_ h2318_)).trans ((sm_F1_at h603_ (g22 1046 0) (la_object_270 h2318_)).trans ((sm_F1_at h567_ (g22 1046 0) la_object_40).trans rfl)))))]; exact (la_object_271 h279_ e283_ h383_ h385_ h2251_ h2268_ h2288_ h2303_ h2318_)) (sm_HB_1 (by rw [((sm_F1_at h2241_ (g22 1046 0 + 1) (la_object_272 h2268_ h2288_ h2303_ h2318_)).trans ((sm_F1_at h1503_ (g22 1046 0 + 1) (la_object_273 h2288_ h2303_ h2318_)).trans ((sm_F1_at h997_ (g22 1046 0 + 1) (la_object_274 h2303_ h2318_)).trans ((sm_F1_at h603_ (g22 1046 0 + 1) (la_object_275 h2318_)).trans ((congrArg (g40 1100007) (la_object_223 h559_ h2318_)).trans h2323_)))))]; exact (la_object_276 h279_ e283_ h383_ h385_ h2251_ h2268_ h2288_ h2303_ h2318_ (sm_dl_18 : sm_dl 18 0 = 1))) (sm_HB_1 (by rw [((sm_F1_at h2241_ (g22 1046 0 + 1 + 1) (la_object_277 h2268_ h2288_ h2303_ h2318_)).trans ((sm_F1_at h1503_ (g22 1046 0 + 1 + 1) (la_object_278 h2288_ h2303_ h2318_)).trans ((sm_F1_at h997_ (g22 1046 0 + 1 + 1) (la_object_279 h2303_ h2318_)).trans ((congrArg (g48 1100007) (la_object_280 h2303_ h2318_)).trans h2308_))))]; exact (la_object_281 h279_ e283_ h383_ h385_ h2251_ h2268_ h2288_ h2303_ (sm_dl_0 : sm_dl 0 6 = 1) h2318_ h2323_ (sm_dl_18 : sm_dl 18 0 = 1))) (sm_HB_s (sm_HB_F h2297_ (sm_F1_tr (sm_F1_le h1503_ la_object_261) h2241_ (la_object_266 h2268_)) (Int.le_refl _) (la_object_284 h2303_ h2318_) (Int.le_refl _) (la_object_286 e283_ h289_ (sm_ex_e h304_).2.2.2.2 h326_ h383_ h385_ h2251_ h2268_ h2303_ h2308_ (sm_dl_0 : sm_dl 0 6 = 1) h2318_ h2323_ (sm_dl_18 : sm_dl 18 0 = 1))) (sm_HB_1 (by rw [((sm_F1_at h2241_ (g58 1046 0) (la_object_270 h2268_)).trans ((sm_F1_at h1503_ (g58 1046 0) la_object_40).trans rfl))]; exact (la_object_287 h279_ e283_ h383_ h385_ h2251_ h2268_ h2288_ h2290_ h2303_ h2308_ (sm_dl_0 : sm_dl 0 6 = 1) h2318_ h2323_ (sm_dl_18 : sm_dl 18 0 = 1))) (sm_HB_1 (by rw [((sm_F1_at h2241_ (g58 1046 0 + 1) (la_object_275 h2268_)).trans ((congrArg (g65 1100007) (la_object_223 h1495_ h2268_)).trans h2273_))]; exact (la_object_288 h279_ e283_ h383_ h385_ h2251_ h2268_ (sm_dl_11 : sm_dl 11 0 = (-2)) h2288_ h2290_ h2303_ h2308_ (sm_dl_0 : sm_dl 0 6 = 1) h2318_ h2323_ (sm_dl_18 : sm_dl 18 0 = 1))) (sm_HB_0 (la_object_228 h2233_ h2268_)))))))))), ?_⟩
    refine ⟨(la_object_289 h393_ h2251_ h2268_ h2298_ h2303_ h2318_), ?_⟩
    exact trivial
  have e2442_ : (if l2_23 = (-1) then 0 else S 1024 0 - l2_23 : Int) = S 1024 0 - l2_23 := if_neg h273_
  have e2443_ : S 1100007 (g22 1100023 (g22 1046 0)) = S 1100007 (S 1100023 (S 1046 0)) := congrArg ((S 1100007)) h386_
  have e2444_ : S 1100007 (g22 1100025 (g22 1046 0)) = S 1100007 (S 1100025 (S 1046 0)) := congrArg ((S 1100007)) h388_
  have e2445_ : S 12 (5 * l2_23 + 0) = S 12 (5 * l2_23) := congrArg ((S 12)) la_object_56
  have e2446_ : S 1100002 (S 12 (5 * l2_23 + 0)) = S 1100002 (S 12 (5 * l2_23)) := congrArg ((S 1100002)) e2445_
  have e2447_ : S 1100005 (S 12 (5 * l2_23 + 0)) = S 1100005 (S 12 (5 * l2_23)) := congrArg ((S 1100005)) e2445_
  by_cases c2448_ : S 13 l2_23 = (-1)
  · skip
    have e2449_ : (if S 13 l2_23 = (-1) then 0 else S 1024 0 - S 13 l2_23 : Int) = 0 := if_pos c2448_
    have h2450_ := (h314_.resolve_right (la_object_290 h285_ h287_ (la_object_13 (la_object_45 h285_) h273_) c2448_))
    exact (la_object_291 h286_ e2442_ e2449_)
  · skip
    have e2451_ : (if S 13 l2_23 = (-1) then 0 else S 1024 0 - S 13 l2_23 : Int) = S 1024 0 - S 13 l2_23 := if_neg c2448_
    obtain ⟨h2452_, ⟨h2453_, ⟨h2454_, ⟨h2455_, ⟨h2456_, ⟨h2457_, ⟨h2458_, ⟨h2459_, h2460_⟩⟩⟩⟩⟩⟩⟩⟩ := (h314_.resolve_left c2448_)
    exact (la_object_294 e2442_ e2451_ h2452_)
set_option maxRecDepth 8000 in
set_option maxHeartbeats 2000000 in
theorem s_object (d : Int) (h0 : 0 ≤ d) (IH : ∀ d' : Int, 0 ≤ d' → d' < d → P_K d') : T_object d := by
  intro p1 S hok hp1 hpre hd
  have h := f_object d p1 S hok hp1 hpre hd
  have hM := sm_h100
  show sv_T sm_XS sm_cs sm_L sm_sh (((if p1 = -1 then 0 else (S 1100002 p1))) + (600 - (S 1046 0)) + 8).toNat (q_object p1 S) 100 0 [(0, .ref 0), (1, sv_I p1)] [] S
  obtain ⟨o1, h⟩ := h
  refine sv_ghost sm_X 1100033 0 ((if (S 1047 0) = 0 then (S 1055 0) + 1 else 0)) (by decide) ?_
  have ok2 : sm_ok (sv_up S 1100033 0 ((if (S 1047 0) = 0 then (S 1055 0) + 1 else 0))) := sm_upI hok sm_r1100033 o1
  have md3 : sv_mod [26, 27, 28, 29, 1046, 1047, 1100007, 1100023, 1100024, 1100025, 1053, 31, 1100030, 1100009, 1100027, 1100028, 1100026, 1055, 1100033, 39, 1066] S (sv_up S 1100033 0 ((if (S 1047 0) = 0 then (S 1055 0) + 1 else 0))) := sv_mod.up sv_mod.rf (by decide)
  have k4 : ((S 1047 0) = 0 → (S 1100033 0) = (S 1055 0) → sm_KC (S 26) (S 27) (S 28) (S 29) (S 1100007) (S 1100023) (S 1100024) (S 1100025) (S 31) (S 1100009) (S 1100027) (S 1100028) (S 1100026) (S 1100030) (S 21) (S 32) (S 33) (S 1046 0) (S 1053 0) (S 1056 0) (S 1032 0) (S 1007 0) (S 1100033 0) → sm_KC (S 26) (S 27) (S 28) (S 29) (S 1100007) (S 1100023) (S 1100024) (S 1100025) (S 31) (S 1100009) (S 1100027) (S 1100028) (S 1100026) (S 1100030) (S 21) (S 32) (S 33) (S 1046 0) (S 1053 0) (S 1056 0) (S 1032 0) (S 1007 0) ((if (S 1047 0) = 0 then (S 1055 0) + 1 else 0))) := fun q e h => sm_KC_si h (sm_h_si q e)
  have h := h k4
  have k5 : ((S 1047 0) = 0 → (if (S 1047 0) = 0 then (S 1055 0) + 1 else 0) = (S 1055 0) + 1) := fun q => if_pos q
  have h := h k5
  have k6 : ((S 1047 0) = 0 → 0 ≤ (S 1055 0) → (S 1055 0) ≤ 600 → 0 ≤ (if (S 1047 0) = 0 then (S 1055 0) + 1 else 0) ∧ (if (S 1047 0) = 0 then (S 1055 0) + 1 else 0) ≤ 601) := fun q a b => sm_h_si2 q a b
  have h := h k6
  refine sv_ghost sm_X 1100033 0 ((if (S 1047 0) = 0 then (S 1055 0) + 1 else 0)) (by decide) ?_
  have ok7 : sm_ok (sv_up (sv_up S 1100033 0 ((if (S 1047 0) = 0 then (S 1055 0) + 1 else 0))) 1100033 0 ((if (S 1047 0) = 0 then (S 1055 0) + 1 else 0))) := sm_upI ok2 sm_r1100033 o1
  have md8 : sv_mod [26, 27, 28, 29, 1046, 1047, 1100007, 1100023, 1100024, 1100025, 1053, 31, 1100030, 1100009, 1100027, 1100028, 1100026, 1055, 1100033, 39, 1066] S (sv_up (sv_up S 1100033 0 ((if (S 1047 0) = 0 then (S 1055 0) + 1 else 0))) 1100033 0 ((if (S 1047 0) = 0 then (S 1055 0) + 1 else 0))) := sv_mod.up md3 (by decide)
  have k9 : ((S 1047 0) = 0 → ((if (S 1047 0) = 0 then (S 1055 0) + 1 else 0)) = (S 1055 0) → sm_KC (S 26) (S 27) (S 28) (S 29) (S 1100007) (S 1100023) (S 1100024) (S 1100025) (S 31) (S 1100009) (S 1100027) (S 1100028) (S 1100026) (S 1100030) (S 21) (S 32) (S 33) (S 1046 0) (S 1053 0) (S 1056 0) (S 1032 0) (S 1007 0) ((if (S 1047 0) = 0 then (S 1055 0) + 1 else 0)) → sm_KC (S 26) (S 27) (S 28) (S 29) (S 1100007) (S 1100023) (S 1100024) (S 1100025) (S 31) (S 1100009) (S 1100027) (S 1100028) (S 1100026) (S 1100030) (S 21) (S 32) (S 33) (S 1046 0) (S 1053 0) (S 1056 0) (S 1032 0) (S 1007 0) ((if (S 1047 0) = 0 then (S 1055 0) + 1 else 0))) := fun q e h => sm_KC_si h (sm_h_si q e)
  have h := h k9
  have k10 : ((S 1047 0) = 0 → (if (S 1047 0) = 0 then (S 1055 0) + 1 else 0) = (S 1055 0) + 1) := fun q => if_pos q
  have h := h k10
  refine sv_aload_n hM dX12_object_0 rfl rfl ?_
  refine sv_bipush (d := (7 : Int)) hM dX12_object_1 rfl rfl ?_
  refine sv_aload_n hM dX12_object_3 rfl rfl ?_
  have k11 : sv_R (S 1055 0) := sm_okI ok7 sm_r1055 0
  have h := h k11
  refine sv_getI hM dX12_object_4 sm_fl_689 (sm_a0 _) sm_k55 rfl (x := (S 1055 0)) rfl ?_
  refine sv_iconst (d := (0 : Int)) hM dX12_object_7 rfl rfl ?_
  obtain ⟨o12, h⟩ := h
  obtain ⟨o13, h⟩ := h
  refine sv_callV hM dX12_object_8 sm_iv_615 (by decide) (sm_a0 _) rfl rfl (Nat.le_of_ble_eq_true rfl) sm_h82 (Nat.le_of_ble_eq_true rfl) (Nat.le_of_ble_eq_true rfl) (F' := 0) (sv_Fn (n := 0) o13) rfl (t_emit (7 : Int) (S 1055 0) (0 : Int) (sv_up (sv_up S 1100033 0 ((if (S 1047 0) = 0 then (S 1055 0) + 1 else 0))) 1100033 0 ((if (S 1047 0) = 0 then (S 1055 0) + 1 else 0))) ok7 (⟨by decide, by decide⟩ : sv_R (7 : Int)) k11 (⟨by decide, by decide⟩ : sv_R (0 : Int)) o12) (fun v S1 hq => ?_)
  obtain ⟨rfl, ok15, md16, hpo17⟩ := hq
  obtain ⟨g14, rfl⟩ : ∃ g, S1 = sv_sts (sv_up (sv_up S 1100033 0 ((if (S 1047 0) = 0 then (S 1055 0) + 1 else 0))) 1100033 0 ((if (S 1047 0) = 0 then (S 1055 0) + 1 else 0))) [26, 27, 28, 29, 1046, 1047, 1100007, 1100023, 1100024, 1100025] g := ⟨_, md16.eq⟩
  show sv_T sm_XS sm_cs sm_L sm_sh (((if p1 = -1 then 0 else (S 1100002 p1))) + (600 - (S 1046 0)) + 8).toNat (q_object p1 S) 100 11 [(0, .ref 0), (1, sv_I p1)] [] (sv_sts (sv_up (sv_up S 1100033 0 ((if (S 1047 0) = 0 then (S 1055 0) + 1 else 0))) 1100033 0 ((if (S 1047 0) = 0 then (S 1055 0) + 1 else 0))) [26, 27, 28, 29, 1046, 1047, 1100007, 1100023, 1100024, 1100025] g14)
  have md18 : sv_mod [26, 27, 28, 29, 1046, 1047, 1100007, 1100023, 1100024, 1100025, 1053, 31, 1100030, 1100009, 1100027, 1100028, 1100026, 1055, 1100033, 39, 1066] S (sv_sts (sv_up (sv_up S 1100033 0 ((if (S 1047 0) = 0 then (S 1055 0) + 1 else 0))) 1100033 0 ((if (S 1047 0) = 0 then (S 1055 0) + 1 else 0))) [26, 27, 28, 29, 1046, 1047, 1100007, 1100023, 1100024, 1100025] g14) := sv_mod.sts md8 (by decide)
  have h := h g14 hpo17
  refine sv_aload_n hM dX12_object_11 rfl rfl ?_
  refine sv_dupA hM dX12_object_12 rfl ?_
  refine sv_getI hM dX12_object_13 sm_fl_689 (sm_a0 _) sm_k55 rfl (x := (S 1055 0)) rfl ?_
  refine sv_iconst (d := (1 : Int)) hM dX12_object_16 rfl rfl ?_
  refine sv_anyI hM dX12_object_17 (x := Int32.ofInt (S 1055 0) + Int32.ofInt (1 : Int)) rfl rfl (fun r19 hr19 er19 => ?_)
  have h := h r19 hr19 (fun q => sv_wadd q er19)
  refine sv_putI sm_X hM dX12_object_18 sm_fp_689 (sm_a0 _) sm_q55 (Or.inl rfl) rfl rfl rfl rfl ?_
  have ok20 : sm_ok (sv_up (sv_sts (sv_up (sv_up S 1100033 0 ((if (S 1047 0) = 0 then (S 1055 0) + 1 else 0))) 1100033 0 ((if (S 1047 0) = 0 then (S 1055 0) + 1 else 0))) [26, 27, 28, 29, 1046, 1047, 1100007, 1100023, 1100024, 1100025] g14) 1055 0 r19) := sm_upI ok15 sm_r1055 hr19
  have md21 : sv_mod [26, 27, 28, 29, 1046, 1047, 1100007, 1100023, 1100024, 1100025, 1053, 31, 1100030, 1100009, 1100027, 1100028, 1100026, 1055, 1100033, 39, 1066] S (sv_up (sv_sts (sv_up (sv_up S 1100033 0 ((if (S 1047 0) = 0 then (S 1055 0) + 1 else 0))) 1100033 0 ((if (S 1047 0) = 0 then (S 1055 0) + 1 else 0))) [26, 27, 28, 29, 1046, 1047, 1100007, 1100023, 1100024, 1100025] g14) 1055 0 r19) := sv_mod.up md18 (by decide)
  refine sv_iload_n hM dX12_object_21 rfl rfl ?_
  refine sv_istore_n hM dX12_object_22 (by decide) rfl ?_
  show sv_T sm_XS sm_cs sm_L sm_sh (((if p1 = -1 then 0 else (S 1100002 p1))) + (600 - (S 1046 0)) + 8).toNat (q_object p1 S) 100 23 [(0, .ref 0), (1, sv_I p1), (2, sv_I p1)] [] (sv_up (sv_sts (sv_up (sv_up S 1100033 0 ((if (S 1047 0) = 0 then (S 1055 0) + 1 else 0))) 1100033 0 ((if (S 1047 0) = 0 then (S 1055 0) + 1 else 0))) [26, 27, 28, 29, 1046, 1047, 1100007, 1100023, 1100024, 1100025] g14) 1055 0 r19)
  obtain ⟨hin25, h⟩ := h
  have hJ : ∀ a : Int × sv_S, (sv_R a.1 ∧ sm_ok (sv_sts (sv_up (sv_sts (sv_up (sv_up S 1100033 0 ((if (S 1047 0) = 0 then (S 1055 0) + 1 else 0))) 1100033 0 ((if (S 1047 0) = 0 then (S 1055 0) + 1 else 0))) [26, 27, 28, 29, 1046, 1047, 1100007, 1100023, 1100024, 1100025] g14) 1055 0 r19) [26, 27, 28, 29, 1046, 1047, 1100007, 1100023, 1100024, 1100025, 1053, 31, 1100030, 1100009, 1100027, 1100028, 1100026, 1055, 1100033, 39, 1066] a.2) ∧ (0 ≤ (a.2 1046 0) ∧ (a.2 1046 0) ≤ 600 ∧ 0 ≤ (a.2 1047 0) ∧ (a.2 1047 0) ≤ 1 ∧ 0 ≤ (a.2 1053 0) ∧ 0 ≤ (a.2 1066 0) ∧ (p1 = -1 → a.1 = -1) ∧ (¬ p1 = -1 → (a.1 = -1 ∨ (0 ≤ a.1 ∧ a.1 < (S 1024 0) ∧ (S 1100001 a.1) = 4 ∧ (S 1100002 a.1) ≤ (S 1100002 p1) ∧ (S 1100005 a.1) ≤ (S 1100005 p1)))) ∧ (¬ p1 = -1 → sm_LF (a.2 39) (S 1100002) (a.2 1066 0) (S 1024 0) (12001 * ((S 1100002 p1) + 1))) ∧ 0 ≤ (a.2 1046 0) ∧ (a.2 1046 0) ≤ 600 ∧ 0 ≤ (a.2 1047 0) ∧ (a.2 1047 0) ≤ 1 ∧ 0 ≤ (a.2 1053 0) ∧ 0 ≤ (a.2 1066 0) ∧ (S 1046 0) ≤ (a.2 1046 0) ∧ ((S 1047 0) = 1 → (a.2 1047 0) = 1) ∧ sm_F1 (S 26) (a.2 26) (S 1046 0) ∧ sm_F1 (S 27) (a.2 27) (S 1046 0) ∧ sm_F1 (S 28) (a.2 28) (S 1046 0) ∧ sm_F1 (S 29) (a.2 29) (S 1046 0) ∧ sm_F1 (S 1100007) (a.2 1100007) ((S 1046 0) + 1) ∧ sm_F1 (S 1100023) (a.2 1100023) ((S 1046 0) + 1) ∧ sm_F1 (S 1100024) (a.2 1100024) ((S 1046 0) + 1) ∧ sm_F1 (S 1100025) (a.2 1100025) ((S 1046 0) + 1) ∧ sm_F1 (S 1100009) (a.2 1100009) (S 1053 0) ∧ sm_F1 (S 1100027) (a.2 1100027) (S 1053 0) ∧ sm_F1 (S 1100028) (a.2 1100028) (S 1053 0) ∧ sm_F1 (S 1100026) (a.2 1100026) (S 1053 0) ∧ sm_F1 (S 1100030) (a.2 1100030) (S 1053 0) ∧ sm_F1 (S 31) (a.2 31) (S 1053 0) ∧ (S 1053 0) ≤ (a.2 1053 0) ∧ (a.2 1066 0) = (S 1066 0) ∧ sm_F1 (S 39) (a.2 39) (S 1066 0) ∧ ((S 1047 0) = 1 → (a.2 1053 0) = (S 1053 0)) ∧ ((S 1047 0) = 0 → (a.2 1053 0) ≤ (S 1053 0) + 3 * (600 - (S 1046 0)) + (if p1 = -1 then 0 else (S 1100002 p1))) ∧ ((a.2 1047 0) = 0 → (S 1047 0) = 0 ∧ sm_KC (a.2 26) (a.2 27) (a.2 28) (a.2 29) (a.2 1100007) (a.2 1100023) (a.2 1100024) (a.2 1100025) (a.2 31) (a.2 1100009) (a.2 1100027) (a.2 1100028) (a.2 1100026) (a.2 1100030) (S 21) (S 32) (S 33) (a.2 1046 0) (a.2 1053 0) (S 1056 0) (S 1032 0) (S 1007 0) (a.2 1100033 0) ∧ (a.2 1100033 0) = (a.2 1055 0) ∧ 0 ≤ (a.2 1055 0) ∧ (a.2 1055 0) ≤ (a.2 1046 0) ∧ (S 1046 0) + 1 ≤ (a.2 1046 0) ∧ sm_FC (a.2 29) (S 1046 0) (a.2 1046 0) (S 1056 0) ∧ (a.2 1100007 (a.2 1046 0)) = (S 1100007 (S 1046 0)) + 1 ∧ (a.2 1100023 (a.2 1046 0)) = (S 1100023 (S 1046 0)) ∧ (a.2 1100024 (a.2 1046 0)) = (S 1100024 (S 1046 0)) ∧ (a.2 1100025 (a.2 1046 0)) = (S 1100025 (S 1046 0)) ∧ (a.2 1100007 (a.2 1100023 (a.2 1046 0))) = (S 1100007 (S 1100023 (S 1046 0))) ∧ (a.2 1100007 (a.2 1100025 (a.2 1046 0))) = (S 1100007 (S 1100025 (S 1046 0))) ∧ sm_AP (a.2 1100030) (S 1053 0) (a.2 1053 0) ∧ sm_HB (a.2 1100007) (S 1046 0) (a.2 1046 0) (2 * (S 1100007 (S 1046 0)) + ((a.2 1046 0) - (S 1046 0)) + (if p1 = -1 then 10 else 8 * (S 1100005 p1) + 18)) ∧ (a.2 1053 0) ≤ (S 1053 0) + 3 * ((a.2 1046 0) - (S 1046 0)) ∧ True))) → sv_T sm_XS sm_cs sm_L sm_sh (((if p1 = -1 then 0 else (S 1100002 p1))) + (600 - (S 1046 0)) + 8).toNat (q_object p1 S) 100 23 [(0, .ref 0), (1, sv_I p1), (2, sv_I a.1)] [] (sv_sts (sv_up (sv_sts (sv_up (sv_up S 1100033 0 ((if (S 1047 0) = 0 then (S 1055 0) + 1 else 0))) 1100033 0 ((if (S 1047 0) = 0 then (S 1055 0) + 1 else 0))) [26, 27, 28, 29, 1046, 1047, 1100007, 1100023, 1100024, 1100025] g14) 1055 0 r19) [26, 27, 28, 29, 1046, 1047, 1100007, 1100023, 1100024, 1100025, 1053, 31, 1100030, 1100009, 1100027, 1100028, 1100026, 1055, 1100033, 39, 1066] a.2) := by
    refine sv_loop (α := Int × sv_S) (fun a => sv_R a.1 ∧ sm_ok (sv_sts (sv_up (sv_sts (sv_up (sv_up S 1100033 0 ((if (S 1047 0) = 0 then (S 1055 0) + 1 else 0))) 1100033 0 ((if (S 1047 0) = 0 then (S 1055 0) + 1 else 0))) [26, 27, 28, 29, 1046, 1047, 1100007, 1100023, 1100024, 1100025] g14) 1055 0 r19) [26, 27, 28, 29, 1046, 1047, 1100007, 1100023, 1100024, 1100025, 1053, 31, 1100030, 1100009, 1100027, 1100028, 1100026, 1055, 1100033, 39, 1066] a.2) ∧ (0 ≤ (a.2 1046 0) ∧ (a.2 1046 0) ≤ 600 ∧ 0 ≤ (a.2 1047 0) ∧ (a.2 1047 0) ≤ 1 ∧ 0 ≤ (a.2 1053 0) ∧ 0 ≤ (a.2 1066 0) ∧ (p1 = -1 → a.1 = -1) ∧ (¬ p1 = -1 → (a.1 = -1 ∨ (0 ≤ a.1 ∧ a.1 < (S 1024 0) ∧ (S 1100001 a.1) = 4 ∧ (S 1100002 a.1) ≤ (S 1100002 p1) ∧ (S 1100005 a.1) ≤ (S 1100005 p1)))) ∧ (¬ p1 = -1 → sm_LF (a.2 39) (S 1100002) (a.2 1066 0) (S 1024 0) (12001 * ((S 1100002 p1) + 1))) ∧ 0 ≤ (a.2 1046 0) ∧ (a.2 1046 0) ≤ 600 ∧ 0 ≤ (a.2 1047 0) ∧ (a.2 1047 0) ≤ 1 ∧ 0 ≤ (a.2 1053 0) ∧ 0 ≤ (a.2 1066 0) ∧ (S 1046 0) ≤ (a.2 1046 0) ∧ ((S 1047 0) = 1 → (a.2 1047 0) = 1) ∧ sm_F1 (S 26) (a.2 26) (S 1046 0) ∧ sm_F1 (S 27) (a.2 27) (S 1046 0) ∧ sm_F1 (S 28) (a.2 28) (S 1046 0) ∧ sm_F1 (S 29) (a.2 29) (S 1046 0) ∧ sm_F1 (S 1100007) (a.2 1100007) ((S 1046 0) + 1) ∧ sm_F1 (S 1100023) (a.2 1100023) ((S 1046 0) + 1) ∧ sm_F1 (S 1100024) (a.2 1100024) ((S 1046 0) + 1) ∧ sm_F1 (S 1100025) (a.2 1100025) ((S 1046 0) + 1) ∧ sm_F1 (S 1100009) (a.2 1100009) (S 1053 0) ∧ sm_F1 (S 1100027) (a.2 1100027) (S 1053 0) ∧ sm_F1 (S 1100028) (a.2 1100028) (S 1053 0) ∧ sm_F1 (S 1100026) (a.2 1100026) (S 1053 0) ∧ sm_F1 (S 1100030) (a.2 1100030) (S 1053 0) ∧ sm_F1 (S 31) (a.2 31) (S 1053 0) ∧ (S 1053 0) ≤ (a.2 1053 0) ∧ (a.2 1066 0) = (S 1066 0) ∧ sm_F1 (S 39) (a.2 39) (S 1066 0) ∧ ((S 1047 0) = 1 → (a.2 1053 0) = (S 1053 0)) ∧ ((S 1047 0) = 0 → (a.2 1053 0) ≤ (S 1053 0) + 3 * (600 - (S 1046 0)) + (if p1 = -1 then 0 else (S 1100002 p1))) ∧ ((a.2 1047 0) = 0 → (S 1047 0) = 0 ∧ sm_KC (a.2 26) (a.2 27) (a.2 28) (a.2 29) (a.2 1100007) (a.2 1100023) (a.2 1100024) (a.2 1100025) (a.2 31) (a.2 1100009) (a.2 1100027) (a.2 1100028) (a.2 1100026) (a.2 1100030) (S 21) (S 32) (S 33) (a.2 1046 0) (a.2 1053 0) (S 1056 0) (S 1032 0) (S 1007 0) (a.2 1100033 0) ∧ (a.2 1100033 0) = (a.2 1055 0) ∧ 0 ≤ (a.2 1055 0) ∧ (a.2 1055 0) ≤ (a.2 1046 0) ∧ (S 1046 0) + 1 ≤ (a.2 1046 0) ∧ sm_FC (a.2 29) (S 1046 0) (a.2 1046 0) (S 1056 0) ∧ (a.2 1100007 (a.2 1046 0)) = (S 1100007 (S 1046 0)) + 1 ∧ (a.2 1100023 (a.2 1046 0)) = (S 1100023 (S 1046 0)) ∧ (a.2 1100024 (a.2 1046 0)) = (S 1100024 (S 1046 0)) ∧ (a.2 1100025 (a.2 1046 0)) = (S 1100025 (S 1046 0)) ∧ (a.2 1100007 (a.2 1100023 (a.2 1046 0))) = (S 1100007 (S 1100023 (S 1046 0))) ∧ (a.2 1100007 (a.2 1100025 (a.2 1046 0))) = (S 1100007 (S 1100025 (S 1046 0))) ∧ sm_AP (a.2 1100030) (S 1053 0) (a.2 1053 0) ∧ sm_HB (a.2 1100007) (S 1046 0) (a.2 1046 0) (2 * (S 1100007 (S 1046 0)) + ((a.2 1046 0) - (S 1046 0)) + (if p1 = -1 then 10 else 8 * (S 1100005 p1) + 18)) ∧ (a.2 1053 0) ≤ (S 1053 0) + 3 * ((a.2 1046 0) - (S 1046 0)) ∧ True))) (fun a => (if a.1 = -1 then 0 else (S 1024 0) - a.1)) (fun a => sv_T sm_XS sm_cs sm_L sm_sh (((if p1 = -1 then 0 else (S 1100002 p1))) + (600 - (S 1046 0)) + 8).toNat (q_object p1 S) 100 23 [(0, .ref 0), (1, sv_I p1), (2, sv_I a.1)] [] (sv_sts (sv_up (sv_sts (sv_up (sv_up S 1100033 0 ((if (S 1047 0) = 0 then (S 1055 0) + 1 else 0))) 1100033 0 ((if (S 1047 0) = 0 then (S 1055 0) + 1 else 0))) [26, 27, 28, 29, 1046, 1047, 1100007, 1100023, 1100024, 1100025] g14) 1055 0 r19) [26, 27, 28, 29, 1046, 1047, 1100007, 1100023, 1100024, 1100025, 1053, 31, 1100030, 1100009, 1100027, 1100028, 1100026, 1055, 1100033, 39, 1066] a.2)) (fun a q => (h a.1 q.1 a.2 q.2.2).1) (fun a q ih24 => ?_)
    obtain ⟨l2_23, g22⟩ := a
    obtain ⟨hl2_23, ok26, hin25i⟩ := q
    have h := (h l2_23 hl2_23 g22 hin25i).2
    show sv_T sm_XS sm_cs sm_L sm_sh (((if p1 = -1 then 0 else (S 1100002 p1))) + (600 - (S 1046 0)) + 8).toNat (q_object p1 S) 100 23 [(0, .ref 0), (1, sv_I p1), (2, sv_I l2_23)] [] (sv_sts (sv_up (sv_sts (sv_up (sv_up S 1100033 0 ((if (S 1047 0) = 0 then (S 1055 0) + 1 else 0))) 1100033 0 ((if (S 1047 0) = 0 then (S 1055 0) + 1 else 0))) [26, 27, 28, 29, 1046, 1047, 1100007, 1100023, 1100024, 1100025] g14) 1055 0 r19) [26, 27, 28, 29, 1046, 1047, 1100007, 1100023, 1100024, 1100025, 1053, 31, 1100030, 1100009, 1100027, 1100028, 1100026, 1055, 1100033, 39, 1066] g22)
    have md27 : sv_mod [26, 27, 28, 29, 1046, 1047, 1100007, 1100023, 1100024, 1100025, 1053, 31, 1100030, 1100009, 1100027, 1100028, 1100026, 1055, 1100033, 39, 1066] S (sv_sts (sv_up (sv_sts (sv_up (sv_up S 1100033 0 ((if (S 1047 0) = 0 then (S 1055 0) + 1 else 0))) 1100033 0 ((if (S 1047 0) = 0 then (S 1055 0) + 1 else 0))) [26, 27, 28, 29, 1046, 1047, 1100007, 1100023, 1100024, 1100025] g14) 1055 0 r19) [26, 27, 28, 29, 1046, 1047, 1100007, 1100023, 1100024, 1100025, 1053, 31, 1100030, 1100009, 1100027, 1100028, 1100026, 1055, 1100033, 39, 1066] g22) := sv_mod.sts md21 (by decide)
    have md28 : sv_mod [26, 27, 28, 29, 1046, 1047, 1100007, 1100023, 1100024, 1100025, 1053, 31, 1100030, 1100009, 1100027, 1100028, 1100026, 1055, 1100033, 39, 1066] (sv_up (sv_sts (sv_up (sv_up S 1100033 0 ((if (S 1047 0) = 0 then (S 1055 0) + 1 else 0))) 1100033 0 ((if (S 1047 0) = 0 then (S 1055 0) + 1 else 0))) [26, 27, 28, 29, 1046, 1047, 1100007, 1100023, 1100024, 1100025] g14) 1055 0 r19) (sv_sts (sv_up (sv_sts (sv_up (sv_up S 1100033 0 ((if (S 1047 0) = 0 then (S 1055 0) + 1 else 0))) 1100033 0 ((if (S 1047 0) = 0 then (S 1055 0) + 1 else 0))) [26, 27, 28, 29, 1046, 1047, 1100007, 1100023, 1100024, 1100025] g14) 1055 0 r19) [26, 27, 28, 29, 1046, 1047, 1100007, 1100023, 1100024, 1100025, 1053, 31, 1100030, 1100009, 1100027, 1100028, 1100026, 1055, 1100033, 39, 1066] g22) := sv_mod.sts sv_mod.rf (by decide)
    refine sv_iload_n hM dX12_object_23 rfl rfl ?_
    refine sv_iconst (d := (-1 : Int)) hM dX12_object_24 rfl rfl ?_
    refine sv_icmp_eq hM dX12_object_25 hl2_23 (⟨by decide, by decide⟩ : sv_R (-1 : Int)) (t := 85) rfl rfl (fun hc => ?_) (fun hc => ?_)
    · have h := h.1 (hc)
      exact sv_vret hM dX12_object_85 rfl ⟨rfl, ok26, md27, h⟩
    · have h := h.2 (hc)
      have k29 : ((p1 = -1 → l2_23 = -1) → ¬ l2_23 = -1 → ¬ p1 = -1) := fun a b q => b (a q)
      have h := h k29
      have k30 : (sm_WF (S 11) (S 12) (S 13) (S 1100001) (S 1100002) (S 1100005) (S 1100003) (S 1100004) (S 1024 0) (S 1007 0) (S 1009 0) (sm_fn (S 1032 0) (S 21) (S 1056 0)) → 0 ≤ l2_23 → l2_23 < (S 1024 0) → ((S 1100001 (l2_23)) = 1 → 0 ≤ (S 1100002 (l2_23)) ∧ ((S 11 (l2_23)) = 3 → (S 12 (5 * (l2_23) + 1)) < (l2_23)) ∧ ((S 11 (l2_23)) = 4 ∨ (S 11 (l2_23)) = 5 ∨ (S 11 (l2_23)) = 8 ∨ (S 11 (l2_23)) = 9 → 17 * (S 1100005 (l2_23)) + 2 ≤ (S 1100002 (l2_23))) ∧ 0 ≤ (S 1100005 (l2_23))) ∧ ((S 1100001 (l2_23)) = 2 → 0 ≤ (S 1100005 (l2_23)) ∧ (S 1100002 (l2_23)) ≤ 17 * (S 1100005 (l2_23)) + 5 ∧ ((S 11 (l2_23)) = 33 → 1 ≤ (S 1100005 (l2_23)))) ∧ ((S 1100001 (l2_23)) = 6 → 0 ≤ (S 1100002 (l2_23)) ∧ 1 ≤ (S 1100004 (l2_23)) ∧ ((S 12 (5 * (l2_23))) = - 1 → (S 1100004 (l2_23)) = 2)) ∧ ((S 1100001 (l2_23)) = 3 → 1 ≤ (S 1100002 (l2_23)))) := fun h a0 a1 => sm_gx h _ a0 a1
      have h := h k30
      have k31 : (sm_WF (S 11) (S 12) (S 13) (S 1100001) (S 1100002) (S 1100005) (S 1100003) (S 1100004) (S 1024 0) (S 1007 0) (S 1009 0) (sm_fn (S 1032 0) (S 21) (S 1056 0)) → 0 ≤ l2_23 → l2_23 < (S 1024 0) → (S 1100001 l2_23) = 4 → sm_ex (S 1100001) (S 1100002) (S 1100005) (S 1024 0) 1 ((S 12 (5 * (l2_23)))) ((S 1100002 (l2_23))) ((S 1100005 (l2_23))) ∧ sm_nm (S 1007 0) (S 1009 0) ((S 12 (5 * (l2_23) + 1)))) := fun h a0 a1 a2 => sm_g3_4 h _ a0 a1 a2
      have h := h k31
      have k32 : (sm_nm (S 1007 0) (S 1009 0) ((S 12 (5 * l2_23 + 1))) → (S 1009 0) = 0 → 0 ≤ (S 12 (5 * l2_23 + 1)) ∧ (S 12 (5 * l2_23 + 1)) < (S 1007 0)) := fun h a => sm_h_nm h a
      have h := h k32
      have k33 : (sm_WF (S 11) (S 12) (S 13) (S 1100001) (S 1100002) (S 1100005) (S 1100003) (S 1100004) (S 1024 0) (S 1007 0) (S 1009 0) (sm_fn (S 1032 0) (S 21) (S 1056 0)) → 0 ≤ l2_23 → l2_23 < (S 1024 0) → 2 ≤ (S 1100001 l2_23) → (S 13 (l2_23)) = - 1 ∨ ((l2_23) < (S 13 (l2_23)) ∧ (S 13 (l2_23)) < (S 1024 0) ∧ (S 1100001 ((S 13 (l2_23)))) = (S 1100001 (l2_23)) ∧ (S 1100002 ((S 13 (l2_23)))) ≤ (S 1100002 (l2_23)) ∧ (S 1100005 ((S 13 (l2_23)))) ≤ (S 1100005 (l2_23)) ∧ (S 1100003 ((S 13 (l2_23)))) ≤ (S 1100003 (l2_23)) ∧ (S 1100004 ((S 13 (l2_23)))) ≤ (S 1100004 (l2_23)) ∧ ((S 1100001 (l2_23)) = 3 ∨ (S 1100001 (l2_23)) = 6 → (S 1100002 ((S 13 (l2_23)))) < (S 1100002 (l2_23))) ∧ ((S 1100001 (l2_23)) = 6 → (S 1100004 (l2_23)) = 2 → (S 1100004 ((S 13 (l2_23)))) < 2))) := fun h a0 a1 a2 => sm_gn h _ a0 a1 a2
      have h := h k33
      have k34 : (sm_WF (S 11) (S 12) (S 13) (S 1100001) (S 1100002) (S 1100005) (S 1100003) (S 1100004) (S 1024 0) (S 1007 0) (S 1009 0) (sm_fn (S 1032 0) (S 21) (S 1056 0)) → 0 ≤ (S 12 (5 * l2_23)) → (S 12 (5 * l2_23)) < (S 1024 0) → ((S 1100001 ((S 12 (5 * l2_23)))) = 1 → 0 ≤ (S 1100002 ((S 12 (5 * l2_23)))) ∧ ((S 11 ((S 12 (5 * l2_23)))) = 3 → (S 12 (5 * ((S 12 (5 * l2_23))) + 1)) < ((S 12 (5 * l2_23)))) ∧ ((S 11 ((S 12 (5 * l2_23)))) = 4 ∨ (S 11 ((S 12 (5 * l2_23)))) = 5 ∨ (S 11 ((S 12 (5 * l2_23)))) = 8 ∨ (S 11 ((S 12 (5 * l2_23)))) = 9 → 17 * (S 1100005 ((S 12 (5 * l2_23)))) + 2 ≤ (S 1100002 ((S 12 (5 * l2_23))))) ∧ 0 ≤ (S 1100005 ((S 12 (5 * l2_23))))) ∧ ((S 1100001 ((S 12 (5 * l2_23)))) = 2 → 0 ≤ (S 1100005 ((S 12 (5 * l2_23)))) ∧ (S 1100002 ((S 12 (5 * l2_23)))) ≤ 17 * (S 1100005 ((S 12 (5 * l2_23)))) + 5 ∧ ((S 11 ((S 12 (5 * l2_23)))) = 33 → 1 ≤ (S 1100005 ((S 12 (5 * l2_23)))))) ∧ ((S 1100001 ((S 12 (5 * l2_23)))) = 6 → 0 ≤ (S 1100002 ((S 12 (5 * l2_23)))) ∧ 1 ≤ (S 1100004 ((S 12 (5 * l2_23)))) ∧ ((S 12 (5 * ((S 12 (5 * l2_23))))) = - 1 → (S 1100004 ((S 12 (5 * l2_23)))) = 2)) ∧ ((S 1100001 ((S 12 (5 * l2_23)))) = 3 → 1 ≤ (S 1100002 ((S 12 (5 * l2_23)))))) := fun h a0 a1 => sm_gx h _ a0 a1
      have h := h k34
      have k35 : ((S 1100005 (S 12 (5 * l2_23 + 0))) = (S 1100005 (S 12 (5 * l2_23)))) := by rw [Int.add_zero]
      have h := h k35
      have k36 : ((S 1100002 (S 12 (5 * l2_23 + 0))) = (S 1100002 (S 12 (5 * l2_23)))) := by rw [Int.add_zero]
      have h := h k36
      refine sv_aload_n hM dX12_object_28 rfl rfl ?_
      have k37 : (0 ≤ (g22 1047 0) ∧ (g22 1047 0) ≤ 1) := sm_okZ ok26 sm_r1047 0
      have h := h k37
      refine sv_getI hM dX12_object_29 sm_fl_609 (sm_a0 _) sm_k47 rfl (x := (g22 1047 0)) rfl ?_
      refine sv_cond_ne hM dX12_object_32 (sv_R01 k37) (t := 85) rfl rfl (fun hc => ?_) (fun hc => ?_)
      · have h := h.1 (hc)
        exact sv_vret hM dX12_object_85 rfl ⟨rfl, ok26, md27, h⟩
      · have h := h.2 (hc)
        refine sv_aload_n hM dX12_object_35 rfl rfl ?_
        refine sv_bipush (d := (18 : Int)) hM dX12_object_36 rfl rfl ?_
        obtain ⟨o38, h⟩ := h
        obtain ⟨o39, h⟩ := h
        refine sv_callV hM dX12_object_38 sm_iv_666 (by decide) (sm_a0 _) rfl rfl (Nat.le_of_ble_eq_true rfl) sm_h83 (Nat.le_of_ble_eq_true rfl) (Nat.le_of_ble_eq_true rfl) (F' := 1) (sv_Fn (n := 1) o39) rfl (t_emit_ (18 : Int) (sv_sts (sv_up (sv_sts (sv_up (sv_up S 1100033 0 ((if (S 1047 0) = 0 then (S 1055 0) + 1 else 0))) 1100033 0 ((if (S 1047 0) = 0 then (S 1055 0) + 1 else 0))) [26, 27, 28, 29, 1046, 1047, 1100007, 1100023, 1100024, 1100025] g14) 1055 0 r19) [26, 27, 28, 29, 1046, 1047, 1100007, 1100023, 1100024, 1100025, 1053, 31, 1100030, 1100009, 1100027, 1100028, 1100026, 1055, 1100033, 39, 1066] g22) ok26 (⟨by decide, by decide⟩ : sv_R (18 : Int)) o38) (fun v S1 hq => ?_)
        obtain ⟨rfl, ok41, md42, hpo43⟩ := hq
        obtain ⟨g40, rfl⟩ : ∃ g, S1 = sv_sts (sv_sts (sv_up (sv_sts (sv_up (sv_up S 1100033 0 ((if (S 1047 0) = 0 then (S 1055 0) + 1 else 0))) 1100033 0 ((if (S 1047 0) = 0 then (S 1055 0) + 1 else 0))) [26, 27, 28, 29, 1046, 1047, 1100007, 1100023, 1100024, 1100025] g14) 1055 0 r19) [26, 27, 28, 29, 1046, 1047, 1100007, 1100023, 1100024, 1100025, 1053, 31, 1100030, 1100009, 1100027, 1100028, 1100026, 1055, 1100033, 39, 1066] g22) [26, 27, 28, 29, 1046, 1047, 1100007, 1100023, 1100024, 1100025] g := ⟨_, md42.eq⟩
        show sv_T sm_XS sm_cs sm_L sm_sh (((if p1 = -1 then 0 else (S 1100002 p1))) + (600 - (S 1046 0)) + 8).toNat (q_object p1 S) 100 41 [(0, .ref 0), (1, sv_I p1), (2, sv_I l2_23)] [] (sv_sts (sv_sts (sv_up (sv_sts (sv_up (sv_up S 1100033 0 ((if (S 1047 0) = 0 then (S 1055 0) + 1 else 0))) 1100033 0 ((if (S 1047 0) = 0 then (S 1055 0) + 1 else 0))) [26, 27, 28, 29, 1046, 1047, 1100007, 1100023, 1100024, 1100025] g14) 1055 0 r19) [26, 27, 28, 29, 1046, 1047, 1100007, 1100023, 1100024, 1100025, 1053, 31, 1100030, 1100009, 1100027, 1100028, 1100026, 1055, 1100033, 39, 1066] g22) [26, 27, 28, 29, 1046, 1047, 1100007, 1100023, 1100024, 1100025] g40)
        have md44 : sv_mod [26, 27, 28, 29, 1046, 1047, 1100007, 1100023, 1100024, 1100025, 1053, 31, 1100030, 1100009, 1100027, 1100028, 1100026, 1055, 1100033, 39, 1066] S (sv_sts (sv_sts (sv_up (sv_sts (sv_up (sv_up S 1100033 0 ((if (S 1047 0) = 0 then (S 1055 0) + 1 else 0))) 1100033 0 ((if (S 1047 0) = 0 then (S 1055 0) + 1 else 0))) [26, 27, 28, 29, 1046, 1047, 1100007, 1100023, 1100024, 1100025] g14) 1055 0 r19) [26, 27, 28, 29, 1046, 1047, 1100007, 1100023, 1100024, 1100025, 1053, 31, 1100030, 1100009, 1100027, 1100028, 1100026, 1055, 1100033, 39, 1066] g22) [26, 27, 28, 29, 1046, 1047, 1100007, 1100023, 1100024, 1100025] g40) := sv_mod.sts md27 (by decide)
        have md45 : sv_mod [26, 27, 28, 29, 1046, 1047, 1100007, 1100023, 1100024, 1100025, 1053, 31, 1100030, 1100009, 1100027, 1100028, 1100026, 1055, 1100033, 39, 1066] (sv_up (sv_sts (sv_up (sv_up S 1100033 0 ((if (S 1047 0) = 0 then (S 1055 0) + 1 else 0))) 1100033 0 ((if (S 1047 0) = 0 then (S 1055 0) + 1 else 0))) [26, 27, 28, 29, 1046, 1047, 1100007, 1100023, 1100024, 1100025] g14) 1055 0 r19) (sv_sts (sv_sts (sv_up (sv_sts (sv_up (sv_up S 1100033 0 ((if (S 1047 0) = 0 then (S 1055 0) + 1 else 0))) 1100033 0 ((if (S 1047 0) = 0 then (S 1055 0) + 1 else 0))) [26, 27, 28, 29, 1046, 1047, 1100007, 1100023, 1100024, 1100025] g14) 1055 0 r19) [26, 27, 28, 29, 1046, 1047, 1100007, 1100023, 1100024, 1100025, 1053, 31, 1100030, 1100009, 1100027, 1100028, 1100026, 1055, 1100033, 39, 1066] g22) [26, 27, 28, 29, 1046, 1047, 1100007, 1100023, 1100024, 1100025] g40) := sv_mod.sts md28 (by decide)
        have h := h g40 hpo43
        refine sv_aload_n hM dX12_object_41 rfl rfl ?_
        refine sv_bipush (d := (6 : Int)) hM dX12_object_42 rfl rfl ?_
        refine sv_aload_n hM dX12_object_44 rfl rfl ?_
        refine sv_iload_n hM dX12_object_45 rfl rfl ?_
        refine sv_iconst (d := (1 : Int)) hM dX12_object_46 rfl rfl ?_
        obtain ⟨o46, h⟩ := h
        refine sv_callV hM dX12_object_47 sm_iv_644 (by decide) (sm_a0 _) rfl rfl (Nat.le_of_ble_eq_true rfl) sm_h34 (Nat.le_of_ble_eq_true rfl) (Nat.le_of_ble_eq_true rfl) (F' := 0) (sv_Fn (n := 0) o13) rfl (t_part l2_23 (1 : Int) (sv_sts (sv_sts (sv_up (sv_sts (sv_up (sv_up S 1100033 0 ((if (S 1047 0) = 0 then (S 1055 0) + 1 else 0))) 1100033 0 ((if (S 1047 0) = 0 then (S 1055 0) + 1 else 0))) [26, 27, 28, 29, 1046, 1047, 1100007, 1100023, 1100024, 1100025] g14) 1055 0 r19) [26, 27, 28, 29, 1046, 1047, 1100007, 1100023, 1100024, 1100025, 1053, 31, 1100030, 1100009, 1100027, 1100028, 1100026, 1055, 1100033, 39, 1066] g22) [26, 27, 28, 29, 1046, 1047, 1100007, 1100023, 1100024, 1100025] g40) ok41 hl2_23 (⟨by decide, by decide⟩ : sv_R (1 : Int)) o46) (fun v S1 hq => ?_)
        obtain ⟨rfl, hS1⟩ := hq
        obtain rfl : (sv_sts (sv_sts (sv_up (sv_sts (sv_up (sv_up S 1100033 0 ((if (S 1047 0) = 0 then (S 1055 0) + 1 else 0))) 1100033 0 ((if (S 1047 0) = 0 then (S 1055 0) + 1 else 0))) [26, 27, 28, 29, 1046, 1047, 1100007, 1100023, 1100024, 1100025] g14) 1055 0 r19) [26, 27, 28, 29, 1046, 1047, 1100007, 1100023, 1100024, 1100025, 1053, 31, 1100030, 1100009, 1100027, 1100028, 1100026, 1055, 1100033, 39, 1066] g22) [26, 27, 28, 29, 1046, 1047, 1100007, 1100023, 1100024, 1100025] g40) = S1 := hS1.symm
        show sv_T sm_XS sm_cs sm_L sm_sh (((if p1 = -1 then 0 else (S 1100002 p1))) + (600 - (S 1046 0)) + 8).toNat (q_object p1 S) 100 50 [(0, .ref 0), (1, sv_I p1), (2, sv_I l2_23)] [sv_I ((S 12 (5 * l2_23 + (1 : Int)))), sv_I (6 : Int), .ref 0] (sv_sts (sv_sts (sv_up (sv_sts (sv_up (sv_up S 1100033 0 ((if (S 1047 0) = 0 then (S 1055 0) + 1 else 0))) 1100033 0 ((if (S 1047 0) = 0 then (S 1055 0) + 1 else 0))) [26, 27, 28, 29, 1046, 1047, 1100007, 1100023, 1100024, 1100025] g14) 1055 0 r19) [26, 27, 28, 29, 1046, 1047, 1100007, 1100023, 1100024, 1100025, 1053, 31, 1100030, 1100009, 1100027, 1100028, 1100026, 1055, 1100033, 39, 1066] g22) [26, 27, 28, 29, 1046, 1047, 1100007, 1100023, 1100024, 1100025] g40)
        obtain ⟨o47, h⟩ := h
        refine sv_callV hM dX12_object_50 sm_iv_656 (by decide) (sm_a0 _) rfl rfl (Nat.le_of_ble_eq_true rfl) sm_h90 (Nat.le_of_ble_eq_true rfl) (Nat.le_of_ble_eq_true rfl) (F' := 1) (sv_Fn (n := 1) o39) rfl (t_constant (6 : Int) ((S 12 (5 * l2_23 + (1 : Int)))) (sv_sts (sv_sts (sv_up (sv_sts (sv_up (sv_up S 1100033 0 ((if (S 1047 0) = 0 then (S 1055 0) + 1 else 0))) 1100033 0 ((if (S 1047 0) = 0 then (S 1055 0) + 1 else 0))) [26, 27, 28, 29, 1046, 1047, 1100007, 1100023, 1100024, 1100025] g14) 1055 0 r19) [26, 27, 28, 29, 1046, 1047, 1100007, 1100023, 1100024, 1100025, 1053, 31, 1100030, 1100009, 1100027, 1100028, 1100026, 1055, 1100033, 39, 1066] g22) [26, 27, 28, 29, 1046, 1047, 1100007, 1100023, 1100024, 1100025] g40) ok41 (⟨by decide, by decide⟩ : sv_R (6 : Int)) (sm_okI ok41 sm_r12 _) o47) (fun v S1 hq => ?_)
        obtain ⟨rfl, ok49, md50, hpo51⟩ := hq
        obtain ⟨g48, rfl⟩ : ∃ g, S1 = sv_sts (sv_sts (sv_sts (sv_up (sv_sts (sv_up (sv_up S 1100033 0 ((if (S 1047 0) = 0 then (S 1055 0) + 1 else 0))) 1100033 0 ((if (S 1047 0) = 0 then (S 1055 0) + 1 else 0))) [26, 27, 28, 29, 1046, 1047, 1100007, 1100023, 1100024, 1100025] g14) 1055 0 r19) [26, 27, 28, 29, 1046, 1047, 1100007, 1100023, 1100024, 1100025, 1053, 31, 1100030, 1100009, 1100027, 1100028, 1100026, 1055, 1100033, 39, 1066] g22) [26, 27, 28, 29, 1046, 1047, 1100007, 1100023, 1100024, 1100025] g40) [26, 27, 28, 29, 1046, 1047, 1100007, 1100023, 1100024, 1100025] g := ⟨_, md50.eq⟩
        show sv_T sm_XS sm_cs sm_L sm_sh (((if p1 = -1 then 0 else (S 1100002 p1))) + (600 - (S 1046 0)) + 8).toNat (q_object p1 S) 100 53 [(0, .ref 0), (1, sv_I p1), (2, sv_I l2_23)] [] (sv_sts (sv_sts (sv_sts (sv_up (sv_sts (sv_up (sv_up S 1100033 0 ((if (S 1047 0) = 0 then (S 1055 0) + 1 else 0))) 1100033 0 ((if (S 1047 0) = 0 then (S 1055 0) + 1 else 0))) [26, 27, 28, 29, 1046, 1047, 1100007, 1100023, 1100024, 1100025] g14) 1055 0 r19) [26, 27, 28, 29, 1046, 1047, 1100007, 1100023, 1100024, 1100025, 1053, 31, 1100030, 1100009, 1100027, 1100028, 1100026, 1055, 1100033, 39, 1066] g22) [26, 27, 28, 29, 1046, 1047, 1100007, 1100023, 1100024, 1100025] g40) [26, 27, 28, 29, 1046, 1047, 1100007, 1100023, 1100024, 1100025] g48)
        have md52 : sv_mod [26, 27, 28, 29, 1046, 1047, 1100007, 1100023, 1100024, 1100025, 1053, 31, 1100030, 1100009, 1100027, 1100028, 1100026, 1055, 1100033, 39, 1066] S (sv_sts (sv_sts (sv_sts (sv_up (sv_sts (sv_up (sv_up S 1100033 0 ((if (S 1047 0) = 0 then (S 1055 0) + 1 else 0))) 1100033 0 ((if (S 1047 0) = 0 then (S 1055 0) + 1 else 0))) [26, 27, 28, 29, 1046, 1047, 1100007, 1100023, 1100024, 1100025] g14) 1055 0 r19) [26, 27, 28, 29, 1046, 1047, 1100007, 1100023, 1100024, 1100025, 1053, 31, 1100030, 1100009, 1100027, 1100028, 1100026, 1055, 1100033, 39, 1066] g22) [26, 27, 28, 29, 1046, 1047, 1100007, 1100023, 1100024, 1100025] g40) [26, 27, 28, 29, 1046, 1047, 1100007, 1100023, 1100024, 1100025] g48) := sv_mod.sts md44 (by decide)
        have md53 : sv_mod [26, 27, 28, 29, 1046, 1047, 1100007, 1100023, 1100024, 1100025, 1053, 31, 1100030, 1100009, 1100027, 1100028, 1100026, 1055, 1100033, 39, 1066] (sv_up (sv_sts (sv_up (sv_up S 1100033 0 ((if (S 1047 0) = 0 then (S 1055 0) + 1 else 0))) 1100033 0 ((if (S 1047 0) = 0 then (S 1055 0) + 1 else 0))) [26, 27, 28, 29, 1046, 1047, 1100007, 1100023, 1100024, 1100025] g14) 1055 0 r19) (sv_sts (sv_sts (sv_sts (sv_up (sv_sts (sv_up (sv_up S 1100033 0 ((if (S 1047 0) = 0 then (S 1055 0) + 1 else 0))) 1100033 0 ((if (S 1047 0) = 0 then (S 1055 0) + 1 else 0))) [26, 27, 28, 29, 1046, 1047, 1100007, 1100023, 1100024, 1100025] g14) 1055 0 r19) [26, 27, 28, 29, 1046, 1047, 1100007, 1100023, 1100024, 1100025, 1053, 31, 1100030, 1100009, 1100027, 1100028, 1100026, 1055, 1100033, 39, 1066] g22) [26, 27, 28, 29, 1046, 1047, 1100007, 1100023, 1100024, 1100025] g40) [26, 27, 28, 29, 1046, 1047, 1100007, 1100023, 1100024, 1100025] g48) := sv_mod.sts md45 (by decide)
        have h := h g48 hpo51
        refine sv_aload_n hM dX12_object_53 rfl rfl ?_
        refine sv_aload_n hM dX12_object_54 rfl rfl ?_
        refine sv_iload_n hM dX12_object_55 rfl rfl ?_
        refine sv_iconst (d := (0 : Int)) hM dX12_object_56 rfl rfl ?_
        obtain ⟨o54, h⟩ := h
        refine sv_callV hM dX12_object_57 sm_iv_644 (by decide) (sm_a0 _) rfl rfl (Nat.le_of_ble_eq_true rfl) sm_h34 (Nat.le_of_ble_eq_true rfl) (Nat.le_of_ble_eq_true rfl) (F' := 0) (sv_Fn (n := 0) o13) rfl (t_part l2_23 (0 : Int) (sv_sts (sv_sts (sv_sts (sv_up (sv_sts (sv_up (sv_up S 1100033 0 ((if (S 1047 0) = 0 then (S 1055 0) + 1 else 0))) 1100033 0 ((if (S 1047 0) = 0 then (S 1055 0) + 1 else 0))) [26, 27, 28, 29, 1046, 1047, 1100007, 1100023, 1100024, 1100025] g14) 1055 0 r19) [26, 27, 28, 29, 1046, 1047, 1100007, 1100023, 1100024, 1100025, 1053, 31, 1100030, 1100009, 1100027, 1100028, 1100026, 1055, 1100033, 39, 1066] g22) [26, 27, 28, 29, 1046, 1047, 1100007, 1100023, 1100024, 1100025] g40) [26, 27, 28, 29, 1046, 1047, 1100007, 1100023, 1100024, 1100025] g48) ok49 hl2_23 (⟨by decide, by decide⟩ : sv_R (0 : Int)) o54) (fun v S1 hq => ?_)
        obtain ⟨rfl, hS1⟩ := hq
        obtain rfl : (sv_sts (sv_sts (sv_sts (sv_up (sv_sts (sv_up (sv_up S 1100033 0 ((if (S 1047 0) = 0 then (S 1055 0) + 1 else 0))) 1100033 0 ((if (S 1047 0) = 0 then (S 1055 0) + 1 else 0))) [26, 27, 28, 29, 1046, 1047, 1100007, 1100023, 1100024, 1100025] g14) 1055 0 r19) [26, 27, 28, 29, 1046, 1047, 1100007, 1100023, 1100024, 1100025, 1053, 31, 1100030, 1100009, 1100027, 1100028, 1100026, 1055, 1100033, 39, 1066] g22) [26, 27, 28, 29, 1046, 1047, 1100007, 1100023, 1100024, 1100025] g40) [26, 27, 28, 29, 1046, 1047, 1100007, 1100023, 1100024, 1100025] g48) = S1 := hS1.symm
        show sv_T sm_XS sm_cs sm_L sm_sh (((if p1 = -1 then 0 else (S 1100002 p1))) + (600 - (S 1046 0)) + 8).toNat (q_object p1 S) 100 60 [(0, .ref 0), (1, sv_I p1), (2, sv_I l2_23)] [sv_I ((S 12 (5 * l2_23 + (0 : Int)))), .ref 0] (sv_sts (sv_sts (sv_sts (sv_up (sv_sts (sv_up (sv_up S 1100033 0 ((if (S 1047 0) = 0 then (S 1055 0) + 1 else 0))) 1100033 0 ((if (S 1047 0) = 0 then (S 1055 0) + 1 else 0))) [26, 27, 28, 29, 1046, 1047, 1100007, 1100023, 1100024, 1100025] g14) 1055 0 r19) [26, 27, 28, 29, 1046, 1047, 1100007, 1100023, 1100024, 1100025, 1053, 31, 1100030, 1100009, 1100027, 1100028, 1100026, 1055, 1100033, 39, 1066] g22) [26, 27, 28, 29, 1046, 1047, 1100007, 1100023, 1100024, 1100025] g40) [26, 27, 28, 29, 1046, 1047, 1100007, 1100023, 1100024, 1100025] g48)
        obtain ⟨o55, h⟩ := h
        obtain ⟨o56, h⟩ := h
        obtain ⟨o57, h⟩ := h
        refine sv_callV hM dX12_object_60 sm_iv_668 (by decide) (sm_a0 _) rfl rfl (Nat.le_of_ble_eq_true rfl) sm_h96 (Nat.le_of_ble_eq_true rfl) (Nat.le_of_ble_eq_true rfl) (F' := (((if (g48 1047 0) = 0 then (S 1100002 ((S 12 (5 * l2_23 + (0 : Int))))) + (600 - (g48 1046 0)) + 8 else 4))).toNat) (sv_Fe o57) rfl ((IH ((if (g48 1047 0) = 0 then (S 1100002 ((S 12 (5 * l2_23 + (0 : Int))))) + (600 - (g48 1046 0)) + 8 else 4)) o56.1 o56.2).1 ((S 12 (5 * l2_23 + (0 : Int)))) (sv_sts (sv_sts (sv_sts (sv_up (sv_sts (sv_up (sv_up S 1100033 0 ((if (S 1047 0) = 0 then (S 1055 0) + 1 else 0))) 1100033 0 ((if (S 1047 0) = 0 then (S 1055 0) + 1 else 0))) [26, 27, 28, 29, 1046, 1047, 1100007, 1100023, 1100024, 1100025] g14) 1055 0 r19) [26, 27, 28, 29, 1046, 1047, 1100007, 1100023, 1100024, 1100025, 1053, 31, 1100030, 1100009, 1100027, 1100028, 1100026, 1055, 1100033, 39, 1066] g22) [26, 27, 28, 29, 1046, 1047, 1100007, 1100023, 1100024, 1100025] g40) [26, 27, 28, 29, 1046, 1047, 1100007, 1100023, 1100024, 1100025] g48) ok49 (sm_okI ok49 sm_r12 _) o55 rfl) (fun v S1 hq => ?_)
        obtain ⟨rfl, ok59, md60, hpo61⟩ := hq
        obtain ⟨g58, rfl⟩ : ∃ g, S1 = sv_sts (sv_sts (sv_sts (sv_sts (sv_up (sv_sts (sv_up (sv_up S 1100033 0 ((if (S 1047 0) = 0 then (S 1055 0) + 1 else 0))) 1100033 0 ((if (S 1047 0) = 0 then (S 1055 0) + 1 else 0))) [26, 27, 28, 29, 1046, 1047, 1100007, 1100023, 1100024, 1100025] g14) 1055 0 r19) [26, 27, 28, 29, 1046, 1047, 1100007, 1100023, 1100024, 1100025, 1053, 31, 1100030, 1100009, 1100027, 1100028, 1100026, 1055, 1100033, 39, 1066] g22) [26, 27, 28, 29, 1046, 1047, 1100007, 1100023, 1100024, 1100025] g40) [26, 27, 28, 29, 1046, 1047, 1100007, 1100023, 1100024, 1100025] g48) [26, 27, 28, 29, 1046, 1047, 1100007, 1100023, 1100024, 1100025, 1053, 31, 1100030, 1100009, 1100027, 1100028, 1100026, 1055, 1100033, 39, 1066] g := ⟨_, md60.eq⟩
        show sv_T sm_XS sm_cs sm_L sm_sh (((if p1 = -1 then 0 else (S 1100002 p1))) + (600 - (S 1046 0)) + 8).toNat (q_object p1 S) 100 63 [(0, .ref 0), (1, sv_I p1), (2, sv_I l2_23)] [] (sv_sts (sv_sts (sv_sts (sv_sts (sv_up (sv_sts (sv_up (sv_up S 1100033 0 ((if (S 1047 0) = 0 then (S 1055 0) + 1 else 0))) 1100033 0 ((if (S 1047 0) = 0 then (S 1055 0) + 1 else 0))) [26, 27, 28, 29, 1046, 1047, 1100007, 1100023, 1100024, 1100025] g14) 1055 0 r19) [26, 27, 28, 29, 1046, 1047, 1100007, 1100023, 1100024, 1100025, 1053, 31, 1100030, 1100009, 1100027, 1100028, 1100026, 1055, 1100033, 39, 1066] g22) [26, 27, 28, 29, 1046, 1047, 1100007, 1100023, 1100024, 1100025] g40) [26, 27, 28, 29, 1046, 1047, 1100007, 1100023, 1100024, 1100025] g48) [26, 27, 28, 29, 1046, 1047, 1100007, 1100023, 1100024, 1100025, 1053, 31, 1100030, 1100009, 1100027, 1100028, 1100026, 1055, 1100033, 39, 1066] g58)
        have md62 : sv_mod [26, 27, 28, 29, 1046, 1047, 1100007, 1100023, 1100024, 1100025, 1053, 31, 1100030, 1100009, 1100027, 1100028, 1100026, 1055, 1100033, 39, 1066] S (sv_sts (sv_sts (sv_sts (sv_sts (sv_up (sv_sts (sv_up (sv_up S 1100033 0 ((if (S 1047 0) = 0 then (S 1055 0) + 1 else 0))) 1100033 0 ((if (S 1047 0) = 0 then (S 1055 0) + 1 else 0))) [26, 27, 28, 29, 1046, 1047, 1100007, 1100023, 1100024, 1100025] g14) 1055 0 r19) [26, 27, 28, 29, 1046, 1047, 1100007, 1100023, 1100024, 1100025, 1053, 31, 1100030, 1100009, 1100027, 1100028, 1100026, 1055, 1100033, 39, 1066] g22) [26, 27, 28, 29, 1046, 1047, 1100007, 1100023, 1100024, 1100025] g40) [26, 27, 28, 29, 1046, 1047, 1100007, 1100023, 1100024, 1100025] g48) [26, 27, 28, 29, 1046, 1047, 1100007, 1100023, 1100024, 1100025, 1053, 31, 1100030, 1100009, 1100027, 1100028, 1100026, 1055, 1100033, 39, 1066] g58) := sv_mod.sts md52 (by decide)
        have md63 : sv_mod [26, 27, 28, 29, 1046, 1047, 1100007, 1100023, 1100024, 1100025, 1053, 31, 1100030, 1100009, 1100027, 1100028, 1100026, 1055, 1100033, 39, 1066] (sv_up (sv_sts (sv_up (sv_up S 1100033 0 ((if (S 1047 0) = 0 then (S 1055 0) + 1 else 0))) 1100033 0 ((if (S 1047 0) = 0 then (S 1055 0) + 1 else 0))) [26, 27, 28, 29, 1046, 1047, 1100007, 1100023, 1100024, 1100025] g14) 1055 0 r19) (sv_sts (sv_sts (sv_sts (sv_sts (sv_up (sv_sts (sv_up (sv_up S 1100033 0 ((if (S 1047 0) = 0 then (S 1055 0) + 1 else 0))) 1100033 0 ((if (S 1047 0) = 0 then (S 1055 0) + 1 else 0))) [26, 27, 28, 29, 1046, 1047, 1100007, 1100023, 1100024, 1100025] g14) 1055 0 r19) [26, 27, 28, 29, 1046, 1047, 1100007, 1100023, 1100024, 1100025, 1053, 31, 1100030, 1100009, 1100027, 1100028, 1100026, 1055, 1100033, 39, 1066] g22) [26, 27, 28, 29, 1046, 1047, 1100007, 1100023, 1100024, 1100025] g40) [26, 27, 28, 29, 1046, 1047, 1100007, 1100023, 1100024, 1100025] g48) [26, 27, 28, 29, 1046, 1047, 1100007, 1100023, 1100024, 1100025, 1053, 31, 1100030, 1100009, 1100027, 1100028, 1100026, 1055, 1100033, 39, 1066] g58) := sv_mod.sts md53 (by decide)
        have h := h g58 hpo61
        refine sv_aload_n hM dX12_object_63 rfl rfl ?_
        refine sv_bipush (d := (11 : Int)) hM dX12_object_64 rfl rfl ?_
        obtain ⟨o64, h⟩ := h
        refine sv_callV hM dX12_object_66 sm_iv_666 (by decide) (sm_a0 _) rfl rfl (Nat.le_of_ble_eq_true rfl) sm_h83 (Nat.le_of_ble_eq_true rfl) (Nat.le_of_ble_eq_true rfl) (F' := 1) (sv_Fn (n := 1) o39) rfl (t_emit_ (11 : Int) (sv_sts (sv_sts (sv_sts (sv_sts (sv_up (sv_sts (sv_up (sv_up S 1100033 0 ((if (S 1047 0) = 0 then (S 1055 0) + 1 else 0))) 1100033 0 ((if (S 1047 0) = 0 then (S 1055 0) + 1 else 0))) [26, 27, 28, 29, 1046, 1047, 1100007, 1100023, 1100024, 1100025] g14) 1055 0 r19) [26, 27, 28, 29, 1046, 1047, 1100007, 1100023, 1100024, 1100025, 1053, 31, 1100030, 1100009, 1100027, 1100028, 1100026, 1055, 1100033, 39, 1066] g22) [26, 27, 28, 29, 1046, 1047, 1100007, 1100023, 1100024, 1100025] g40) [26, 27, 28, 29, 1046, 1047, 1100007, 1100023, 1100024, 1100025] g48) [26, 27, 28, 29, 1046, 1047, 1100007, 1100023, 1100024, 1100025, 1053, 31, 1100030, 1100009, 1100027, 1100028, 1100026, 1055, 1100033, 39, 1066] g58) ok59 (⟨by decide, by decide⟩ : sv_R (11 : Int)) o64) (fun v S1 hq => ?_)
        obtain ⟨rfl, ok66, md67, hpo68⟩ := hq
        obtain ⟨g65, rfl⟩ : ∃ g, S1 = sv_sts (sv_sts (sv_sts (sv_sts (sv_sts (sv_up (sv_sts (sv_up (sv_up S 1100033 0 ((if (S 1047 0) = 0 then (S 1055 0) + 1 else 0))) 1100033 0 ((if (S 1047 0) = 0 then (S 1055 0) + 1 else 0))) [26, 27, 28, 29, 1046, 1047, 1100007, 1100023, 1100024, 1100025] g14) 1055 0 r19) [26, 27, 28, 29, 1046, 1047, 1100007, 1100023, 1100024, 1100025, 1053, 31, 1100030, 1100009, 1100027, 1100028, 1100026, 1055, 1100033, 39, 1066] g22) [26, 27, 28, 29, 1046, 1047, 1100007, 1100023, 1100024, 1100025] g40) [26, 27, 28, 29, 1046, 1047, 1100007, 1100023, 1100024, 1100025] g48) [26, 27, 28, 29, 1046, 1047, 1100007, 1100023, 1100024, 1100025, 1053, 31, 1100030, 1100009, 1100027, 1100028, 1100026, 1055, 1100033, 39, 1066] g58) [26, 27, 28, 29, 1046, 1047, 1100007, 1100023, 1100024, 1100025] g := ⟨_, md67.eq⟩
        show sv_T sm_XS sm_cs sm_L sm_sh (((if p1 = -1 then 0 else (S 1100002 p1))) + (600 - (S 1046 0)) + 8).toNat (q_object p1 S) 100 69 [(0, .ref 0), (1, sv_I p1), (2, sv_I l2_23)] [] (sv_sts (sv_sts (sv_sts (sv_sts (sv_sts (sv_up (sv_sts (sv_up (sv_up S 1100033 0 ((if (S 1047 0) = 0 then (S 1055 0) + 1 else 0))) 1100033 0 ((if (S 1047 0) = 0 then (S 1055 0) + 1 else 0))) [26, 27, 28, 29, 1046, 1047, 1100007, 1100023, 1100024, 1100025] g14) 1055 0 r19) [26, 27, 28, 29, 1046, 1047, 1100007, 1100023, 1100024, 1100025, 1053, 31, 1100030, 1100009, 1100027, 1100028, 1100026, 1055, 1100033, 39, 1066] g22) [26, 27, 28, 29, 1046, 1047, 1100007, 1100023, 1100024, 1100025] g40) [26, 27, 28, 29, 1046, 1047, 1100007, 1100023, 1100024, 1100025] g48) [26, 27, 28, 29, 1046, 1047, 1100007, 1100023, 1100024, 1100025, 1053, 31, 1100030, 1100009, 1100027, 1100028, 1100026, 1055, 1100033, 39, 1066] g58) [26, 27, 28, 29, 1046, 1047, 1100007, 1100023, 1100024, 1100025] g65)
        have md69 : sv_mod [26, 27, 28, 29, 1046, 1047, 1100007, 1100023, 1100024, 1100025, 1053, 31, 1100030, 1100009, 1100027, 1100028, 1100026, 1055, 1100033, 39, 1066] S (sv_sts (sv_sts (sv_sts (sv_sts (sv_sts (sv_up (sv_sts (sv_up (sv_up S 1100033 0 ((if (S 1047 0) = 0 then (S 1055 0) + 1 else 0))) 1100033 0 ((if (S 1047 0) = 0 then (S 1055 0) + 1 else 0))) [26, 27, 28, 29, 1046, 1047, 1100007, 1100023, 1100024, 1100025] g14) 1055 0 r19) [26, 27, 28, 29, 1046, 1047, 1100007, 1100023, 1100024, 1100025, 1053, 31, 1100030, 1100009, 1100027, 1100028, 1100026, 1055, 1100033, 39, 1066] g22) [26, 27, 28, 29, 1046, 1047, 1100007, 1100023, 1100024, 1100025] g40) [26, 27, 28, 29, 1046, 1047, 1100007, 1100023, 1100024, 1100025] g48) [26, 27, 28, 29, 1046, 1047, 1100007, 1100023, 1100024, 1100025, 1053, 31, 1100030, 1100009, 1100027, 1100028, 1100026, 1055, 1100033, 39, 1066] g58) [26, 27, 28, 29, 1046, 1047, 1100007, 1100023, 1100024, 1100025] g65) := sv_mod.sts md62 (by decide)
        have md70 : sv_mod [26, 27, 28, 29, 1046, 1047, 1100007, 1100023, 1100024, 1100025, 1053, 31, 1100030, 1100009, 1100027, 1100028, 1100026, 1055, 1100033, 39, 1066] (sv_up (sv_sts (sv_up (sv_up S 1100033 0 ((if (S 1047 0) = 0 then (S 1055 0) + 1 else 0))) 1100033 0 ((if (S 1047 0) = 0 then (S 1055 0) + 1 else 0))) [26, 27, 28, 29, 1046, 1047, 1100007, 1100023, 1100024, 1100025] g14) 1055 0 r19) (sv_sts (sv_sts (sv_sts (sv_sts (sv_sts (sv_up (sv_sts (sv_up (sv_up S 1100033 0 ((if (S 1047 0) = 0 then (S 1055 0) + 1 else 0))) 1100033 0 ((if (S 1047 0) = 0 then (S 1055 0) + 1 else 0))) [26, 27, 28, 29, 1046, 1047, 1100007, 1100023, 1100024, 1100025] g14) 1055 0 r19) [26, 27, 28, 29, 1046, 1047, 1100007, 1100023, 1100024, 1100025, 1053, 31, 1100030, 1100009, 1100027, 1100028, 1100026, 1055, 1100033, 39, 1066] g22) [26, 27, 28, 29, 1046, 1047, 1100007, 1100023, 1100024, 1100025] g40) [26, 27, 28, 29, 1046, 1047, 1100007, 1100023, 1100024, 1100025] g48) [26, 27, 28, 29, 1046, 1047, 1100007, 1100023, 1100024, 1100025, 1053, 31, 1100030, 1100009, 1100027, 1100028, 1100026, 1055, 1100033, 39, 1066] g58) [26, 27, 28, 29, 1046, 1047, 1100007, 1100023, 1100024, 1100025] g65) := sv_mod.sts md63 (by decide)
        have h := h g65 hpo68
        refine sv_aload_n hM dX12_object_69 rfl rfl ?_
        refine sv_bipush (d := (17 : Int)) hM dX12_object_70 rfl rfl ?_
        obtain ⟨o71, h⟩ := h
        refine sv_callV hM dX12_object_72 sm_iv_666 (by decide) (sm_a0 _) rfl rfl (Nat.le_of_ble_eq_true rfl) sm_h83 (Nat.le_of_ble_eq_true rfl) (Nat.le_of_ble_eq_true rfl) (F' := 1) (sv_Fn (n := 1) o39) rfl (t_emit_ (17 : Int) (sv_sts (sv_sts (sv_sts (sv_sts (sv_sts (sv_up (sv_sts (sv_up (sv_up S 1100033 0 ((if (S 1047 0) = 0 then (S 1055 0) + 1 else 0))) 1100033 0 ((if (S 1047 0) = 0 then (S 1055 0) + 1 else 0))) [26, 27, 28, 29, 1046, 1047, 1100007, 1100023, 1100024, 1100025] g14) 1055 0 r19) [26, 27, 28, 29, 1046, 1047, 1100007, 1100023, 1100024, 1100025, 1053, 31, 1100030, 1100009, 1100027, 1100028, 1100026, 1055, 1100033, 39, 1066] g22) [26, 27, 28, 29, 1046, 1047, 1100007, 1100023, 1100024, 1100025] g40) [26, 27, 28, 29, 1046, 1047, 1100007, 1100023, 1100024, 1100025] g48) [26, 27, 28, 29, 1046, 1047, 1100007, 1100023, 1100024, 1100025, 1053, 31, 1100030, 1100009, 1100027, 1100028, 1100026, 1055, 1100033, 39, 1066] g58) [26, 27, 28, 29, 1046, 1047, 1100007, 1100023, 1100024, 1100025] g65) ok66 (⟨by decide, by decide⟩ : sv_R (17 : Int)) o71) (fun v S1 hq => ?_)
        obtain ⟨rfl, ok73, md74, hpo75⟩ := hq
        obtain ⟨g72, rfl⟩ : ∃ g, S1 = sv_sts (sv_sts (sv_sts (sv_sts (sv_sts (sv_sts (sv_up (sv_sts (sv_up (sv_up S 1100033 0 ((if (S 1047 0) = 0 then (S 1055 0) + 1 else 0))) 1100033 0 ((if (S 1047 0) = 0 then (S 1055 0) + 1 else 0))) [26, 27, 28, 29, 1046, 1047, 1100007, 1100023, 1100024, 1100025] g14) 1055 0 r19) [26, 27, 28, 29, 1046, 1047, 1100007, 1100023, 1100024, 1100025, 1053, 31, 1100030, 1100009, 1100027, 1100028, 1100026, 1055, 1100033, 39, 1066] g22) [26, 27, 28, 29, 1046, 1047, 1100007, 1100023, 1100024, 1100025] g40) [26, 27, 28, 29, 1046, 1047, 1100007, 1100023, 1100024, 1100025] g48) [26, 27, 28, 29, 1046, 1047, 1100007, 1100023, 1100024, 1100025, 1053, 31, 1100030, 1100009, 1100027, 1100028, 1100026, 1055, 1100033, 39, 1066] g58) [26, 27, 28, 29, 1046, 1047, 1100007, 1100023, 1100024, 1100025] g65) [26, 27, 28, 29, 1046, 1047, 1100007, 1100023, 1100024, 1100025] g := ⟨_, md74.eq⟩
        show sv_T sm_XS sm_cs sm_L sm_sh (((if p1 = -1 then 0 else (S 1100002 p1))) + (600 - (S 1046 0)) + 8).toNat (q_object p1 S) 100 75 [(0, .ref 0), (1, sv_I p1), (2, sv_I l2_23)] [] (sv_sts (sv_sts (sv_sts (sv_sts (sv_sts (sv_sts (sv_up (sv_sts (sv_up (sv_up S 1100033 0 ((if (S 1047 0) = 0 then (S 1055 0) + 1 else 0))) 1100033 0 ((if (S 1047 0) = 0 then (S 1055 0) + 1 else 0))) [26, 27, 28, 29, 1046, 1047, 1100007, 1100023, 1100024, 1100025] g14) 1055 0 r19) [26, 27, 28, 29, 1046, 1047, 1100007, 1100023, 1100024, 1100025, 1053, 31, 1100030, 1100009, 1100027, 1100028, 1100026, 1055, 1100033, 39, 1066] g22) [26, 27, 28, 29, 1046, 1047, 1100007, 1100023, 1100024, 1100025] g40) [26, 27, 28, 29, 1046, 1047, 1100007, 1100023, 1100024, 1100025] g48) [26, 27, 28, 29, 1046, 1047, 1100007, 1100023, 1100024, 1100025, 1053, 31, 1100030, 1100009, 1100027, 1100028, 1100026, 1055, 1100033, 39, 1066] g58) [26, 27, 28, 29, 1046, 1047, 1100007, 1100023, 1100024, 1100025] g65) [26, 27, 28, 29, 1046, 1047, 1100007, 1100023, 1100024, 1100025] g72)
        have md76 : sv_mod [26, 27, 28, 29, 1046, 1047, 1100007, 1100023, 1100024, 1100025, 1053, 31, 1100030, 1100009, 1100027, 1100028, 1100026, 1055, 1100033, 39, 1066] S (sv_sts (sv_sts (sv_sts (sv_sts (sv_sts (sv_sts (sv_up (sv_sts (sv_up (sv_up S 1100033 0 ((if (S 1047 0) = 0 then (S 1055 0) + 1 else 0))) 1100033 0 ((if (S 1047 0) = 0 then (S 1055 0) + 1 else 0))) [26, 27, 28, 29, 1046, 1047, 1100007, 1100023, 1100024, 1100025] g14) 1055 0 r19) [26, 27, 28, 29, 1046, 1047, 1100007, 1100023, 1100024, 1100025, 1053, 31, 1100030, 1100009, 1100027, 1100028, 1100026, 1055, 1100033, 39, 1066] g22) [26, 27, 28, 29, 1046, 1047, 1100007, 1100023, 1100024, 1100025] g40) [26, 27, 28, 29, 1046, 1047, 1100007, 1100023, 1100024, 1100025] g48) [26, 27, 28, 29, 1046, 1047, 1100007, 1100023, 1100024, 1100025, 1053, 31, 1100030, 1100009, 1100027, 1100028, 1100026, 1055, 1100033, 39, 1066] g58) [26, 27, 28, 29, 1046, 1047, 1100007, 1100023, 1100024, 1100025] g65) [26, 27, 28, 29, 1046, 1047, 1100007, 1100023, 1100024, 1100025] g72) := sv_mod.sts md69 (by decide)
        have md77 : sv_mod [26, 27, 28, 29, 1046, 1047, 1100007, 1100023, 1100024, 1100025, 1053, 31, 1100030, 1100009, 1100027, 1100028, 1100026, 1055, 1100033, 39, 1066] (sv_up (sv_sts (sv_up (sv_up S 1100033 0 ((if (S 1047 0) = 0 then (S 1055 0) + 1 else 0))) 1100033 0 ((if (S 1047 0) = 0 then (S 1055 0) + 1 else 0))) [26, 27, 28, 29, 1046, 1047, 1100007, 1100023, 1100024, 1100025] g14) 1055 0 r19) (sv_sts (sv_sts (sv_sts (sv_sts (sv_sts (sv_sts (sv_up (sv_sts (sv_up (sv_up S 1100033 0 ((if (S 1047 0) = 0 then (S 1055 0) + 1 else 0))) 1100033 0 ((if (S 1047 0) = 0 then (S 1055 0) + 1 else 0))) [26, 27, 28, 29, 1046, 1047, 1100007, 1100023, 1100024, 1100025] g14) 1055 0 r19) [26, 27, 28, 29, 1046, 1047, 1100007, 1100023, 1100024, 1100025, 1053, 31, 1100030, 1100009, 1100027, 1100028, 1100026, 1055, 1100033, 39, 1066] g22) [26, 27, 28, 29, 1046, 1047, 1100007, 1100023, 1100024, 1100025] g40) [26, 27, 28, 29, 1046, 1047, 1100007, 1100023, 1100024, 1100025] g48) [26, 27, 28, 29, 1046, 1047, 1100007, 1100023, 1100024, 1100025, 1053, 31, 1100030, 1100009, 1100027, 1100028, 1100026, 1055, 1100033, 39, 1066] g58) [26, 27, 28, 29, 1046, 1047, 1100007, 1100023, 1100024, 1100025] g65) [26, 27, 28, 29, 1046, 1047, 1100007, 1100023, 1100024, 1100025] g72) := sv_mod.sts md70 (by decide)
        have h := h g72 hpo75
        refine sv_aload_n hM dX12_object_75 rfl rfl ?_
        refine sv_getA hM dX12_object_76 sm_fl_49 (sm_a0 _) sm_k27 rfl ?_
        refine sv_iload_n hM dX12_object_79 rfl rfl ?_
        obtain ⟨o78, h⟩ := h
        have k79 : sv_R (S 13 l2_23) := sm_okI ok73 sm_r13 l2_23
        have h := h k79
        refine sv_iald hM dX12_object_80 (sm_a13 _) (by decide) o78.1 o78.2 rfl (x := (S 13 l2_23)) rfl ?_
        refine sv_istore_n hM dX12_object_81 (by decide) rfl ?_
        show sv_T sm_XS sm_cs sm_L sm_sh (((if p1 = -1 then 0 else (S 1100002 p1))) + (600 - (S 1046 0)) + 8).toNat (q_object p1 S) 100 82 [(0, .ref 0), (1, sv_I p1), (2, sv_I (S 13 l2_23))] [] (sv_sts (sv_sts (sv_sts (sv_sts (sv_sts (sv_sts (sv_up (sv_sts (sv_up (sv_up S 1100033 0 ((if (S 1047 0) = 0 then (S 1055 0) + 1 else 0))) 1100033 0 ((if (S 1047 0) = 0 then (S 1055 0) + 1 else 0))) [26, 27, 28, 29, 1046, 1047, 1100007, 1100023, 1100024, 1100025] g14) 1055 0 r19) [26, 27, 28, 29, 1046, 1047, 1100007, 1100023, 1100024, 1100025, 1053, 31, 1100030, 1100009, 1100027, 1100028, 1100026, 1055, 1100033, 39, 1066] g22) [26, 27, 28, 29, 1046, 1047, 1100007, 1100023, 1100024, 1100025] g40) [26, 27, 28, 29, 1046, 1047, 1100007, 1100023, 1100024, 1100025] g48) [26, 27, 28, 29, 1046, 1047, 1100007, 1100023, 1100024, 1100025, 1053, 31, 1100030, 1100009, 1100027, 1100028, 1100026, 1055, 1100033, 39, 1066] g58) [26, 27, 28, 29, 1046, 1047, 1100007, 1100023, 1100024, 1100025] g65) [26, 27, 28, 29, 1046, 1047, 1100007, 1100023, 1100024, 1100025] g72)
        refine sv_goto hM dX12_object_82 (pc' := 23) rfl ?_
        have eS := sv_mod.eq md77
        have hb := ih24 ((S 13 l2_23), (sv_sts (sv_sts (sv_sts (sv_sts (sv_sts (sv_sts (sv_up (sv_sts (sv_up (sv_up S 1100033 0 ((if (S 1047 0) = 0 then (S 1055 0) + 1 else 0))) 1100033 0 ((if (S 1047 0) = 0 then (S 1055 0) + 1 else 0))) [26, 27, 28, 29, 1046, 1047, 1100007, 1100023, 1100024, 1100025] g14) 1055 0 r19) [26, 27, 28, 29, 1046, 1047, 1100007, 1100023, 1100024, 1100025, 1053, 31, 1100030, 1100009, 1100027, 1100028, 1100026, 1055, 1100033, 39, 1066] g22) [26, 27, 28, 29, 1046, 1047, 1100007, 1100023, 1100024, 1100025] g40) [26, 27, 28, 29, 1046, 1047, 1100007, 1100023, 1100024, 1100025] g48) [26, 27, 28, 29, 1046, 1047, 1100007, 1100023, 1100024, 1100025, 1053, 31, 1100030, 1100009, 1100027, 1100028, 1100026, 1055, 1100033, 39, 1066] g58) [26, 27, 28, 29, 1046, 1047, 1100007, 1100023, 1100024, 1100025] g65) [26, 27, 28, 29, 1046, 1047, 1100007, 1100023, 1100024, 1100025] g72)) ⟨k79, (by rw [← eS]; exact ok73), h.1⟩ h.2
        have hb : sv_T sm_XS sm_cs sm_L sm_sh (((if p1 = -1 then 0 else (S 1100002 p1))) + (600 - (S 1046 0)) + 8).toNat (q_object p1 S) 100 23 [(0, .ref 0), (1, sv_I p1), (2, sv_I (S 13 l2_23))] [] (sv_sts (sv_sts (sv_sts (sv_sts (sv_sts (sv_sts (sv_up (sv_sts (sv_up (sv_up S 1100033 0 ((if (S 1047 0) = 0 then (S 1055 0) + 1 else 0))) 1100033 0 ((if (S 1047 0) = 0 then (S 1055 0) + 1 else 0))) [26, 27, 28, 29, 1046, 1047, 1100007, 1100023, 1100024, 1100025] g14) 1055 0 r19) [26, 27, 28, 29, 1046, 1047, 1100007, 1100023, 1100024, 1100025, 1053, 31, 1100030, 1100009, 1100027, 1100028, 1100026, 1055, 1100033, 39, 1066] g22) [26, 27, 28, 29, 1046, 1047, 1100007, 1100023, 1100024, 1100025] g40) [26, 27, 28, 29, 1046, 1047, 1100007, 1100023, 1100024, 1100025] g48) [26, 27, 28, 29, 1046, 1047, 1100007, 1100023, 1100024, 1100025, 1053, 31, 1100030, 1100009, 1100027, 1100028, 1100026, 1055, 1100033, 39, 1066] g58) [26, 27, 28, 29, 1046, 1047, 1100007, 1100023, 1100024, 1100025] g65) [26, 27, 28, 29, 1046, 1047, 1100007, 1100023, 1100024, 1100025] g72) := Eq.mpr (congrArg (fun Z => sv_T sm_XS sm_cs sm_L sm_sh (((if p1 = -1 then 0 else (S 1100002 p1))) + (600 - (S 1046 0)) + 8).toNat (q_object p1 S) 100 23 [(0, .ref 0), (1, sv_I p1), (2, sv_I (S 13 l2_23))] [] Z) eS) hb
        exact sv_less (lv := [(0, .ref 0), (1, sv_I p1), (2, sv_I (S 13 l2_23))]) (sv_Sub_cons rfl (sv_Sub_cons rfl (sv_Sub_cons rfl sv_Sub_nil))) hb
  have eS := sv_mod.eq (sv_mod.rf (l := [26, 27, 28, 29, 1046, 1047, 1100007, 1100023, 1100024, 1100025, 1053, 31, 1100030, 1100009, 1100027, 1100028, 1100026, 1055, 1100033, 39, 1066]) (S := (sv_up (sv_sts (sv_up (sv_up S 1100033 0 ((if (S 1047 0) = 0 then (S 1055 0) + 1 else 0))) 1100033 0 ((if (S 1047 0) = 0 then (S 1055 0) + 1 else 0))) [26, 27, 28, 29, 1046, 1047, 1100007, 1100023, 1100024, 1100025] g14) 1055 0 r19)))
  have hb := hJ (p1, (sv_up (sv_sts (sv_up (sv_up S 1100033 0 ((if (S 1047 0) = 0 then (S 1055 0) + 1 else 0))) 1100033 0 ((if (S 1047 0) = 0 then (S 1055 0) + 1 else 0))) [26, 27, 28, 29, 1046, 1047, 1100007, 1100023, 1100024, 1100025] g14) 1055 0 r19)) ⟨hp1, (by rw [← eS]; exact ok20), hin25⟩
  have hb : sv_T sm_XS sm_cs sm_L sm_sh (((if p1 = -1 then 0 else (S 1100002 p1))) + (600 - (S 1046 0)) + 8).toNat (q_object p1 S) 100 23 [(0, .ref 0), (1, sv_I p1), (2, sv_I p1)] [] (sv_up (sv_sts (sv_up (sv_up S 1100033 0 ((if (S 1047 0) = 0 then (S 1055 0) + 1 else 0))) 1100033 0 ((if (S 1047 0) = 0 then (S 1055 0) + 1 else 0))) [26, 27, 28, 29, 1046, 1047, 1100007, 1100023, 1100024, 1100025] g14) 1055 0 r19) := Eq.mpr (congrArg (fun Z => sv_T sm_XS sm_cs sm_L sm_sh (((if p1 = -1 then 0 else (S 1100002 p1))) + (600 - (S 1046 0)) + 8).toNat (q_object p1 S) 100 23 [(0, .ref 0), (1, sv_I p1), (2, sv_I p1)] [] Z) eS) hb
  exact hb
