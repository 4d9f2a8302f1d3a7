theorem dX12_row_0 : decode cX12_row 0 = .ok (.aload_n 0, 1) := by decide +kernel
theorem dX12_row_1 : decode cX12_row 1 = .ok (.bipush 8, 2) := by decide +kernel
theorem dX12_row_3 : decode cX12_row 3 = .ok (.aload_n 0, 1) := by decide +kernel
theorem dX12_row_4 : decode cX12_row 4 = .ok (.getfield 689, 3) := by decide +kernel
theorem dX12_row_7 : decode cX12_row 7 = .ok (.iconst 0, 1) := by decide +kernel
theorem dX12_row_8 : decode cX12_row 8 = .ok (.invokevirtual 615, 3) := by decide +kernel
theorem dX12_row_11 : decode cX12_row 11 = .ok (.aload_n 0, 1) := by decide +kernel
theorem dX12_row_12 : decode cX12_row 12 = .ok (.dup, 1) := by decide +kernel
theorem dX12_row_13 : decode cX12_row 13 = .ok (.getfield 689, 3) := by decide +kernel
theorem dX12_row_16 : decode cX12_row 16 = .ok (.iconst 1, 1) := by decide +kernel
theorem dX12_row_17 : decode cX12_row 17 = .ok (.iadd, 1) := by decide +kernel
theorem dX12_row_18 : decode cX12_row 18 = .ok (.putfield 689, 3) := by decide +kernel
theorem dX12_row_21 : decode cX12_row 21 = .ok (.iconst 0, 1) := by decide +kernel
theorem dX12_row_22 : decode cX12_row 22 = .ok (.istore_n 2, 1) := by decide +kernel
theorem dX12_row_23 : decode cX12_row 23 = .ok (.iload_n 1, 1) := by decide +kernel
theorem dX12_row_24 : decode cX12_row 24 = .ok (.istore_n 3, 1) := by decide +kernel
theorem dX12_row_25 : decode cX12_row 25 = .ok (.iload_n 3, 1) := by decide +kernel
theorem dX12_row_26 : decode cX12_row 26 = .ok (.iconst (-1), 1) := by decide +kernel
theorem dX12_row_27 : decode cX12_row 27 = .ok (.if_icmp .eq 57, 3) := by decide +kernel
theorem dX12_row_30 : decode cX12_row 30 = .ok (.aload_n 0, 1) := by decide +kernel
theorem dX12_row_31 : decode cX12_row 31 = .ok (.getfield 609, 3) := by decide +kernel
theorem dX12_row_34 : decode cX12_row 34 = .ok (.ifCond .ne 50, 3) := by decide +kernel
theorem dX12_row_37 : decode cX12_row 37 = .ok (.aload_n 0, 1) := by decide +kernel
theorem dX12_row_38 : decode cX12_row 38 = .ok (.bipush 18, 2) := by decide +kernel
theorem dX12_row_40 : decode cX12_row 40 = .ok (.invokevirtual 666, 3) := by decide +kernel
theorem dX12_row_43 : decode cX12_row 43 = .ok (.aload_n 0, 1) := by decide +kernel
theorem dX12_row_44 : decode cX12_row 44 = .ok (.iconst 5, 1) := by decide +kernel
theorem dX12_row_45 : decode cX12_row 45 = .ok (.iload_n 2, 1) := by decide +kernel
theorem dX12_row_46 : decode cX12_row 46 = .ok (.invokevirtual 656, 3) := by decide +kernel
theorem dX12_row_49 : decode cX12_row 49 = .ok (.aload_n 0, 1) := by decide +kernel
theorem dX12_row_50 : decode cX12_row 50 = .ok (.aload_n 0, 1) := by decide +kernel
theorem dX12_row_51 : decode cX12_row 51 = .ok (.iload_n 3, 1) := by decide +kernel
theorem dX12_row_52 : decode cX12_row 52 = .ok (.iconst 0, 1) := by decide +kernel
theorem dX12_row_53 : decode cX12_row 53 = .ok (.invokevirtual 644, 3) := by decide +kernel
theorem dX12_row_56 : decode cX12_row 56 = .ok (.invokevirtual 668, 3) := by decide +kernel
theorem dX12_row_59 : decode cX12_row 59 = .ok (.aload_n 0, 1) := by decide +kernel
theorem dX12_row_60 : decode cX12_row 60 = .ok (.bipush 11, 2) := by decide +kernel
theorem dX12_row_62 : decode cX12_row 62 = .ok (.invokevirtual 666, 3) := by decide +kernel
theorem dX12_row_65 : decode cX12_row 65 = .ok (.aload_n 0, 1) := by decide +kernel
theorem dX12_row_66 : decode cX12_row 66 = .ok (.bipush 17, 2) := by decide +kernel
theorem dX12_row_68 : decode cX12_row 68 = .ok (.invokevirtual 666, 3) := by decide +kernel
theorem dX12_row_71 : decode cX12_row 71 = .ok (.iinc 2 1, 3) := by decide +kernel
theorem dX12_row_74 : decode cX12_row 74 = .ok (.aload_n 0, 1) := by decide +kernel
theorem dX12_row_75 : decode cX12_row 75 = .ok (.getfield 49, 3) := by decide +kernel
theorem dX12_row_78 : decode cX12_row 78 = .ok (.iload_n 3, 1) := by decide +kernel
theorem dX12_row_79 : decode cX12_row 79 = .ok (.iaload, 1) := by decide +kernel
theorem dX12_row_80 : decode cX12_row 80 = .ok (.istore_n 3, 1) := by decide +kernel
theorem dX12_row_81 : decode cX12_row 81 = .ok (.goto (-56), 3) := by decide +kernel
theorem dX12_row_84 : decode cX12_row 84 = .ok (.return_, 1) := by decide +kernel

theorem la_row_0 {x0 x1 x2 : Int} (h0 : x0 ≤ 600) (h1 : 0 ≤ x1) (h2 : x1 ≤ x0) (h3 : x2 = x1 + 1) : sv_R x2 := by omega
theorem la_row_1 {x0 x1 : Int} (h0 : x0 ≤ 600) (h1 : x1 ≤ x0) : x1 ≤ 600 := by omega
theorem la_row_2 {x0 x1 : Int} (h0 : x0 = x1 + 1) : ¬ x0 = x1 := by omega
theorem la_row_3 : (0 : Int) ≤ 8 := by omega
theorem la_row_4 : (8 : Int) ≤ 30 := by omega
theorem la_row_5 {x0 x1 x2 x3 x4 x5 x6 x7 x8 x9 : Int} (h0 : 0 ≤ x0) (h1 : 0 ≤ x1) (h2 : 0 ≤ x2 → x3 ≤ x0) (h3 : 0 ≤ x4 → x5 ≤ x0) (h4 : x6 = x1 + 1) (h5 : x7 = 1) (h6 : x8 = x2) (h7 : x9 = x4) : (0 ≤ x1 ∧ x1 < x6) ∧ (0 ≤ x0 ∧ (0 ≤ x2 → x3 ≤ x0) ∧ (0 ≤ x4 → x5 ≤ x0)) ∧ x0 + x7 = x0 + 1 ∧ x8 = x2 ∧ x9 = x4 := by omega
theorem la_row_6 {x0 x1 x2 x3 : Int} : (21 : Int) ≤ 8 ∧ (8 : Int) ≤ 24 ∨ (8 : Int) = 27 ∨ (8 : Int) = 30 → 0 ≤ x0 ∧ x0 < x1 ∧ x2 = x3 := by omega
theorem la_row_7 : ¬ (8 : Int) = 1 := by omega
theorem la_row_8 {x0 x1 : Int} (h0 : (8 : Int) = 2) : x0 = x1 := by omega
theorem la_row_9 {x0 : Int} (h0 : (8 : Int) = 2) : 0 ≤ x0 := by omega
theorem la_row_10 (h0 : (8 : Int) = 2) : False := by omega
theorem la_row_11 {x0 : Int} (h0 : x0 = (-1)) : ¬ ¬ x0 = (-1) := by omega
theorem la_row_12 {x0 x1 : Int} (h0 : x0 ≤ 600) (h1 : x1 = 0) : 0 + 1 ≤ x1 + (600 - x0) + 8 := by omega
theorem la_row_13 {x0 : Int} (h0 : (-1) ≤ x0) (h1 : ¬ x0 = (-1)) : (-1) < x0 := by omega
theorem la_row_14 {x0 x1 x2 : Int} (h0 : x0 ≤ 600) (h1 : x1 = 17 * x2 + 17) (h2 : 0 ≤ x2) : 0 + 1 ≤ x1 + (600 - x0) + 8 := by omega
theorem la_row_15 {x0 : Int} (h0 : x0 = 0) : ¬ x0 = 1 := by omega
theorem la_row_16 {x0 x1 : Int} (h0 : 0 ≤ x0) (h1 : x1 = x0 + 1) (h2 : x1 ≤ 601) : sv_R (x0 + 1) := by omega
theorem la_row_17 {x0 : Int} (h0 : 1 ≤ x0) : 0 ≤ x0 := by omega
theorem la_row_18 : (0 : Int) ≤ 0 := by omega
theorem la_row_19 : (0 : Int) ≤ 16 := by omega
theorem la_row_20 {x0 : Int} (h0 : (-1) ≤ x0) : x0 = (-1) → x0 = (-1) := by omega
theorem la_row_21 {x0 x1 x2 x3 x4 : Int} (h0 : (-1) < x0) (h1 : x0 < x1) (h2 : x2 = 3) : x0 = (-1) ∨ 0 ≤ x0 ∧ x0 < x1 ∧ x2 = 3 ∧ 0 + x3 ≤ x3 ∧ x4 ≤ x4 := by omega
theorem la_row_22 {x0 : Int} : x0 ≤ x0 := by omega
theorem la_row_23 {x0 : Int} : x0 = x0 := by omega
theorem la_row_24 {x0 x1 : Int} : x0 = 1 → x1 = x1 := by omega
theorem la_row_25 {x0 : Int} (h0 : x0 = 1) : ¬ x0 = 0 := by omega
theorem la_row_26 {x0 x1 x2 : Int} (h0 : x0 = 600) (h1 : x1 = 0) : x2 ≤ x2 + 3 * (600 - x0) + x1 := by omega
theorem la_row_27 {x0 x1 x2 x3 : Int} (h0 : x0 ≤ 600) (h1 : x1 = 17 * x2 + 17) (h2 : 0 ≤ x2) : x3 ≤ x3 + 3 * (600 - x0) + x1 := by omega
theorem la_row_28 {x0 : Int} (h0 : x0 ≤ 1) (h1 : ¬ x0 = 1) : x0 < 1 := by omega
theorem la_row_29 {x0 : Int} (h0 : 0 ≤ x0) (h1 : x0 < 1) : x0 = 0 := by omega
theorem la_row_30 : ¬ (8 : Int) = 29 := by omega
theorem la_row_31 : ¬ (8 : Int) = 17 := by omega
theorem la_row_32 {x0 x1 x2 : Int} : (8 : Int) = 17 → 0 ≤ x0 → x1 < x2 := by omega
theorem la_row_33 {x0 x1 x2 x3 : Int} (h0 : x0 < x1) (h1 : x2 = x3) (h2 : x3 = x0) : x2 < x1 + 1 := by omega
theorem la_row_34 {x0 x1 x2 : Int} (h0 : x0 = x1) (h1 : x1 = x2) : x0 = x2 := by omega
theorem la_row_35 {x0 x1 x2 x3 : Int} (h0 : x0 ≤ 600) (h1 : x0 = x1 + 1) (h2 : x2 = 0) : x3 ≤ x3 + 3 * (600 - x1) + x2 := by omega
theorem la_row_36 {x0 x1 x2 x3 x4 : Int} (h0 : x0 ≤ 600) (h1 : x0 = x1 + 1) (h2 : x2 = 17 * x3 + 17) (h3 : 0 ≤ x3) : x4 ≤ x4 + 3 * (600 - x1) + x2 := by omega
theorem la_row_37 {x0 x1 x2 : Int} (h0 : x0 = x1 + 1) (h1 : x2 = x1 + 1) : x0 = x2 := by omega
theorem la_row_38 {x0 x1 : Int} (h0 : 0 ≤ x0) (h1 : x1 = x0 + 1) : 0 ≤ x1 := by omega
theorem la_row_39 {x0 x1 x2 x3 : Int} (h0 : x0 ≤ x1) (h1 : x2 = x0 + 1) (h2 : x3 = x1 + 1) : x2 ≤ x3 := by omega
theorem la_row_40 {x0 x1 : Int} (h0 : x0 = x1 + 1) : x1 + 1 ≤ x0 := by omega
theorem la_row_41 {x0 x1 x2 : Int} (h0 : x0 = x1 + x2) (h1 : x2 = 1) : x0 = x1 + 1 := by omega
theorem la_row_42 {x0 : Int} : x0 < x0 + 1 := by omega
theorem la_row_43 {x0 x1 x2 x3 : Int} (h0 : x0 = x1 + 1) (h1 : x2 = 10) : 2 * x3 ≤ 2 * x3 + (x0 - x1) + x2 := by omega
theorem la_row_44 {x0 x1 x2 x3 x4 : Int} (h0 : x0 = x1 + 1) (h1 : x2 = 8 * x3 + 18) (h2 : 0 ≤ x3) : 2 * x4 ≤ 2 * x4 + (x0 - x1) + x2 := by omega
theorem la_row_45 {x0 x1 x2 : Int} (h0 : x0 = x1 + 1) : x2 ≤ x2 + 3 * (x0 - x1) := by omega
theorem la_row_46 {x0 : Int} (h0 : x0 = 0) : 0 ≤ x0 := by omega
theorem la_row_47 {x0 : Int} (h0 : 0 ≤ x0) : (-1) ≤ x0 := by omega
theorem la_row_48 {x0 x1 x2 : Int} (h0 : x0 = x1 - x2) (h1 : x2 < x1) : 0 ≤ x0 := by omega
theorem la_row_49 {x0 : Int} (h0 : x0 = 3) : ¬ x0 = 1 := by omega
theorem la_row_50 {x0 : Int} (h0 : x0 = 3) : ¬ x0 = 2 := by omega
theorem la_row_51 {x0 : Int} (h0 : x0 = 3) : ¬ x0 = 6 := by omega
theorem la_row_52 {x0 : Int} (h0 : x0 = 3) : 2 ≤ x0 := by omega
theorem la_row_53 {x0 : Int} (h0 : x0 = 1) : ¬ x0 = 2 := by omega
theorem la_row_54 {x0 : Int} (h0 : x0 = 1) : ¬ x0 = 6 := by omega
theorem la_row_55 {x0 : Int} (h0 : x0 = 1) : ¬ x0 = 3 := by omega
theorem la_row_56 {x0 : Int} (h0 : 0 ≤ x0) (h1 : ¬ x0 = 0) : 0 < x0 := by omega
theorem la_row_57 {x0 : Int} : 5 * x0 + 0 = 5 * x0 := by omega
theorem la_row_58 {x0 : Int} (h0 : 0 < x0) (h1 : x0 = 0) : False := by omega
theorem la_row_59 {x0 x1 x2 x3 x4 : Int} (h0 : x0 ≤ x1) (h1 : 0 ≤ x2) (h2 : x3 = 8 * x2 + 18) : 2 * x4 ≤ 2 * x4 + (x1 - x0) + x3 := by omega
theorem la_row_60 {x0 : Int} (h0 : 0 ≤ x0) (h1 : ¬ ¬ x0 = 0) : x0 = 0 := by omega
theorem la_row_61 : (0 : Int) ≤ 18 := by omega
theorem la_row_62 : (18 : Int) ≤ 30 := by omega
theorem la_row_63 {x0 x1 x2 x3 x4 x5 x6 x7 x8 x9 x10 x11 x12 : Int} (h0 : 0 ≤ x0) (h1 : 0 ≤ x1 → x2 ≤ x0) (h2 : 0 ≤ x3 → x4 ≤ x0) (h3 : x5 = x0 + 1) (h4 : x6 = x1) (h5 : x7 = x3) (h6 : x8 = x2) (h7 : x9 = x4) (h8 : x10 = 1) (h9 : x11 = x6) (h10 : x12 = x7) : (0 ≤ x5 - 1 ∧ (0 ≤ x6 → x8 ≤ x5 - 1) ∧ (0 ≤ x7 → x9 ≤ x5 - 1)) ∧ x5 + x10 = x5 + 1 ∧ x11 = x6 ∧ x12 = x7 := by omega
theorem la_row_64 {x0 x1 x2 : Int} : (21 : Int) ≤ 18 ∧ (18 : Int) ≤ 24 ∨ (18 : Int) = 27 ∨ (18 : Int) = 30 → (0 : Int) ≤ 0 ∧ 0 < x0 ∧ x1 = x2 := by omega
theorem la_row_65 : ¬ (18 : Int) = 1 := by omega
theorem la_row_66 {x0 : Int} (h0 : (18 : Int) = 2) : x0 = 0 := by omega
theorem la_row_67 {x0 : Int} (h0 : (18 : Int) = 2) : (-1) ≤ x0 := by omega
theorem la_row_68 {x0 x1 : Int} (h0 : (18 : Int) = 2) : x0 < x1 := by omega
theorem la_row_69 {x0 x1 : Int} (h0 : (18 : Int) = 2) : x0 = (-1) → x1 = 1 := by omega
theorem la_row_70 {x0 : Int} (h0 : (18 : Int) = 2) : 0 ≤ x0 := by omega
theorem la_row_71 {x0 : Int} (h0 : (18 : Int) = 2) : x0 = 1 := by omega
theorem la_row_72 {x0 : Int} (h0 : (18 : Int) = 2) : ¬ x0 = (-1) := by omega
theorem la_row_73 {x0 : Int} (h0 : (18 : Int) = 2) : x0 = 3 := by omega
theorem la_row_74 {x0 : Int} (h0 : (18 : Int) = 2) : x0 = 4 ∨ x0 = 5 ∨ x0 = 8 ∨ x0 = 9 := by omega
theorem la_row_75 (h0 : (18 : Int) = 2) : (8 : Int) = 29 := by omega
theorem la_row_76 (h0 : (18 : Int) = 2) : (8 : Int) = 17 := by omega
theorem la_row_77 {x0 : Int} (h0 : (18 : Int) = 2) : ¬ x0 = 1 := by omega
theorem la_row_78 {x0 : Int} (h0 : (18 : Int) = 2) : x0 = 3 ∨ x0 = 6 := by omega
theorem la_row_79 {x0 : Int} (h0 : (18 : Int) = 2) : x0 = 6 := by omega
theorem la_row_80 {x0 : Int} (h0 : (18 : Int) = 2) : x0 = 2 := by omega
theorem la_row_81 {x0 x1 : Int} (h0 : (18 : Int) = 2) : x0 = x1 := by omega
theorem la_row_82 {x0 : Int} (h0 : (18 : Int) = 2) : x0 < x0 := by omega
theorem la_row_83 {x0 x1 : Int} (h0 : (18 : Int) = 2) : x0 < x1 + 1 := by omega
theorem la_row_84 {x0 x1 : Int} (h0 : (18 : Int) = 2) : 5 * x0 + 1 = 5 * x1 := by omega
theorem la_row_85 {x0 x1 : Int} (h0 : (18 : Int) = 2) : 5 * x0 + 0 = 5 * x1 + 1 := by omega
theorem la_row_86 {x0 : Int} (h0 : (18 : Int) = 2) : 5 * x0 + 1 = 5 * x0 := by omega
theorem la_row_87 {x0 x1 : Int} (h0 : (18 : Int) = 2) : 5 * x0 + 1 = 5 * x1 + 1 := by omega
theorem la_row_88 {x0 : Int} (h0 : (18 : Int) = 2) : 5 * x0 + 1 = 5 * x0 + 0 := by omega
theorem la_row_89 (h0 : (18 : Int) = 2) : False := by omega
theorem la_row_90 {x0 x1 x2 x3 x4 : Int} (h0 : x0 ≤ x1) (h1 : x1 ≤ x0 + 3 * (600 - x2) + x3) (h2 : 0 ≤ x4) (h3 : x3 = 17 * x4 + 17) : 1 + 1 ≤ x3 + (600 - x2) + 8 := by omega
theorem la_row_91 {x0 : Int} (h0 : ¬ ¬ x0 = 0) : ¬ x0 = 1 := by omega
theorem la_row_92 : ¬ (18 : Int) = 29 := by omega
theorem la_row_93 : ¬ (18 : Int) = 17 := by omega
theorem la_row_94 {x0 x1 x2 : Int} : (18 : Int) = 17 → 0 ≤ x0 → x1 < x2 := by omega
theorem la_row_95 : (0 : Int) ≤ 5 := by omega
theorem la_row_96 : (5 : Int) ≤ 6 := by omega
theorem la_row_97 {x0 x1 : Int} : (5 : Int) = 6 → 0 ≤ x0 ∧ x0 < x1 := by omega
theorem la_row_98 {x0 x1 x2 x3 x4 x5 x6 x7 x8 x9 x10 x11 : Int} (h0 : 0 ≤ x0 → x1 ≤ x2) (h1 : x3 = x2 + 1) (h2 : x4 = x0) (h3 : x5 = x1) (h4 : x6 = x3 + x7) (h5 : x7 = 1) (h6 : x8 = x9) (h7 : x9 = x4) (h8 : x10 = x11) (h9 : x11 = x5) : 0 ≤ x8 → x10 ≤ x6 := by omega
theorem la_row_99 {x0 x1 x2 x3 : Int} (h0 : x0 = x1) (h1 : x2 = x3) (h2 : x3 = x0) (h3 : 0 ≤ x2) : 0 ≤ x1 := by omega
theorem la_row_100 {x0 x1 x2 x3 x4 x5 x6 : Int} (h0 : x0 = x1 + 1) (h1 : x2 = x3) (h2 : x4 = x0 + x5) (h3 : x5 = 1) (h4 : x6 = x2) (h5 : x3 ≤ x1) : x6 ≤ x4 := by omega
theorem la_row_101 {x0 x1 : Int} (h0 : x0 ≤ 12000) (h1 : 0 ≤ x1) (h2 : x1 < x0) : 0 ≤ x1 ∧ x1 < 12000 ∧ (0 : Int) ≤ 0 ∧ (0 : Int) ≤ 4 := by omega
theorem la_row_102 {x0 x1 x2 : Int} (h0 : x0 < x1) (h1 : x2 = x0) : x2 < x1 + 1 := by omega
theorem la_row_103 {x0 x1 : Int} (h0 : 0 ≤ x0) (h1 : x1 = x0) : 0 ≤ x1 := by omega
theorem la_row_104 {x0 x1 x2 : Int} (h0 : x0 < x1) (h1 : x2 = x0) : x2 < x1 := by omega
theorem la_row_105 {x0 x1 : Int} (h0 : x0 = 1) (h1 : x1 = x0) : x1 = 1 := by omega
theorem la_row_106 {x0 x1 : Int} (h0 : x0 = x1) : x0 ≤ x1 := by omega
theorem la_row_107 {x0 x1 x2 x3 x4 x5 x6 : Int} (h0 : x0 ≤ 12000) (h1 : x1 ≤ x2) (h2 : x3 < x0) (h3 : x4 ≤ 17 * x1 + 17) (h4 : x5 = x4) (h5 : x6 = x3) : 12001 * x5 + x6 ≤ 12001 * (17 * x2 + 18) := by omega
theorem la_row_108 : ¬ (0 : Int) = 29 := by omega
theorem la_row_109 : ¬ (0 : Int) = 17 := by omega
theorem la_row_110 {x0 x1 x2 : Int} : (0 : Int) = 17 → 0 ≤ x0 → x1 < x2 := by omega
theorem la_row_111 {x0 x1 x2 x3 : Int} (h0 : x0 ≤ x1) (h1 : x2 = x3 + 1) (h2 : x3 = x1 + 1) : x0 ≤ x2 := by omega
theorem la_row_112 {x0 x1 x2 x3 x4 x5 x6 x7 x8 x9 x10 x11 x12 x13 x14 x15 x16 x17 : Int} (h0 : 0 ≤ x0 → x1 ≤ x2) (h1 : x3 = x2 + 1) (h2 : x4 = x0) (h3 : x5 = x1) (h4 : x6 = x7 + x8) (h5 : x8 = 1) (h6 : x9 = x10) (h7 : x10 = x11) (h8 : x12 = x13) (h9 : x13 = x14) (h10 : x7 = x3 + x15) (h11 : x15 = 1) (h12 : x11 = x16) (h13 : x16 = x4) (h14 : x14 = x17) (h15 : x17 = x5) : 0 ≤ x9 → x12 ≤ x6 := by omega
theorem la_row_113 {x0 x1 x2 x3 x4 x5 x6 x7 x8 x9 x10 x11 x12 x13 x14 x15 : Int} (h0 : 0 ≤ x0 → x1 ≤ x2) (h1 : x3 = x2 + 1) (h2 : x4 = x0) (h3 : x5 = x1) (h4 : x6 = x7 + x8) (h5 : x8 = 1) (h6 : x9 = x10) (h7 : x10 = x11) (h8 : x7 = x3 + x12) (h9 : x12 = 1) (h10 : x11 = x13) (h11 : x13 = x4) (h12 : x14 = x15) (h13 : x15 = x5) : 0 ≤ x9 → x14 ≤ x6 := by omega
theorem la_row_114 {x0 x1 x2 x3 x4 x5 x6 x7 x8 x9 : Int} (h0 : x0 ≤ x1) (h1 : x1 + 1 ≤ x2) (h2 : x3 = x0 + 1) (h3 : x4 = x5 + 1) (h4 : x6 = x7 + x8) (h5 : x8 = 1) (h6 : x5 = x2 + 1) (h7 : x7 = x3 + x9) (h8 : x9 = 1) : x6 ≤ x4 := by omega
theorem la_row_115 {x0 x1 x2 x3 x4 x5 x6 x7 x8 x9 x10 : Int} (h0 : x0 + 3 * (600 - x1) + x2 ≤ 8000) (h1 : x2 = 17 * x3 + 17) (h2 : x4 ≤ x3) (h3 : x5 ≤ 17 * x4 + 17) (h4 : x6 = x5) (h5 : x7 ≤ x0 + 3 * (x8 - x1)) (h6 : x9 = x10 + 1) (h7 : x10 = x8 + 1) : x7 + 3 * (600 - x9) + x6 ≤ 8000 := by omega
theorem la_row_116 {x0 x1 x2 x3 : Int} (h0 : 0 ≤ x0) (h1 : x1 = x0) (h2 : x2 ≤ 600) (h3 : x3 = x1 + (600 - x2) + 8) : 0 ≤ x3 := by omega
theorem la_row_117 {x0 : Int} (h0 : x0 ≤ 1) (h1 : 0 < x0) : x0 = 1 := by omega
theorem la_row_118 {x0 : Int} (h0 : x0 = 4) : 0 ≤ x0 := by omega
theorem la_row_119 {x0 x1 x2 : Int} (h0 : x0 ≤ 600) (h1 : x1 + 1 ≤ x0) (h2 : 0 ≤ x2) (h3 : x1 = 600) : x2 = 0 := by omega
theorem la_row_120 {x0 x1 x2 x3 : Int} (h0 : x0 + 1 ≤ x1) (h1 : x2 ≤ 600) (h2 : x0 = 600) (h3 : x2 = x1 + 1) : x3 = 0 := by omega
theorem la_row_121 {x0 x1 x2 x3 x4 : Int} (h0 : x0 + 1 ≤ x1) (h1 : x2 ≤ 600) (h2 : x0 = 600) (h3 : x3 = x1 + 1) (h4 : x2 = x3 + 1) : x4 = 0 := by omega
theorem la_row_122 {x0 x1 x2 x3 : Int} (h0 : x0 + 1 ≤ x1) (h1 : x2 ≤ 600) (h2 : x0 = 600) (h3 : x2 = x1 + 1) : 0 ≤ x3 := by omega
theorem la_row_123 {x0 x1 x2 x3 x4 : Int} (h0 : x0 + 1 ≤ x1) (h1 : x2 ≤ 600) (h2 : x0 = 600) (h3 : x3 = x1 + 1) (h4 : x4 = 0) (h5 : x2 = x3 + 1) : x4 = 1 := by omega
theorem la_row_124 {x0 x1 x2 x3 x4 : Int} (h0 : x0 + 1 ≤ x1) (h1 : x2 ≤ 600) (h2 : x0 = 600) (h3 : x3 = x1 + 1) (h4 : x2 = x3 + 1) : ¬ x4 = 1 := by omega
theorem la_row_125 {x0 x1 x2 x3 x4 x5 : Int} (h0 : x0 + 1 ≤ x1) (h1 : x2 ≤ 600) (h2 : x0 = 600) (h3 : x3 = x1 + 1) (h4 : x2 = x3 + 1) : x4 < x5 := by omega
theorem la_row_126 {x0 x1 x2 x3 : Int} (h0 : x0 = x1) (h1 : x2 = x3) (h2 : x3 = x1) : x0 = x2 := by omega
theorem la_row_127 {x0 x1 x2 x3 x4 x5 x6 x7 x8 x9 x10 : Int} (h0 : x0 + (600 - x1) + 8 = x2) (h1 : x0 = 17 * x3 + 17) (h2 : x4 ≤ x3) (h3 : x5 ≤ 17 * x4 + 17) (h4 : x6 = x5) (h5 : x1 + 1 ≤ x7) (h6 : x8 = x6 + (600 - x9) + 8) (h7 : x9 = x10 + 1) (h8 : x10 = x7 + 1) : x8 < x2 := by omega
theorem la_row_128 {x0 x1 x2 x3 x4 x5 x6 : Int} (h0 : x0 + (600 - x1) + 8 = x2) (h1 : x3 ≤ x4) (h2 : x4 ≤ x3 + 3 * (600 - x1) + x0) (h3 : 0 ≤ x5) (h4 : x0 = 17 * x5 + 17) (h5 : x6 = 4) : x6 < x2 := by omega
theorem la_row_129 {x0 x1 x2 x3 x4 x5 : Int} (h0 : x0 + 1 ≤ x1) (h1 : x2 ≤ 600) (h2 : x0 = 600) (h3 : x3 = x1 + 1) (h4 : x2 = x3 + 1) : x4 + 1 ≤ x5 + (600 - x0) + 8 := by omega
theorem la_row_130 {x0 x1 x2 x3 x4 x5 : Int} (h0 : x0 ≤ x1) (h1 : x1 ≤ x0 + 3 * (600 - x2) + x3) (h2 : 0 ≤ x4) (h3 : x3 = 17 * x4 + 17) (h4 : x5 = 4) : x5 + 1 ≤ x3 + (600 - x2) + 8 := by omega
theorem la_row_131 {x0 x1 x2 x3 x4 x5 : Int} (h0 : x0 < x1) (h1 : x1 + 1 ≤ x2) (h2 : x3 = x0) (h3 : x4 = x5) (h4 : x5 = x3) : x4 < x2 + 1 := by omega
theorem la_row_132 {x0 x1 x2 x3 x4 : Int} (h0 : x0 < x1) (h1 : x2 = x0) (h2 : x3 = x4) (h3 : x4 = x2) : x3 < x1 + 1 := by omega
theorem la_row_133 {x0 x1 x2 x3 : Int} (h0 : x0 = x1) (h1 : x2 = x3) (h2 : x3 = x0) : x2 = x1 := by omega
theorem la_row_134 {x0 x1 x2 x3 x4 x5 : Int} (h0 : x0 = x1) (h1 : x2 = x3) (h2 : x3 = x1) (h3 : x4 = x5) (h4 : x5 = x0) : x4 = x2 := by omega
theorem la_row_135 {x0 x1 x2 x3 x4 x5 x6 x7 x8 x9 : Int} (h0 : x0 = 17 * x1 + 17) (h1 : x2 ≤ x1) (h2 : x3 ≤ 17 * x2 + 17) (h3 : x4 = x3) (h4 : x5 + 1 ≤ x6) (h5 : x7 = x4 + (600 - x8) + 8) (h6 : x8 = x9 + 1) (h7 : x9 = x6 + 1) : x7 + 1 ≤ x0 + (600 - x5) + 8 := by omega
theorem la_row_136 : (0 : Int) ≤ 11 := by omega
theorem la_row_137 : (11 : Int) ≤ 30 := by omega
theorem la_row_138 {x0 x1 x2 x3 x4 x5 x6 x7 x8 x9 x10 x11 x12 x13 x14 x15 x16 x17 x18 x19 x20 x21 x22 x23 x24 x25 x26 x27 x28 x29 x30 x31 x32 x33 x34 x35 : Int} (h0 : 0 ≤ x0) (h1 : 0 ≤ x1 → x2 ≤ x0) (h2 : 0 ≤ x3 → x4 ≤ x0) (h3 : x5 = x0 + 1) (h4 : x6 = x1) (h5 : x7 = x3) (h6 : x8 = x2) (h7 : x9 = x4) (h8 : x10 = x11 + 1) (h9 : x12 = x13) (h10 : x14 = x15) (h11 : x16 = x17) (h12 : x18 = x19) (h13 : x11 = x20 + x21) (h14 : x21 = 1) (h15 : x13 = x22) (h16 : x22 = x23) (h17 : x15 = x24) (h18 : x24 = x25) (h19 : x17 = x26) (h20 : x26 = x27) (h21 : x20 = x5 + x28) (h22 : x28 = 1) (h23 : x23 = x29) (h24 : x29 = x6) (h25 : x25 = x30) (h26 : x30 = x7) (h27 : x27 = x31) (h28 : x31 = x8) (h29 : x19 = x32) (h30 : x32 = x9) (h31 : x33 = (-2)) (h32 : x34 = x12) (h33 : x35 = x14) : (0 ≤ x10 - 3 ∧ (0 ≤ x12 → x16 ≤ x10 - 3) ∧ (0 ≤ x14 → x18 ≤ x10 - 3)) ∧ x10 + x33 = x10 - 2 ∧ x34 = x12 ∧ x35 = x14 := by omega
theorem la_row_139 {x0 x1 x2 : Int} : (21 : Int) ≤ 11 ∧ (11 : Int) ≤ 24 ∨ (11 : Int) = 27 ∨ (11 : Int) = 30 → (0 : Int) ≤ 0 ∧ 0 < x0 ∧ x1 = x2 := by omega
theorem la_row_140 : ¬ (11 : Int) = 1 := by omega
theorem la_row_141 {x0 : Int} (h0 : (11 : Int) = 2) : (-1) ≤ x0 := by omega
theorem la_row_142 {x0 x1 : Int} (h0 : (11 : Int) = 2) : x0 < x1 := by omega
theorem la_row_143 {x0 x1 : Int} (h0 : (11 : Int) = 2) : x0 = (-1) → x1 = 1 := by omega
theorem la_row_144 {x0 x1 : Int} (h0 : (11 : Int) = 2) : x0 < x1 + 1 := by omega
theorem la_row_145 {x0 : Int} (h0 : (11 : Int) = 2) : x0 < x0 := by omega
theorem la_row_146 {x0 : Int} (h0 : (11 : Int) = 2) : 0 ≤ x0 := by omega
theorem la_row_147 {x0 : Int} (h0 : (11 : Int) = 2) : x0 = 1 := by omega
theorem la_row_148 {x0 : Int} (h0 : (11 : Int) = 2) : ¬ x0 = (-1) := by omega
theorem la_row_149 {x0 : Int} (h0 : (11 : Int) = 2) : x0 = 3 := by omega
theorem la_row_150 {x0 : Int} (h0 : (11 : Int) = 2) : x0 = 4 ∨ x0 = 5 ∨ x0 = 8 ∨ x0 = 9 := by omega
theorem la_row_151 {x0 : Int} (h0 : (11 : Int) = 2) : ¬ x0 = 1 := by omega
theorem la_row_152 {x0 : Int} (h0 : (11 : Int) = 2) : x0 = 3 ∨ x0 = 6 := by omega
theorem la_row_153 {x0 : Int} (h0 : (11 : Int) = 2) : x0 = 6 := by omega
theorem la_row_154 {x0 : Int} (h0 : (11 : Int) = 2) : x0 = 2 := by omega
theorem la_row_155 {x0 x1 : Int} (h0 : (11 : Int) = 2) : x0 = x1 := by omega
theorem la_row_156 {x0 x1 : Int} (h0 : (11 : Int) = 2) : 5 * x0 + 1 = 5 * x1 := by omega
theorem la_row_157 {x0 x1 : Int} (h0 : (11 : Int) = 2) : 5 * x0 + 0 = 5 * x1 + 1 := by omega
theorem la_row_158 {x0 : Int} (h0 : (11 : Int) = 2) : 5 * x0 + 1 = 5 * x0 := by omega
theorem la_row_159 {x0 x1 : Int} (h0 : (11 : Int) = 2) : 5 * x0 + 1 = 5 * x1 + 1 := by omega
theorem la_row_160 {x0 : Int} (h0 : (11 : Int) = 2) : 5 * x0 + 1 = 5 * x0 + 0 := by omega
theorem la_row_161 (h0 : (11 : Int) = 2) : False := by omega
theorem la_row_162 : ¬ (11 : Int) = 29 := by omega
theorem la_row_163 : ¬ (11 : Int) = 17 := by omega
theorem la_row_164 {x0 x1 x2 : Int} : (11 : Int) = 17 → 0 ≤ x0 → x1 < x2 := by omega
theorem la_row_165 : (0 : Int) ≤ 17 := by omega
theorem la_row_166 : (17 : Int) ≤ 30 := by omega
theorem la_row_167 {x0 x1 x2 x3 x4 x5 x6 x7 x8 x9 x10 x11 x12 x13 x14 x15 x16 x17 x18 x19 x20 x21 x22 x23 x24 x25 x26 x27 x28 x29 x30 x31 x32 x33 x34 x35 x36 x37 x38 x39 x40 x41 x42 x43 x44 x45 : Int} (h0 : 0 ≤ x0) (h1 : 0 ≤ x1 → x2 ≤ x0) (h2 : 0 ≤ x3 → x4 ≤ x0) (h3 : x5 = x0 + 1) (h4 : x6 = x1) (h5 : x7 = x3) (h6 : x8 = x2) (h7 : x9 = x4) (h8 : x10 = x11 + x12) (h9 : x12 = (-2)) (h10 : x13 = x14) (h11 : x14 = x15) (h12 : x16 = x17) (h13 : x17 = x18) (h14 : x19 = x20) (h15 : x20 = x21) (h16 : x11 = x22 + 1) (h17 : x15 = x23) (h18 : x18 = x24) (h19 : x21 = x25) (h20 : x26 = x27) (h21 : x28 = x26) (h22 : x22 = x29 + x30) (h23 : x30 = 1) (h24 : x23 = x31) (h25 : x31 = x32) (h26 : x24 = x33) (h27 : x33 = x34) (h28 : x25 = x35) (h29 : x35 = x36) (h30 : x29 = x5 + x37) (h31 : x37 = 1) (h32 : x32 = x38) (h33 : x38 = x6) (h34 : x34 = x39) (h35 : x39 = x7) (h36 : x36 = x40) (h37 : x40 = x8) (h38 : x27 = x41) (h39 : x41 = x9) (h40 : x42 = (-1)) (h41 : x43 = x13) (h42 : (0 ≤ x16 → x28 < x10) → x44 = x16) : 1 ≤ x10 ∧ (0 ≤ x13 → x19 ≤ x10 - 1) ∧ (0 ≤ x16 ∧ x28 = x10 ∧ x10 + x42 = x10 - 1 ∧ x43 = x13 ∧ x44 = x45 ∨ (0 ≤ x16 → x28 ≤ x10 - 1) ∧ x10 + x42 = x10 - 1 ∧ x43 = x13 ∧ x44 = x16) := by omega
theorem la_row_168 {x0 x1 x2 : Int} : (21 : Int) ≤ 17 ∧ (17 : Int) ≤ 24 ∨ (17 : Int) = 27 ∨ (17 : Int) = 30 → (0 : Int) ≤ 0 ∧ 0 < x0 ∧ x1 = x2 := by omega
theorem la_row_169 : ¬ (17 : Int) = 1 := by omega
theorem la_row_170 {x0 : Int} (h0 : (17 : Int) = 2) : (-1) ≤ x0 := by omega
theorem la_row_171 {x0 x1 : Int} (h0 : (17 : Int) = 2) : x0 < x1 := by omega
theorem la_row_172 {x0 x1 : Int} (h0 : (17 : Int) = 2) : x0 = (-1) → x1 = 1 := by omega
theorem la_row_173 {x0 x1 : Int} (h0 : (17 : Int) = 2) : x0 < x1 + 1 := by omega
theorem la_row_174 {x0 : Int} (h0 : (17 : Int) = 2) : x0 < x0 := by omega
theorem la_row_175 {x0 : Int} (h0 : (17 : Int) = 2) : 0 ≤ x0 := by omega
theorem la_row_176 {x0 : Int} (h0 : (17 : Int) = 2) : x0 = 1 := by omega
theorem la_row_177 {x0 : Int} (h0 : (17 : Int) = 2) : ¬ x0 = (-1) := by omega
theorem la_row_178 {x0 : Int} (h0 : (17 : Int) = 2) : x0 = 3 := by omega
theorem la_row_179 {x0 : Int} (h0 : (17 : Int) = 2) : x0 = 4 ∨ x0 = 5 ∨ x0 = 8 ∨ x0 = 9 := by omega
theorem la_row_180 {x0 x1 x2 : Int} (h0 : (17 : Int) = 2) : 0 ≤ x0 → x1 < x2 := by omega
theorem la_row_181 {x0 : Int} (h0 : (17 : Int) = 2) : ¬ x0 = 1 := by omega
theorem la_row_182 {x0 : Int} (h0 : (17 : Int) = 2) : x0 = 3 ∨ x0 = 6 := by omega
theorem la_row_183 {x0 : Int} (h0 : (17 : Int) = 2) : x0 = 6 := by omega
theorem la_row_184 {x0 : Int} (h0 : (17 : Int) = 2) : x0 = 2 := by omega
theorem la_row_185 {x0 x1 : Int} (h0 : (17 : Int) = 2) : x0 = x1 := by omega
theorem la_row_186 {x0 x1 : Int} (h0 : (17 : Int) = 2) : 5 * x0 + 1 = 5 * x1 := by omega
theorem la_row_187 {x0 x1 : Int} (h0 : (17 : Int) = 2) : 5 * x0 + 0 = 5 * x1 + 1 := by omega
theorem la_row_188 {x0 : Int} (h0 : (17 : Int) = 2) : 5 * x0 + 1 = 5 * x0 := by omega
theorem la_row_189 {x0 x1 : Int} (h0 : (17 : Int) = 2) : 5 * x0 + 1 = 5 * x1 + 1 := by omega
theorem la_row_190 {x0 : Int} (h0 : (17 : Int) = 2) : 5 * x0 + 1 = 5 * x0 + 0 := by omega
theorem la_row_191 (h0 : (17 : Int) = 2) : False := by omega
theorem la_row_192 {x0 x1 : Int} (h0 : x0 ≤ 12000) (h1 : 0 ≤ x1) (h2 : x1 < x0) : 0 ≤ x1 ∧ x1 < 12000 := by omega
theorem la_row_193 {x0 : Int} (h0 : 0 ≤ x0) (h1 : x0 ≤ 16) : sv_R (x0 + 1) := by omega
theorem la_row_194 {x0 : Int} (h0 : 0 ≤ x0) : 0 ≤ x0 + 1 := by omega
theorem la_row_195 {x0 x1 x2 : Int} (h0 : x0 ≤ 16) (h1 : x1 + x2 ≤ x0) (h2 : 1 ≤ x2) : x1 + 1 ≤ 16 := by omega
theorem la_row_196 {x0 x1 : Int} (h0 : 0 ≤ x0) : x0 = (-1) → x1 = (-1) := by omega
theorem la_row_197 {x0 x1 x2 x3 x4 x5 x6 x7 x8 x9 x10 x11 x12 x13 x14 x15 x16 x17 : Int} (h0 : 0 ≤ x0) (h1 : (-1) < x0) (h2 : 0 ≤ x1) (h3 : x1 < x2) (h4 : x3 = 3) (h5 : x4 + x5 ≤ x6) (h6 : x7 ≤ x8) (h7 : (-1) < x1) (h8 : 0 ≤ x9) (h9 : x9 < x2) (h10 : x10 = (-1) ∨ x1 < x10 ∧ x10 < x2 ∧ x11 = x3 ∧ x12 ≤ x5 ∧ x13 ≤ x7 ∧ x14 ≤ x15 ∧ x16 ≤ x17 ∧ (x3 = 3 ∨ x3 = 6 → x12 < x5) ∧ (x3 = 6 → x17 = 2 → x16 < 2)) : ¬ x0 = (-1) → x10 = (-1) ∨ 0 ≤ x10 ∧ x10 < x2 ∧ x11 = 3 ∧ x4 + 1 + x12 ≤ x6 ∧ x13 ≤ x8 := by omega
theorem la_row_198 {x0 x1 x2 x3 x4 x5 x6 : Int} (h0 : x0 + 1 ≤ x1) (h1 : x1 ≤ x2) (h2 : x2 ≤ x3) (h3 : x3 ≤ x4) (h4 : x4 ≤ x5) (h5 : x5 ≤ x6) : x0 ≤ x6 := by omega
theorem la_row_199 {x0 x1 : Int} (h0 : x0 = 0) (h1 : x1 ≤ 1) : x0 = 1 → x1 = 1 := by omega
theorem la_row_200 {x0 x1 x2 x3 x4 x5 : Int} (h0 : x0 + 1 ≤ x1) (h1 : x1 ≤ x2) (h2 : x2 ≤ x3) (h3 : x3 ≤ x4) (h4 : x4 ≤ x5) : x0 ≤ x5 := by omega
theorem la_row_201 {x0 x1 x2 x3 x4 : Int} (h0 : x0 + 1 ≤ x1) (h1 : x1 ≤ x2) (h2 : x2 ≤ x3) (h3 : x3 ≤ x4) : x0 ≤ x4 := by omega
theorem la_row_202 {x0 x1 x2 x3 : Int} (h0 : x0 + 1 ≤ x1) (h1 : x1 ≤ x2) (h2 : x2 ≤ x3) : x0 ≤ x3 := by omega
theorem la_row_203 {x0 x1 x2 : Int} (h0 : x0 + 1 ≤ x1) (h1 : x1 ≤ x2) : x0 ≤ x2 := by omega
theorem la_row_204 {x0 x1 x2 x3 x4 x5 : Int} (h0 : x0 + 1 ≤ x1) (h1 : x1 ≤ x2) (h2 : x2 ≤ x3) (h3 : x3 ≤ x4) (h4 : x4 ≤ x5) : x0 + 1 ≤ x5 + 1 := by omega
theorem la_row_205 {x0 x1 x2 x3 x4 : Int} (h0 : x0 + 1 ≤ x1) (h1 : x1 ≤ x2) (h2 : x2 ≤ x3) (h3 : x3 ≤ x4) : x0 + 1 ≤ x4 + 1 := by omega
theorem la_row_206 {x0 x1 x2 x3 : Int} (h0 : x0 + 1 ≤ x1) (h1 : x1 ≤ x2) (h2 : x2 ≤ x3) : x0 + 1 ≤ x3 + 1 := by omega
theorem la_row_207 {x0 x1 x2 : Int} (h0 : x0 + 1 ≤ x1) (h1 : x1 ≤ x2) : x0 + 1 ≤ x2 + 1 := by omega
theorem la_row_208 {x0 x1 : Int} (h0 : x0 + 1 ≤ x1) : x0 + 1 ≤ x1 + 1 := by omega
theorem la_row_209 {x0 x1 x2 : Int} (h0 : x0 ≤ x1) (h1 : x1 ≤ x2) : x0 ≤ x2 := by omega
theorem la_row_210 {x0 x1 x2 : Int} (h0 : x0 = x1) (h1 : x2 = x0) : x2 = x1 := by omega
theorem la_row_211 {x0 x1 : Int} (h0 : x0 = x1) : x1 ≤ x0 := by omega
theorem la_row_212 {x0 x1 x2 : Int} (h0 : x0 = 0) : x0 = 1 → x1 = x2 := by omega
theorem la_row_213 {x0 x1 x2 x3 x4 x5 x6 x7 x8 x9 x10 x11 x12 x13 : Int} (h0 : x0 ≤ 600) (h1 : 0 ≤ x1) (h2 : x2 = 17 * x1 + 17) (h3 : x3 ≤ x1) (h4 : x4 ≤ 17 * x3 + 17) (h5 : x5 = x4) (h6 : x6 ≤ x7 + 3 * (x0 - x8)) (h7 : x0 ≤ x9) (h8 : 0 ≤ x10) (h9 : x10 ≤ 1) (h10 : x9 ≤ x11) (h11 : x10 = 1 → x12 = x6) (h12 : x10 = 0 → x12 ≤ x6 + 3 * (600 - x11) + x5) : x13 = 0 → x12 ≤ x7 + 3 * (600 - x8) + x2 := by omega
theorem la_row_214 : ¬ (17 : Int) = 29 := by omega
theorem la_row_215 : (17 : Int) = 17 := by omega
theorem la_row_216 {x0 x1 x2 x3 : Int} (h0 : x0 = x1 + 1) (h1 : x1 = x2 + 1) (h2 : x3 ≤ x2) : x3 ≤ x0 := by omega
theorem la_row_217 {x0 x1 x2 x3 x4 x5 x6 : Int} (h0 : x0 + 1 ≤ x1) (h1 : x2 = x3 + 1) (h2 : x3 = x4 + 1) (h3 : x5 + 1 ≤ x4) (h4 : x5 = x6 + 1) (h5 : x6 = x1 + 1) : x0 + 1 ≤ x2 := by omega
theorem la_row_218 {x0 x1 x2 x3 x4 x5 : Int} (h0 : x0 + 1 ≤ x1) (h1 : x2 = x3 + 1) (h2 : x4 + 1 ≤ x3) (h3 : x4 = x5 + 1) (h4 : x5 = x1 + 1) : x0 < x2 := by omega
theorem la_row_219 {x0 x1 x2 x3 x4 : Int} (h0 : x0 + 1 ≤ x1) (h1 : x2 + 1 ≤ x3) (h2 : x2 = x4 + 1) (h3 : x4 = x1 + 1) : x0 < x3 := by omega
theorem la_row_220 {x0 x1 x2 x3 : Int} (h0 : x0 + 1 ≤ x1) (h1 : x2 = x3 + 1) (h2 : x3 = x1 + 1) : x0 < x2 := by omega
theorem la_row_221 {x0 x1 x2 : Int} (h0 : x0 + 1 ≤ x1) (h1 : x2 = x1 + 1) : x0 < x2 := by omega
theorem la_row_222 {x0 x1 : Int} (h0 : x0 + 1 ≤ x1) : x0 < x1 := by omega
theorem la_row_223 {x0 x1 x2 x3 x4 : Int} (h0 : x0 = x1 + 1) (h1 : x2 + 1 ≤ x1) (h2 : x2 = x3 + 1) (h3 : x3 = x4 + 1) : x4 ≤ x0 := by omega
theorem la_row_224 {x0 x1 x2 x3 : Int} (h0 : x0 + 1 ≤ x1) (h1 : x0 = x2 + 1) (h2 : x2 = x3 + 1) : x3 ≤ x1 := by omega
theorem la_row_225 {x0 x1 x2 : Int} (h0 : x0 = x1 + 1) (h1 : x1 = x2 + 1) : x2 ≤ x0 := by omega
theorem la_row_226 {x0 x1 x2 x3 x4 : Int} (h0 : x0 = x1 + 1) (h1 : x2 + 1 ≤ x1) (h2 : x2 = x3 + 1) (h3 : x3 = x4 + 1) : x4 < x0 := by omega
theorem la_row_227 {x0 x1 x2 x3 : Int} (h0 : x0 + 1 ≤ x1) (h1 : x0 = x2 + 1) (h2 : x2 = x3 + 1) : x3 < x1 := by omega
theorem la_row_228 {x0 x1 x2 : Int} (h0 : x0 = x1 + 1) (h1 : x1 = x2 + 1) : x2 < x0 := by omega
theorem la_row_229 {x0 x1 : Int} (h0 : x0 = x1 + 1) : x1 < x0 := by omega
theorem la_row_230 {x0 x1 x2 x3 x4 : Int} (h0 : x0 = x1 + 1) (h1 : x2 + 1 ≤ x1) (h2 : x2 = x3 + 1) (h3 : x3 = x4 + 1) : x4 + 1 < x0 := by omega
theorem la_row_231 {x0 x1 x2 x3 : Int} (h0 : x0 + 1 ≤ x1) (h1 : x0 = x2 + 1) (h2 : x2 = x3 + 1) : x3 + 1 < x1 := by omega
theorem la_row_232 {x0 x1 x2 : Int} (h0 : x0 = x1 + 1) (h1 : x1 = x2 + 1) : x2 + 1 < x0 := by omega
theorem la_row_233 {x0 x1 : Int} (h0 : x0 = x1 + 1) : x1 + 1 = x0 := by omega
theorem la_row_234 {x0 x1 x2 x3 x4 : Int} (h0 : x0 = x1 + 1) (h1 : x2 + 1 ≤ x1) (h2 : x2 = x3 + 1) (h3 : x3 = x4 + 1) : x4 + 1 + 1 < x0 := by omega
theorem la_row_235 {x0 x1 x2 x3 : Int} (h0 : x0 + 1 ≤ x1) (h1 : x0 = x2 + 1) (h2 : x2 = x3 + 1) : x3 + 1 + 1 < x1 := by omega
theorem la_row_236 {x0 x1 x2 : Int} (h0 : x0 = x1 + 1) (h1 : x1 = x2 + 1) : x0 ≤ x2 + 1 + 1 := by omega
theorem la_row_237 {x0 x1 x2 x3 : Int} (h0 : x0 + 1 ≤ x1) (h1 : x0 = x2 + 1) (h2 : x2 = x3 + 1) : x3 + 1 + 1 ≤ x1 := by omega
theorem la_row_238 {x0 x1 : Int} (h0 : x0 ≤ x1 + 1) (h1 : x0 = x1 + 1) : x1 + 1 = x0 := by omega
theorem la_row_239 {x0 x1 x2 : Int} (h0 : x0 ≤ x1 + 1) (h1 : x2 ≤ x0 + 1) : x2 ≤ x1 + 1 + 1 := by omega
theorem la_row_240 {x0 x1 x2 x3 x4 x5 x6 x7 x8 x9 x10 : Int} (h0 : x0 = x1 + 1) (h1 : x2 = x3 + x4) (h2 : x4 = (-1)) (h3 : x3 = x5 + x6) (h4 : x6 = (-2)) (h5 : x5 = x7 + 1) (h6 : x7 = x8 + x9) (h7 : x9 = 1) (h8 : x8 = x0 + x10) (h9 : x10 = 1) : x2 = x1 + 1 := by omega
theorem la_row_241 {x0 x1 x2 x3 x4 x5 x6 x7 x8 x9 x10 : Int} (h0 : x0 = x1) (h1 : x2 = x3) (h2 : x3 = x4) (h3 : x4 = x5) (h4 : x5 = x6) (h5 : x6 = x7) (h6 : x7 = x8) (h7 : x8 = x9) (h8 : x9 = x10) (h9 : x10 = x0) : x2 = x1 := by omega
theorem la_row_242 {x0 x1 x2 x3 : Int} (h0 : x0 = x1) (h1 : x1 = x2) (h2 : x2 < x3) : x0 < x3 + 1 := by omega
theorem la_row_243 {x0 x1 x2 : Int} (h0 : x0 = x1) (h1 : x1 < x2) : x0 < x2 + 1 := by omega
theorem la_row_244 {x0 x1 x2 x3 x4 x5 : Int} (h0 : x0 = x1) (h1 : x1 = x2) (h2 : x3 + 1 ≤ x4) (h3 : x2 = x5) (h4 : x5 < x3) : x0 < x4 + 1 := by omega
theorem la_row_245 {x0 x1 x2 : Int} (h0 : x0 ≤ x1 + 1) (h1 : x2 < x0) : x2 < x1 + 1 := by omega
theorem la_row_246 {x0 x1 x2 x3 x4 x5 x6 x7 : Int} (h0 : x0 < x1) (h1 : x1 + 1 ≤ x2) (h2 : x3 = x0) (h3 : x4 = x5) (h4 : x5 = x6) (h5 : x6 = x7) (h6 : x7 = x3) : x4 < x2 + 1 := by omega
theorem la_row_247 {x0 x1 x2 x3 x4 : Int} (h0 : x0 = x1) (h1 : x1 = x2) (h2 : x2 = x3) (h3 : x3 < x4) : x0 < x4 + 1 := by omega
theorem la_row_248 {x0 x1 x2 x3 x4 x5 x6 x7 x8 x9 : Int} (h0 : x0 < x1) (h1 : x1 + 1 ≤ x2) (h2 : x3 = x0) (h3 : x4 = x5) (h4 : x5 = x6) (h5 : x6 = x7) (h6 : x8 = x2 + 1) (h7 : x7 = x9) (h8 : x9 = x3) : x4 < x8 + 1 := by omega
theorem la_row_249 {x0 x1 x2 x3 x4 x5 x6 x7 : Int} (h0 : x0 = x1) (h1 : x1 = x2) (h2 : x2 = x3) (h3 : x3 = x4) (h4 : x5 + 1 ≤ x6) (h5 : x4 = x7) (h6 : x7 < x5) : x0 < x6 + 1 := by omega
theorem la_row_250 {x0 x1 x2 x3 x4 x5 x6 : Int} (h0 : x0 < x1) (h1 : x2 = x0) (h2 : x3 = x4) (h3 : x4 = x5) (h4 : x5 = x6) (h5 : x6 = x2) : x3 < x1 + 1 := by omega
theorem la_row_251 {x0 x1 x2 x3 x4 x5 x6 x7 x8 : Int} (h0 : x0 < x1) (h1 : x1 + 1 ≤ x2) (h2 : x3 = x0) (h3 : x4 = x5) (h4 : x5 = x6) (h5 : x6 = x7) (h6 : x7 = x8) (h7 : x8 = x3) : x4 < x2 + 1 := by omega
theorem la_row_252 {x0 x1 x2 x3 x4 x5 x6 x7 x8 x9 x10 x11 : Int} (h0 : x0 < x1) (h1 : x1 + 1 ≤ x2) (h2 : x3 = x0) (h3 : x4 = x5) (h4 : x5 = x6) (h5 : x6 = x7) (h6 : x7 = x8) (h7 : x8 = x9) (h8 : x10 = x2 + 1) (h9 : x9 = x11) (h10 : x11 = x3) : x4 < x10 + 1 := by omega
theorem la_row_253 {x0 x1 x2 x3 x4 x5 x6 x7 x8 x9 : Int} (h0 : x0 = x1) (h1 : x1 = x2) (h2 : x2 = x3) (h3 : x3 = x4) (h4 : x4 = x5) (h5 : x6 = x7 + 1) (h6 : x5 = x8) (h7 : x8 = x9) (h8 : x9 < x7) : x0 < x6 + 1 := by omega
theorem la_row_254 {x0 x1 x2 x3 x4 x5 : Int} (h0 : x0 = x1) (h1 : x2 = x3) (h2 : x3 = x4) (h3 : x4 = x5) (h4 : x5 = x0) : x2 = x1 := by omega
theorem la_row_255 {x0 x1 x2 x3 x4 : Int} (h0 : x0 = x1) (h1 : x1 = x2) (h2 : x2 = x3) (h3 : x3 = x4) : x0 = x4 := by omega
theorem la_row_256 {x0 x1 x2 x3 x4 x5 : Int} (h0 : x0 = x1) (h1 : x1 = x2) (h2 : x2 = x3) (h3 : x3 = x4) (h4 : x4 = x5) : x0 = x5 := by omega
theorem la_row_257 {x0 x1 x2 x3 : Int} (h0 : x0 = x1) (h1 : x1 = x2) (h2 : x2 = x3) : x0 = x3 := by omega
theorem la_row_258 {x0 x1 x2 x3 x4 x5 x6 x7 x8 x9 x10 x11 x12 x13 x14 x15 x16 x17 x18 x19 x20 x21 x22 x23 x24 x25 : Int} (h0 : 0 ≤ x0 → x1 ≤ x2) (h1 : x3 = x2 + 1) (h2 : x4 = x0) (h3 : x5 = x1) (h4 : (-1) ≤ x6) (h5 : x6 = x7) (h6 : (0 ≤ x8 → x9 < x10) → x7 = x8) (h7 : x10 = x11 + x12) (h8 : x12 = (-2)) (h9 : x8 = x13) (h10 : x13 = x14) (h11 : x11 = x15 + 1) (h12 : x14 = x16) (h13 : x17 = x18) (h14 : x9 = x17) (h15 : x15 = x19 + x20) (h16 : x20 = 1) (h17 : x16 = x21) (h18 : x21 = x22) (h19 : x19 = x3 + x23) (h20 : x23 = 1) (h21 : x22 = x24) (h22 : x24 = x4) (h23 : x18 = x25) (h24 : x25 = x5) : x6 = x8 := by omega
theorem la_row_259 {x0 x1 x2 x3 x4 x5 x6 x7 x8 x9 x10 x11 x12 x13 x14 x15 x16 x17 x18 x19 x20 x21 x22 x23 x24 x25 : Int} (h0 : 0 ≤ x0 → x1 ≤ x2) (h1 : x3 = x2 + 1) (h2 : x4 = x0) (h3 : x5 = x1) (h4 : (-1) ≤ x6) (h5 : x6 = x7) (h6 : (0 ≤ x8 → x9 < x10) → x7 = x8) (h7 : x10 = x11 + x12) (h8 : x12 = (-2)) (h9 : x8 = x13) (h10 : x13 = x14) (h11 : x11 = x15 + 1) (h12 : x14 = x16) (h13 : x17 = x18) (h14 : x9 = x17) (h15 : x15 = x19 + x20) (h16 : x20 = 1) (h17 : x16 = x21) (h18 : x21 = x22) (h19 : x19 = x3 + x23) (h20 : x23 = 1) (h21 : x22 = x24) (h22 : x24 = x4) (h23 : x18 = x25) (h24 : x25 = x5) : x6 = x0 := by omega
theorem la_row_260 {x0 x1 x2 x3 x4 x5 x6 x7 : Int} (h0 : x0 = x1) (h1 : x2 = x3) (h2 : x4 = x2) (h3 : x3 = x5) (h4 : x5 = x0) (h5 : x6 = x7) (h6 : x7 = x4) : x6 = x1 := by omega
theorem la_row_261 {x0 x1 x2 x3 x4 x5 : Int} (h0 : x0 + 1 ≤ x1) (h1 : x2 = x3 + 1) (h2 : x4 + 1 ≤ x3) (h3 : x4 = x5 + 1) (h4 : x5 = x1 + 1) : x0 < x2 + 1 := by omega
theorem la_row_262 {x0 x1 x2 x3 x4 : Int} (h0 : x0 + 1 ≤ x1) (h1 : x2 + 1 ≤ x3) (h2 : x2 = x4 + 1) (h3 : x4 = x1 + 1) : x0 < x3 + 1 := by omega
theorem la_row_263 {x0 x1 x2 x3 : Int} (h0 : x0 + 1 ≤ x1) (h1 : x2 = x3 + 1) (h2 : x3 = x1 + 1) : x0 < x2 + 1 := by omega
theorem la_row_264 {x0 x1 x2 : Int} (h0 : x0 + 1 ≤ x1) (h1 : x2 = x1 + 1) : x0 < x2 + 1 := by omega
theorem la_row_265 {x0 x1 : Int} (h0 : x0 + 1 ≤ x1) : x0 < x1 + 1 := by omega
theorem la_row_266 {x0 x1 x2 x3 x4 x5 x6 x7 x8 x9 : Int} (h0 : 0 ≤ x0) (h1 : x1 = 8 * x0 + 18) (h2 : x2 + 1 ≤ x3) (h3 : x4 = x5 + 1) (h4 : x5 = x6 + 1) (h5 : x7 + 1 ≤ x6) (h6 : x7 = x8 + 1) (h7 : x8 = x3 + 1) : 2 * x9 ≤ 2 * x9 + (x4 - x2) + x1 := by omega
theorem la_row_267 {x0 x1 x2 x3 x4 x5 : Int} (h0 : x0 + 1 ≤ x1) (h1 : x2 = x3 + 1) (h2 : x4 + 1 ≤ x3) (h3 : x4 = x5 + 1) (h4 : x5 = x1 + 1) : x0 + 1 < x2 + 1 := by omega
theorem la_row_268 {x0 x1 x2 x3 x4 : Int} (h0 : x0 + 1 ≤ x1) (h1 : x2 + 1 ≤ x3) (h2 : x2 = x4 + 1) (h3 : x4 = x1 + 1) : x0 + 1 < x3 + 1 := by omega
theorem la_row_269 {x0 x1 x2 x3 : Int} (h0 : x0 + 1 ≤ x1) (h1 : x2 = x3 + 1) (h2 : x3 = x1 + 1) : x0 + 1 < x2 + 1 := by omega
theorem la_row_270 {x0 x1 x2 : Int} (h0 : x0 + 1 ≤ x1) (h1 : x2 = x1 + 1) : x0 + 1 < x2 + 1 := by omega
theorem la_row_271 {x0 x1 : Int} (h0 : x0 + 1 ≤ x1) : x0 + 1 < x1 + 1 := by omega
theorem la_row_272 {x0 : Int} : x0 ≤ x0 + 1 := by omega
theorem la_row_273 {x0 x1 x2 x3 x4 x5 x6 x7 x8 : Int} (h0 : x0 = x1 + 1) (h1 : x1 = x2 + 1) (h2 : x3 + 1 ≤ x2) (h3 : x3 = x4 + 1) (h4 : x4 = x5 + 1) : 2 * x6 + (x5 - x7) + x8 ≤ 2 * x6 + (x0 - x7) + x8 := by omega
theorem la_row_274 {x0 x1 x2 x3 x4 : Int} (h0 : x0 = x1 + 1) (h1 : x2 + 1 ≤ x1) (h2 : x2 = x3 + 1) (h3 : x3 = x4 + 1) : x4 ≤ x0 + 1 := by omega
theorem la_row_275 {x0 x1 x2 x3 : Int} (h0 : x0 + 1 ≤ x1) (h1 : x0 = x2 + 1) (h2 : x2 = x3 + 1) : x3 ≤ x1 + 1 := by omega
theorem la_row_276 {x0 x1 x2 : Int} (h0 : x0 = x1 + 1) (h1 : x1 = x2 + 1) : x2 ≤ x0 + 1 := by omega
theorem la_row_277 {x0 x1 : Int} (h0 : x0 = x1 + 1) : x1 ≤ x0 + 1 := by omega
theorem la_row_278 {x0 x1 x2 x3 x4 : Int} (h0 : x0 = x1 + 1) (h1 : x2 + 1 ≤ x1) (h2 : x2 = x3 + 1) (h3 : x3 = x4 + 1) : x4 < x0 + 1 := by omega
theorem la_row_279 {x0 x1 x2 x3 : Int} (h0 : x0 + 1 ≤ x1) (h1 : x0 = x2 + 1) (h2 : x2 = x3 + 1) : x3 < x1 + 1 := by omega
theorem la_row_280 {x0 x1 x2 : Int} (h0 : x0 = x1 + 1) (h1 : x1 = x2 + 1) : x2 < x0 + 1 := by omega
theorem la_row_281 {x0 x1 : Int} (h0 : x0 = x1 + 1) : x1 < x0 + 1 := by omega
theorem la_row_282 {x0 x1 x2 x3 x4 x5 x6 x7 x8 x9 x10 : Int} (h0 : 0 ≤ x0) (h1 : x1 = 8 * x0 + 18) (h2 : x2 + 1 ≤ x3) (h3 : x4 = x5 + 1) (h4 : x6 = x7 + 1) (h5 : x7 = x8 + 1) (h6 : x9 + 1 ≤ x8) (h7 : x9 = x10 + 1) (h8 : x10 = x3 + 1) : 2 * x4 ≤ 2 * x5 + (x6 - x2) + x1 := by omega
theorem la_row_283 {x0 x1 x2 x3 x4 : Int} (h0 : x0 = x1 + 1) (h1 : x2 + 1 ≤ x1) (h2 : x2 = x3 + 1) (h3 : x3 = x4 + 1) : x4 + 1 < x0 + 1 := by omega
theorem la_row_284 {x0 x1 x2 x3 : Int} (h0 : x0 + 1 ≤ x1) (h1 : x0 = x2 + 1) (h2 : x2 = x3 + 1) : x3 + 1 < x1 + 1 := by omega
theorem la_row_285 {x0 x1 x2 : Int} (h0 : x0 = x1 + 1) (h1 : x1 = x2 + 1) : x2 + 1 < x0 + 1 := by omega
theorem la_row_286 {x0 x1 : Int} (h0 : x0 = x1 + 1) : x1 + 1 < x0 + 1 := by omega
theorem la_row_287 {x0 x1 x2 x3 x4 x5 x6 x7 x8 x9 x10 x11 : Int} (h0 : 0 ≤ x0) (h1 : x1 = 8 * x0 + 18) (h2 : x2 + 1 ≤ x3) (h3 : x4 = x5 + 1) (h4 : x6 = x7 + 1) (h5 : x7 = x8 + 1) (h6 : x9 + 1 ≤ x8) (h7 : x9 = x10 + 1) (h8 : x10 = x3 + 1) (h9 : x11 = 1) : 2 * (x4 + x11) ≤ 2 * x5 + (x6 - x2) + x1 := by omega
theorem la_row_288 {x0 x1 x2 x3 x4 : Int} (h0 : x0 = x1 + 1) (h1 : x2 + 1 ≤ x1) (h2 : x2 = x3 + 1) (h3 : x3 = x4 + 1) : x4 + 1 + 1 < x0 + 1 := by omega
theorem la_row_289 {x0 x1 x2 x3 : Int} (h0 : x0 + 1 ≤ x1) (h1 : x0 = x2 + 1) (h2 : x2 = x3 + 1) : x3 + 1 + 1 < x1 + 1 := by omega
theorem la_row_290 {x0 x1 x2 : Int} (h0 : x0 = x1 + 1) (h1 : x1 = x2 + 1) : x2 + 1 + 1 < x0 + 1 := by omega
theorem la_row_291 {x0 x1 x2 : Int} (h0 : x0 = x1 + 1) (h1 : x1 = x2 + 1) : x2 + 1 + 1 = x0 := by omega
theorem la_row_292 {x0 x1 x2 x3 x4 x5 x6 x7 x8 x9 x10 x11 x12 x13 : Int} (h0 : 0 ≤ x0) (h1 : x1 = 8 * x0 + 18) (h2 : x2 + 1 ≤ x3) (h3 : x4 = x5 + 1) (h4 : x6 = x7 + 1) (h5 : x7 = x8 + 1) (h6 : x9 + 1 ≤ x8) (h7 : x9 = x10 + 1) (h8 : x11 = 1) (h9 : x10 = x3 + 1) (h10 : x12 = x4 + x13) (h11 : x13 = 1) : 2 * (x12 + x11) ≤ 2 * x5 + (x6 - x2) + x1 := by omega
theorem la_row_293 {x0 x1 x2 x3 x4 : Int} (h0 : x0 = x1 + 1) (h1 : x2 + 1 ≤ x1) (h2 : x2 = x3 + 1) (h3 : x3 = x4 + 1) : x4 + 1 + 1 + 1 < x0 + 1 := by omega
theorem la_row_294 {x0 x1 x2 x3 : Int} (h0 : x0 + 1 ≤ x1) (h1 : x0 = x2 + 1) (h2 : x2 = x3 + 1) : x3 + 1 + 1 + 1 < x1 + 1 := by omega
theorem la_row_295 {x0 x1 x2 : Int} (h0 : x0 = x1 + 1) (h1 : x1 = x2 + 1) : x0 ≤ x2 + 1 + 1 + 1 := by omega
theorem la_row_296 {x0 x1 x2 x3 : Int} (h0 : x0 + 1 ≤ x1) (h1 : x0 = x2 + 1) (h2 : x2 = x3 + 1) : x3 + 1 + 1 + 1 ≤ x1 := by omega
theorem la_row_297 {x0 x1 x2 x3 x4 x5 x6 x7 x8 x9 x10 x11 x12 x13 x14 x15 x16 x17 : Int} (h0 : x0 = 8 * x1 + 18) (h1 : x2 ≤ x1) (h2 : x3 ≤ x2) (h3 : x4 = x3) (h4 : x5 + 1 ≤ x6) (h5 : x7 = x8 + 1) (h6 : x9 = x10 + 1) (h7 : x10 = x11 + 1) (h8 : x12 = x13 + 1) (h9 : x14 = x15 + x16) (h10 : x16 = 1) (h11 : x13 = x6 + 1) (h12 : x15 = x7 + x17) (h13 : x17 = 1) : 2 * x14 + (x11 - x12) + 8 * x4 + 10 ≤ 2 * x8 + (x9 - x5) + x0 := by omega
theorem la_row_298 {x0 x1 x2 x3 x4 x5 x6 x7 x8 x9 x10 x11 x12 x13 x14 x15 : Int} (h0 : 0 ≤ x0) (h1 : x1 = 8 * x0 + 18) (h2 : x2 + 1 ≤ x3) (h3 : x4 = x5 + 1) (h4 : x6 = x7 + 1) (h5 : x7 = x8 + 1) (h6 : x9 + 1 ≤ x8) (h7 : x10 = x11 + 1) (h8 : x9 = x12 + 1) (h9 : x11 = x13 + x14) (h10 : x14 = 1) (h11 : x12 = x3 + 1) (h12 : x13 = x4 + x15) (h13 : x15 = 1) : 2 * x10 ≤ 2 * x5 + (x6 - x2) + x1 := by omega
theorem la_row_299 {x0 x1 x2 x3 x4 x5 x6 x7 x8 x9 x10 x11 x12 x13 x14 x15 x16 : Int} (h0 : 0 ≤ x0) (h1 : x1 = 8 * x0 + 18) (h2 : x2 + 1 ≤ x3) (h3 : x4 = x5 + 1) (h4 : x6 = x7 + 1) (h5 : x7 = x8 + 1) (h6 : x9 = (-2)) (h7 : x10 + 1 ≤ x8) (h8 : x11 = x12 + 1) (h9 : x10 = x13 + 1) (h10 : x12 = x14 + x15) (h11 : x15 = 1) (h12 : x13 = x3 + 1) (h13 : x14 = x4 + x16) (h14 : x16 = 1) : 2 * (x11 + x9) ≤ 2 * x5 + (x6 - x2) + x1 := by omega
theorem la_row_300 {x0 x1 x2 x3 x4 x5 x6 x7 x8 x9 : Int} (h0 : x0 ≤ x1 + 3 * (x2 - x3)) (h1 : x4 = x5 + 1) (h2 : x5 = x6 + 1) (h3 : x7 ≤ x0 + 3 * (x6 - x8)) (h4 : x8 = x9 + 1) (h5 : x9 = x2 + 1) : x7 ≤ x1 + 3 * (x4 - x3) := by omega
theorem la_row_301 {x0 x1 x2 x3 x4 x5 x6 x7 x8 x9 x10 x11 x12 : Int} (h0 : 0 ≤ x0) (h1 : x1 = 3) (h2 : (-1) < x0) (h3 : x2 = (-1)) : ¬ (x0 < x2 ∧ x2 < x3 ∧ x4 = x1 ∧ x5 ≤ x6 ∧ x7 ≤ x8 ∧ x9 ≤ x10 ∧ x11 ≤ x12 ∧ (x1 = 3 ∨ x1 = 6 → x5 < x6) ∧ (x1 = 6 → x12 = 2 → x11 < 2)) := by omega
theorem la_row_302 {x0 x1 x2 x3 : Int} (h0 : x0 < x1) (h1 : x2 = x1 - x0) (h2 : x3 = 0) : x3 < x2 := by omega
theorem la_row_303 {x0 x1 : Int} (h0 : 0 ≤ x0) (h1 : x0 < x1) : (-1) ≤ x1 := by omega
theorem la_row_304 {x0 : Int} (h0 : x0 = 3) : x0 = 3 ∨ x0 = 6 := by omega
theorem la_row_305 {x0 x1 x2 x3 x4 : Int} (h0 : x0 = x1 - x2) (h1 : x3 = x1 - x4) (h2 : x2 < x4) : x3 < x0 := by omega
set_option maxHeartbeats 16000000 in
theorem f_row : ∀ (d : Int) (p1 : Int) (S : sv_S), sm_ok S → sv_R p1 → (sm_WF (S 11) (S 12) (S 13) (S 1100001) (S 1100002) (S 1100005) (S 1100003) (S 1100004) (S 1024 0) (S 1007 0) (S 1009 0) (sm_fn (S 1032 0) (S 21) (S 1056 0)) ∧ (S 1009 0) = 0 ∧ 0 ≤ (S 1007 0) ∧ (S 1007 0) ≤ 90 ∧ 0 ≤ (S 1024 0) ∧ (S 1024 0) ≤ 12000 ∧ 1 ≤ (S 1032 0) ∧ (S 1032 0) ≤ 11 ∧ 0 ≤ (S 1056 0) ∧ (S 1056 0) < (S 1032 0) ∧ sm_VB (S 33) (S 21) (S 1032 0) ∧ 0 ≤ (S 1046 0) ∧ (S 1046 0) ≤ 600 ∧ 0 ≤ (S 1047 0) ∧ (S 1047 0) ≤ 1 ∧ 0 ≤ (S 1053 0) ∧ 0 ≤ (S 1066 0) ∧ -1 ≤ p1 ∧ (¬ p1 = -1 → 0 ≤ p1 ∧ p1 < (S 1024 0) ∧ (S 1100001 p1) = 3 ∧ 0 ≤ (S 1100005 p1) ∧ 0 ≤ (S 1100002 p1) ∧ (S 1100002 p1) ≤ 16 ∧ sm_LF (S 39) (S 1100002) (S 1066 0) (S 1024 0) (12001 * (17 * (S 1100005 p1) + 18))) ∧ (S 1047 0) = 0 ∧ sm_KC (S 26) (S 27) (S 28) (S 29) (S 1100007) (S 1100023) (S 1100024) (S 1100025) (S 31) (S 1100009) (S 1100027) (S 1100028) (S 1100026) (S 1100030) (S 21) (S 32) (S 33) (S 1046 0) (S 1053 0) (S 1056 0) (S 1032 0) (S 1007 0) (S 1100033 0) ∧ (S 1100033 0) = (S 1055 0) ∧ 0 ≤ (S 1055 0) ∧ (S 1055 0) ≤ (S 1046 0) ∧ (0 ≤ (S 1100023 (S 1046 0)) → (S 1100007 (S 1100023 (S 1046 0))) ≤ (S 1100007 (S 1046 0))) ∧ (0 ≤ (S 1100025 (S 1046 0)) → (S 1100007 (S 1100025 (S 1046 0))) ≤ (S 1100007 (S 1046 0))) ∧ (S 1100007 (S 1046 0)) ≤ (S 1046 0) ∧ (S 1053 0) + 3 * (600 - (S 1046 0)) + (if p1 = -1 then 0 else 17 * (S 1100005 p1) + 17) ≤ 8000) → (((if p1 = -1 then 0 else 17 * (S 1100005 p1) + 17)) + (600 - (S 1046 0)) + 8) = d → (sv_R ((if (S 1047 0) = 0 then (S 1055 0) + 1 else 0))) ∧ (((S 1047 0) = 0 → (S 1100033 0) = (S 1055 0) → sm_KC (S 26) (S 27) (S 28) (S 29) (S 1100007) (S 1100023) (S 1100024) (S 1100025) (S 31) (S 1100009) (S 1100027) (S 1100028) (S 1100026) (S 1100030) (S 21) (S 32) (S 33) (S 1046 0) (S 1053 0) (S 1056 0) (S 1032 0) (S 1007 0) (S 1100033 0) → sm_KC (S 26) (S 27) (S 28) (S 29) (S 1100007) (S 1100023) (S 1100024) (S 1100025) (S 31) (S 1100009) (S 1100027) (S 1100028) (S 1100026) (S 1100030) (S 21) (S 32) (S 33) (S 1046 0) (S 1053 0) (S 1056 0) (S 1032 0) (S 1007 0) ((if (S 1047 0) = 0 then (S 1055 0) + 1 else 0))) → (((S 1047 0) = 0 → (if (S 1047 0) = 0 then (S 1055 0) + 1 else 0) = (S 1055 0) + 1) → (((S 1047 0) = 0 → 0 ≤ (S 1055 0) → (S 1055 0) ≤ 600 → 0 ≤ (if (S 1047 0) = 0 then (S 1055 0) + 1 else 0) ∧ (if (S 1047 0) = 0 then (S 1055 0) + 1 else 0) ≤ 601) → (((S 1047 0) = 0 → ((if (S 1047 0) = 0 then (S 1055 0) + 1 else 0)) = (S 1055 0) → sm_KC (S 26) (S 27) (S 28) (S 29) (S 1100007) (S 1100023) (S 1100024) (S 1100025) (S 31) (S 1100009) (S 1100027) (S 1100028) (S 1100026) (S 1100030) (S 21) (S 32) (S 33) (S 1046 0) (S 1053 0) (S 1056 0) (S 1032 0) (S 1007 0) ((if (S 1047 0) = 0 then (S 1055 0) + 1 else 0)) → sm_KC (S 26) (S 27) (S 28) (S 29) (S 1100007) (S 1100023) (S 1100024) (S 1100025) (S 31) (S 1100009) (S 1100027) (S 1100028) (S 1100026) (S 1100030) (S 21) (S 32) (S 33) (S 1046 0) (S 1053 0) (S 1056 0) (S 1032 0) (S 1007 0) ((if (S 1047 0) = 0 then (S 1055 0) + 1 else 0))) → (((S 1047 0) = 0 → (if (S 1047 0) = 0 then (S 1055 0) + 1 else 0) = (S 1055 0) + 1) → (sv_R (S 1055 0) → (0 ≤ (S 1046 0) ∧ (S 1046 0) ≤ 600 ∧ 0 ≤ (S 1047 0) ∧ (S 1047 0) ≤ 1 ∧ ((S 1047 0) = 0 → sm_KC (S 26) (S 27) (S 28) (S 29) (S 1100007) (S 1100023) (S 1100024) (S 1100025) (S 31) (S 1100009) (S 1100027) (S 1100028) (S 1100026) (S 1100030) (S 21) (S 32) (S 33) (S 1046 0) (S 1053 0) (S 1056 0) (S 1032 0) (S 1007 0) ((if (S 1047 0) = 0 then (S 1055 0) + 1 else 0)) ∧ 0 ≤ (8 : Int) ∧ (8 : Int) ≤ 30 ∧ sm_ci (8 : Int) ((S 1055 0)) ((0 : Int)) (S 1100007 (S 1046 0)) (S 1100023 (S 1046 0)) (S 1100024 (S 1046 0)) (S 1100025 (S 1046 0)) (S 1100007 (S 1100023 (S 1046 0))) (S 1100007 (S 1100025 (S 1046 0))) (S 1100023 (S 1100023 (S 1046 0))) (S 1100025 (S 1100025 (S 1046 0))) (S 1046 0) ((if (S 1047 0) = 0 then (S 1055 0) + 1 else 0)) (S 1032 0) (S 1007 0) (S 21 (S 1055 0)) (S 1056 0) ((S 1100007 (S 1046 0)) + sm_dl (8 : Int) ((S 1055 0))) (sm_nt (8 : Int) (S 1046 0) (S 1100023 (S 1046 0)) (S 1100023 (S 1100023 (S 1046 0)))) (sm_nl (8 : Int) (S 1046 0) (S 1100007 (S 1046 0)) (S 1100025 (S 1046 0)) (S 1100007 (S 1100025 (S 1046 0))) (S 1100025 (S 1100025 (S 1046 0)))) (S 1100009 (S 1055 0)) (S 1100027 (S 1055 0)) (S 1100028 (S 1055 0)) ∧ ((21 ≤ (8 : Int) ∧ (8 : Int) ≤ 24) ∨ (8 : Int) = 27 ∨ (8 : Int) = 30 → 0 ≤ (S 1055 0) ∧ (S 1055 0) < (S 1053 0) ∧ (S 1100026 (S 1055 0)) = (S 1056 0)) ∧ ((8 : Int) = 1 ∨ (8 : Int) = 2 → sm_vv (S 21) (S 32) (S 33) (S 1056 0) (S 1055 0) (0 : Int)))) ∧ (0 + 1 ≤ (((if p1 = -1 then 0 else 17 * (S 1100005 p1) + 17)) + (600 - (S 1046 0)) + 8)) ∧ (∀ g14 : sv_S, (0 ≤ (g14 1047 0) ∧ (g14 1047 0) ≤ 1 ∧ 1 ≤ (g14 1046 0) ∧ (S 1046 0) ≤ (g14 1046 0) ∧ (g14 1046 0) ≤ (S 1046 0) + 1 ∧ (g14 1046 0) ≤ 600 ∧ ((S 1047 0) = 1 → (g14 1047 0) = 1) ∧ ((g14 1047 0) = 1 → (S 1047 0) = 1 ∨ (S 1046 0) = 600) ∧ sm_F1 (S 26) (g14 26) (S 1046 0) ∧ sm_F1 (S 27) (g14 27) (S 1046 0) ∧ sm_F1 (S 28) (g14 28) (S 1046 0) ∧ sm_F1 (S 29) (g14 29) (S 1046 0) ∧ sm_F1 (S 1100007) (g14 1100007) ((S 1046 0) + 1) ∧ sm_F1 (S 1100023) (g14 1100023) ((S 1046 0) + 1) ∧ sm_F1 (S 1100024) (g14 1100024) ((S 1046 0) + 1) ∧ sm_F1 (S 1100025) (g14 1100025) ((S 1046 0) + 1) ∧ ((g14 1047 0) = 0 → (S 1047 0) = 0 ∧ (g14 1046 0) = (S 1046 0) + 1 ∧ sm_KC (g14 26) (g14 27) (g14 28) (g14 29) (g14 1100007) (g14 1100023) (g14 1100024) (g14 1100025) (S 31) (S 1100009) (S 1100027) (S 1100028) (S 1100026) (S 1100030) (S 21) (S 32) (S 33) (g14 1046 0) (S 1053 0) (S 1056 0) (S 1032 0) (S 1007 0) ((if (S 1047 0) = 0 then (S 1055 0) + 1 else 0)) ∧ sm_MB (S 31) (S 1100030) (S 1053 0) (g14 1046 0) ∧ (g14 26 (S 1046 0)) = (8 : Int) ∧ (g14 29 (S 1046 0)) = (S 1056 0) ∧ (g14 1100007 (g14 1046 0)) = ((S 1100007 (S 1046 0)) + sm_dl (8 : Int) ((S 1055 0))) ∧ (g14 1100023 (g14 1046 0)) = (sm_nt (8 : Int) (S 1046 0) (S 1100023 (S 1046 0)) (S 1100023 (S 1100023 (S 1046 0)))) ∧ (g14 1100024 (g14 1046 0)) = (sm_nd (8 : Int) (S 1100024 (S 1046 0))) ∧ (g14 1100025 (g14 1046 0)) = (sm_nl (8 : Int) (S 1046 0) (S 1100007 (S 1046 0)) (S 1100025 (S 1046 0)) (S 1100007 (S 1100025 (S 1046 0))) (S 1100025 (S 1100025 (S 1046 0)))) ∧ (g14 1100007 (g14 1100023 (g14 1046 0))) = sm_nt (8 : Int) (S 1100007 (S 1046 0)) (S 1100007 (S 1100023 (S 1046 0))) (S 1100007 (S 1100023 (S 1100023 (S 1046 0)))) ∧ ((8 : Int) = 29 → (g14 1100007 (g14 1100025 (g14 1046 0))) = (S 1100007 (S 1046 0))) ∧ ((8 : Int) = 17 → 0 ≤ (S 1100025 (S 1046 0)) → (S 1100007 (S 1100025 (S 1046 0))) = (S 1100007 (S 1046 0)) → (g14 1100007 (g14 1100025 (g14 1046 0))) = (S 1100007 (S 1100025 (S 1100025 (S 1046 0))))) ∧ (¬ (8 : Int) = 29 → ((8 : Int) = 17 → 0 ≤ (S 1100025 (S 1046 0)) → (S 1100007 (S 1100025 (S 1046 0))) < (S 1100007 (S 1046 0))) → (g14 1100007 (g14 1100025 (g14 1046 0))) = (S 1100007 (S 1100025 (S 1046 0)))))) → (∀ r19 : Int, sv_R r19 → (sv_R ((S 1055 0) + (1 : Int)) → r19 = ((S 1055 0) + (1 : Int))) → ((0 ≤ (g14 1046 0) ∧ (g14 1046 0) ≤ 600 ∧ 0 ≤ (g14 1047 0) ∧ (g14 1047 0) ≤ 1 ∧ 0 ≤ (S 1053 0) ∧ 0 ≤ (S 1066 0) ∧ 0 ≤ (0 : Int) ∧ (0 : Int) ≤ 16 ∧ (p1 = -1 → p1 = -1) ∧ (¬ p1 = -1 → (p1 = -1 ∨ (0 ≤ p1 ∧ p1 < (S 1024 0) ∧ (S 1100001 p1) = 3 ∧ (0 : Int) + (S 1100002 p1) ≤ (S 1100002 p1) ∧ (S 1100005 p1) ≤ (S 1100005 p1)))) ∧ (¬ p1 = -1 → sm_LF (S 39) (S 1100002) (S 1066 0) (S 1024 0) (12001 * (17 * (S 1100005 p1) + 18))) ∧ 0 ≤ (g14 1046 0) ∧ (g14 1046 0) ≤ 600 ∧ 0 ≤ (g14 1047 0) ∧ (g14 1047 0) ≤ 1 ∧ 0 ≤ (S 1053 0) ∧ 0 ≤ (S 1066 0) ∧ (S 1046 0) ≤ (g14 1046 0) ∧ ((S 1047 0) = 1 → (g14 1047 0) = 1) ∧ sm_F1 (S 26) (g14 26) (S 1046 0) ∧ sm_F1 (S 27) (g14 27) (S 1046 0) ∧ sm_F1 (S 28) (g14 28) (S 1046 0) ∧ sm_F1 (S 29) (g14 29) (S 1046 0) ∧ sm_F1 (S 1100007) (g14 1100007) ((S 1046 0) + 1) ∧ sm_F1 (S 1100023) (g14 1100023) ((S 1046 0) + 1) ∧ sm_F1 (S 1100024) (g14 1100024) ((S 1046 0) + 1) ∧ sm_F1 (S 1100025) (g14 1100025) ((S 1046 0) + 1) ∧ sm_F1 (S 1100009) (S 1100009) (S 1053 0) ∧ sm_F1 (S 1100027) (S 1100027) (S 1053 0) ∧ sm_F1 (S 1100028) (S 1100028) (S 1053 0) ∧ sm_F1 (S 1100026) (S 1100026) (S 1053 0) ∧ sm_F1 (S 1100030) (S 1100030) (S 1053 0) ∧ sm_F1 (S 31) (S 31) (S 1053 0) ∧ (S 1053 0) ≤ (S 1053 0) ∧ (S 1066 0) = (S 1066 0) ∧ sm_F1 (S 39) (S 39) (S 1066 0) ∧ ((S 1047 0) = 1 → (S 1053 0) = (S 1053 0)) ∧ ((S 1047 0) = 0 → (S 1053 0) ≤ (S 1053 0) + 3 * (600 - (S 1046 0)) + (if p1 = -1 then 0 else 17 * (S 1100005 p1) + 17)) ∧ ((g14 1047 0) = 0 → (S 1047 0) = 0 ∧ sm_KC (g14 26) (g14 27) (g14 28) (g14 29) (g14 1100007) (g14 1100023) (g14 1100024) (g14 1100025) (S 31) (S 1100009) (S 1100027) (S 1100028) (S 1100026) (S 1100030) (S 21) (S 32) (S 33) (g14 1046 0) (S 1053 0) (S 1056 0) (S 1032 0) (S 1007 0) ((if (S 1047 0) = 0 then (S 1055 0) + 1 else 0)) ∧ ((if (S 1047 0) = 0 then (S 1055 0) + 1 else 0)) = r19 ∧ 0 ≤ r19 ∧ r19 ≤ (g14 1046 0) ∧ (S 1046 0) + 1 ≤ (g14 1046 0) ∧ sm_FC (g14 29) (S 1046 0) (g14 1046 0) (S 1056 0) ∧ (g14 1100007 (g14 1046 0)) = (S 1100007 (S 1046 0)) + 1 ∧ (g14 1100023 (g14 1046 0)) = (S 1100023 (S 1046 0)) ∧ (g14 1100024 (g14 1046 0)) = (S 1100024 (S 1046 0)) ∧ (g14 1100025 (g14 1046 0)) = (S 1100025 (S 1046 0)) ∧ (g14 1100007 (g14 1100023 (g14 1046 0))) = (S 1100007 (S 1100023 (S 1046 0))) ∧ (g14 1100007 (g14 1100025 (g14 1046 0))) = (S 1100007 (S 1100025 (S 1046 0))) ∧ sm_AP (S 1100030) (S 1053 0) (S 1053 0) ∧ sm_HB (g14 1100007) (S 1046 0) (g14 1046 0) (2 * (S 1100007 (S 1046 0)) + ((g14 1046 0) - (S 1046 0)) + (if p1 = -1 then 10 else 8 * (S 1100005 p1) + 18)) ∧ (S 1053 0) ≤ (S 1053 0) + 3 * ((g14 1046 0) - (S 1046 0)) ∧ True)) ∧ (∀ l2_23 : Int, sv_R l2_23 → ∀ l3_24 : Int, sv_R l3_24 → ∀ g22 : sv_S, (0 ≤ (g22 1046 0) ∧ (g22 1046 0) ≤ 600 ∧ 0 ≤ (g22 1047 0) ∧ (g22 1047 0) ≤ 1 ∧ 0 ≤ (g22 1053 0) ∧ 0 ≤ (g22 1066 0) ∧ 0 ≤ l2_23 ∧ l2_23 ≤ 16 ∧ (p1 = -1 → l3_24 = -1) ∧ (¬ p1 = -1 → (l3_24 = -1 ∨ (0 ≤ l3_24 ∧ l3_24 < (S 1024 0) ∧ (S 1100001 l3_24) = 3 ∧ l2_23 + (S 1100002 l3_24) ≤ (S 1100002 p1) ∧ (S 1100005 l3_24) ≤ (S 1100005 p1)))) ∧ (¬ p1 = -1 → sm_LF (g22 39) (S 1100002) (g22 1066 0) (S 1024 0) (12001 * (17 * (S 1100005 p1) + 18))) ∧ 0 ≤ (g22 1046 0) ∧ (g22 1046 0) ≤ 600 ∧ 0 ≤ (g22 1047 0) ∧ (g22 1047 0) ≤ 1 ∧ 0 ≤ (g22 1053 0) ∧ 0 ≤ (g22 1066 0) ∧ (S 1046 0) ≤ (g22 1046 0) ∧ ((S 1047 0) = 1 → (g22 1047 0) = 1) ∧ sm_F1 (S 26) (g22 26) (S 1046 0) ∧ sm_F1 (S 27) (g22 27) (S 1046 0) ∧ sm_F1 (S 28) (g22 28) (S 1046 0) ∧ sm_F1 (S 29) (g22 29) (S 1046 0) ∧ sm_F1 (S 1100007) (g22 1100007) ((S 1046 0) + 1) ∧ sm_F1 (S 1100023) (g22 1100023) ((S 1046 0) + 1) ∧ sm_F1 (S 1100024) (g22 1100024) ((S 1046 0) + 1) ∧ sm_F1 (S 1100025) (g22 1100025) ((S 1046 0) + 1) ∧ sm_F1 (S 1100009) (g22 1100009) (S 1053 0) ∧ sm_F1 (S 1100027) (g22 1100027) (S 1053 0) ∧ sm_F1 (S 1100028) (g22 1100028) (S 1053 0) ∧ sm_F1 (S 1100026) (g22 1100026) (S 1053 0) ∧ sm_F1 (S 1100030) (g22 1100030) (S 1053 0) ∧ sm_F1 (S 31) (g22 31) (S 1053 0) ∧ (S 1053 0) ≤ (g22 1053 0) ∧ (g22 1066 0) = (S 1066 0) ∧ sm_F1 (S 39) (g22 39) (S 1066 0) ∧ ((S 1047 0) = 1 → (g22 1053 0) = (S 1053 0)) ∧ ((S 1047 0) = 0 → (g22 1053 0) ≤ (S 1053 0) + 3 * (600 - (S 1046 0)) + (if p1 = -1 then 0 else 17 * (S 1100005 p1) + 17)) ∧ ((g22 1047 0) = 0 → (S 1047 0) = 0 ∧ sm_KC (g22 26) (g22 27) (g22 28) (g22 29) (g22 1100007) (g22 1100023) (g22 1100024) (g22 1100025) (g22 31) (g22 1100009) (g22 1100027) (g22 1100028) (g22 1100026) (g22 1100030) (S 21) (S 32) (S 33) (g22 1046 0) (g22 1053 0) (S 1056 0) (S 1032 0) (S 1007 0) (g22 1100033 0) ∧ (g22 1100033 0) = (g22 1055 0) ∧ 0 ≤ (g22 1055 0) ∧ (g22 1055 0) ≤ (g22 1046 0) ∧ (S 1046 0) + 1 ≤ (g22 1046 0) ∧ sm_FC (g22 29) (S 1046 0) (g22 1046 0) (S 1056 0) ∧ (g22 1100007 (g22 1046 0)) = (S 1100007 (S 1046 0)) + 1 ∧ (g22 1100023 (g22 1046 0)) = (S 1100023 (S 1046 0)) ∧ (g22 1100024 (g22 1046 0)) = (S 1100024 (S 1046 0)) ∧ (g22 1100025 (g22 1046 0)) = (S 1100025 (S 1046 0)) ∧ (g22 1100007 (g22 1100023 (g22 1046 0))) = (S 1100007 (S 1100023 (S 1046 0))) ∧ (g22 1100007 (g22 1100025 (g22 1046 0))) = (S 1100007 (S 1100025 (S 1046 0))) ∧ sm_AP (g22 1100030) (S 1053 0) (g22 1053 0) ∧ sm_HB (g22 1100007) (S 1046 0) (g22 1046 0) (2 * (S 1100007 (S 1046 0)) + ((g22 1046 0) - (S 1046 0)) + (if p1 = -1 then 10 else 8 * (S 1100005 p1) + 18)) ∧ (g22 1053 0) ≤ (S 1053 0) + 3 * ((g22 1046 0) - (S 1046 0)) ∧ True)) → (0 ≤ (if l3_24 = -1 then 0 else (S 1024 0) - l3_24)) ∧ (((l3_24 = (-1 : Int)) → (0 ≤ (g22 1046 0) ∧ (g22 1046 0) ≤ 600 ∧ 0 ≤ (g22 1047 0) ∧ (g22 1047 0) ≤ 1 ∧ 0 ≤ (g22 1053 0) ∧ 0 ≤ (g22 1066 0) ∧ (S 1046 0) ≤ (g22 1046 0) ∧ ((S 1047 0) = 1 → (g22 1047 0) = 1) ∧ sm_F1 (S 26) (g22 26) (S 1046 0) ∧ sm_F1 (S 27) (g22 27) (S 1046 0) ∧ sm_F1 (S 28) (g22 28) (S 1046 0) ∧ sm_F1 (S 29) (g22 29) (S 1046 0) ∧ sm_F1 (S 1100007) (g22 1100007) ((S 1046 0) + 1) ∧ sm_F1 (S 1100023) (g22 1100023) ((S 1046 0) + 1) ∧ sm_F1 (S 1100024) (g22 1100024) ((S 1046 0) + 1) ∧ sm_F1 (S 1100025) (g22 1100025) ((S 1046 0) + 1) ∧ sm_F1 (S 1100009) (g22 1100009) (S 1053 0) ∧ sm_F1 (S 1100027) (g22 1100027) (S 1053 0) ∧ sm_F1 (S 1100028) (g22 1100028) (S 1053 0) ∧ sm_F1 (S 1100026) (g22 1100026) (S 1053 0) ∧ sm_F1 (S 1100030) (g22 1100030) (S 1053 0) ∧ sm_F1 (S 31) (g22 31) (S 1053 0) ∧ (S 1053 0) ≤ (g22 1053 0) ∧ (g22 1066 0) = (S 1066 0) ∧ sm_F1 (S 39) (g22 39) (S 1066 0) ∧ ((S 1047 0) = 1 → (g22 1053 0) = (S 1053 0)) ∧ ((S 1047 0) = 0 → (g22 1053 0) ≤ (S 1053 0) + 3 * (600 - (S 1046 0)) + (if p1 = -1 then 0 else 17 * (S 1100005 p1) + 17)) ∧ ((g22 1047 0) = 0 → (S 1047 0) = 0 ∧ sm_KC (g22 26) (g22 27) (g22 28) (g22 29) (g22 1100007) (g22 1100023) (g22 1100024) (g22 1100025) (g22 31) (g22 1100009) (g22 1100027) (g22 1100028) (g22 1100026) (g22 1100030) (S 21) (S 32) (S 33) (g22 1046 0) (g22 1053 0) (S 1056 0) (S 1032 0) (S 1007 0) (g22 1100033 0) ∧ (g22 1100033 0) = (g22 1055 0) ∧ 0 ≤ (g22 1055 0) ∧ (g22 1055 0) ≤ (g22 1046 0) ∧ (S 1046 0) + 1 ≤ (g22 1046 0) ∧ sm_FC (g22 29) (S 1046 0) (g22 1046 0) (S 1056 0) ∧ (g22 1100007 (g22 1046 0)) = (S 1100007 (S 1046 0)) + 1 ∧ (g22 1100023 (g22 1046 0)) = (S 1100023 (S 1046 0)) ∧ (g22 1100024 (g22 1046 0)) = (S 1100024 (S 1046 0)) ∧ (g22 1100025 (g22 1046 0)) = (S 1100025 (S 1046 0)) ∧ (g22 1100007 (g22 1100023 (g22 1046 0))) = (S 1100007 (S 1100023 (S 1046 0))) ∧ (g22 1100007 (g22 1100025 (g22 1046 0))) = (S 1100007 (S 1100025 (S 1046 0))) ∧ sm_AP (g22 1100030) (S 1053 0) (g22 1053 0) ∧ sm_HB (g22 1100007) (S 1046 0) (g22 1046 0) (2 * (S 1100007 (S 1046 0)) + ((g22 1046 0) - (S 1046 0)) + (if p1 = -1 then 10 else 8 * (S 1100005 p1) + 18)) ∧ (g22 1053 0) ≤ (S 1053 0) + 3 * ((g22 1046 0) - (S 1046 0)) ∧ True))) ∧ ((¬ (l3_24 = (-1 : Int))) → (((p1 = -1 → l3_24 = -1) → ¬ l3_24 = -1 → ¬ p1 = -1) → ((sm_WF (S 11) (S 12) (S 13) (S 1100001) (S 1100002) (S 1100005) (S 1100003) (S 1100004) (S 1024 0) (S 1007 0) (S 1009 0) (sm_fn (S 1032 0) (S 21) (S 1056 0)) → 0 ≤ l3_24 → l3_24 < (S 1024 0) → ((S 1100001 (l3_24)) = 1 → 0 ≤ (S 1100002 (l3_24)) ∧ ((S 11 (l3_24)) = 3 → (S 12 (5 * (l3_24) + 1)) < (l3_24)) ∧ ((S 11 (l3_24)) = 4 ∨ (S 11 (l3_24)) = 5 ∨ (S 11 (l3_24)) = 8 ∨ (S 11 (l3_24)) = 9 → 17 * (S 1100005 (l3_24)) + 2 ≤ (S 1100002 (l3_24))) ∧ 0 ≤ (S 1100005 (l3_24))) ∧ ((S 1100001 (l3_24)) = 2 → 0 ≤ (S 1100005 (l3_24)) ∧ (S 1100002 (l3_24)) ≤ 17 * (S 1100005 (l3_24)) + 5 ∧ ((S 11 (l3_24)) = 33 → 1 ≤ (S 1100005 (l3_24)))) ∧ ((S 1100001 (l3_24)) = 6 → 0 ≤ (S 1100002 (l3_24)) ∧ 1 ≤ (S 1100004 (l3_24)) ∧ ((S 12 (5 * (l3_24))) = - 1 → (S 1100004 (l3_24)) = 2)) ∧ ((S 1100001 (l3_24)) = 3 → 1 ≤ (S 1100002 (l3_24)))) → ((sm_WF (S 11) (S 12) (S 13) (S 1100001) (S 1100002) (S 1100005) (S 1100003) (S 1100004) (S 1024 0) (S 1007 0) (S 1009 0) (sm_fn (S 1032 0) (S 21) (S 1056 0)) → 0 ≤ l3_24 → l3_24 < (S 1024 0) → (S 1100001 l3_24) = 3 → sm_ex (S 1100001) (S 1100002) (S 1100005) (S 1024 0) 1 ((S 12 (5 * (l3_24)))) (17 * (S 1100005 (l3_24)) + 17) ((S 1100005 (l3_24)))) → ((sm_nm (S 1007 0) (S 1009 0) ((S 12 (5 * l3_24 + 1))) → (S 1009 0) = 0 → 0 ≤ (S 12 (5 * l3_24 + 1)) ∧ (S 12 (5 * l3_24 + 1)) < (S 1007 0)) → ((sm_WF (S 11) (S 12) (S 13) (S 1100001) (S 1100002) (S 1100005) (S 1100003) (S 1100004) (S 1024 0) (S 1007 0) (S 1009 0) (sm_fn (S 1032 0) (S 21) (S 1056 0)) → 0 ≤ l3_24 → l3_24 < (S 1024 0) → 2 ≤ (S 1100001 l3_24) → (S 13 (l3_24)) = - 1 ∨ ((l3_24) < (S 13 (l3_24)) ∧ (S 13 (l3_24)) < (S 1024 0) ∧ (S 1100001 ((S 13 (l3_24)))) = (S 1100001 (l3_24)) ∧ (S 1100002 ((S 13 (l3_24)))) ≤ (S 1100002 (l3_24)) ∧ (S 1100005 ((S 13 (l3_24)))) ≤ (S 1100005 (l3_24)) ∧ (S 1100003 ((S 13 (l3_24)))) ≤ (S 1100003 (l3_24)) ∧ (S 1100004 ((S 13 (l3_24)))) ≤ (S 1100004 (l3_24)) ∧ ((S 1100001 (l3_24)) = 3 ∨ (S 1100001 (l3_24)) = 6 → (S 1100002 ((S 13 (l3_24)))) < (S 1100002 (l3_24))) ∧ ((S 1100001 (l3_24)) = 6 → (S 1100004 (l3_24)) = 2 → (S 1100004 ((S 13 (l3_24)))) < 2))) → ((sm_WF (S 11) (S 12) (S 13) (S 1100001) (S 1100002) (S 1100005) (S 1100003) (S 1100004) (S 1024 0) (S 1007 0) (S 1009 0) (sm_fn (S 1032 0) (S 21) (S 1056 0)) → 0 ≤ (S 12 (5 * l3_24)) → (S 12 (5 * l3_24)) < (S 1024 0) → ((S 1100001 ((S 12 (5 * l3_24)))) = 1 → 0 ≤ (S 1100002 ((S 12 (5 * l3_24)))) ∧ ((S 11 ((S 12 (5 * l3_24)))) = 3 → (S 12 (5 * ((S 12 (5 * l3_24))) + 1)) < ((S 12 (5 * l3_24)))) ∧ ((S 11 ((S 12 (5 * l3_24)))) = 4 ∨ (S 11 ((S 12 (5 * l3_24)))) = 5 ∨ (S 11 ((S 12 (5 * l3_24)))) = 8 ∨ (S 11 ((S 12 (5 * l3_24)))) = 9 → 17 * (S 1100005 ((S 12 (5 * l3_24)))) + 2 ≤ (S 1100002 ((S 12 (5 * l3_24))))) ∧ 0 ≤ (S 1100005 ((S 12 (5 * l3_24))))) ∧ ((S 1100001 ((S 12 (5 * l3_24)))) = 2 → 0 ≤ (S 1100005 ((S 12 (5 * l3_24)))) ∧ (S 1100002 ((S 12 (5 * l3_24)))) ≤ 17 * (S 1100005 ((S 12 (5 * l3_24)))) + 5 ∧ ((S 11 ((S 12 (5 * l3_24)))) = 33 → 1 ≤ (S 1100005 ((S 12 (5 * l3_24)))))) ∧ ((S 1100001 ((S 12 (5 * l3_24)))) = 6 → 0 ≤ (S 1100002 ((S 12 (5 * l3_24)))) ∧ 1 ≤ (S 1100004 ((S 12 (5 * l3_24)))) ∧ ((S 12 (5 * ((S 12 (5 * l3_24))))) = - 1 → (S 1100004 ((S 12 (5 * l3_24)))) = 2)) ∧ ((S 1100001 ((S 12 (5 * l3_24)))) = 3 → 1 ≤ (S 1100002 ((S 12 (5 * l3_24)))))) → (((S 1100005 (S 12 (5 * l3_24 + 0))) = (S 1100005 (S 12 (5 * l3_24)))) → (((S 1100002 (S 12 (5 * l3_24 + 0))) = (S 1100002 (S 12 (5 * l3_24)))) → ((0 ≤ (g22 1047 0) ∧ (g22 1047 0) ≤ 1) → (((¬ (g22 1047 0) = (0 : Int)) → (0 ≤ (g22 1046 0) ∧ (g22 1046 0) ≤ 600 ∧ 0 ≤ (g22 1047 0) ∧ (g22 1047 0) ≤ 1 ∧ 0 ≤ (g22 1053 0) ∧ 0 ≤ (g22 1066 0) ∧ (S 1046 0) ≤ (g22 1046 0) ∧ ((S 1047 0) = 1 → (g22 1047 0) = 1) ∧ sm_F1 (S 26) (g22 26) (S 1046 0) ∧ sm_F1 (S 27) (g22 27) (S 1046 0) ∧ sm_F1 (S 28) (g22 28) (S 1046 0) ∧ sm_F1 (S 29) (g22 29) (S 1046 0) ∧ sm_F1 (S 1100007) (g22 1100007) ((S 1046 0) + 1) ∧ sm_F1 (S 1100023) (g22 1100023) ((S 1046 0) + 1) ∧ sm_F1 (S 1100024) (g22 1100024) ((S 1046 0) + 1) ∧ sm_F1 (S 1100025) (g22 1100025) ((S 1046 0) + 1) ∧ sm_F1 (S 1100009) (g22 1100009) (S 1053 0) ∧ sm_F1 (S 1100027) (g22 1100027) (S 1053 0) ∧ sm_F1 (S 1100028) (g22 1100028) (S 1053 0) ∧ sm_F1 (S 1100026) (g22 1100026) (S 1053 0) ∧ sm_F1 (S 1100030) (g22 1100030) (S 1053 0) ∧ sm_F1 (S 31) (g22 31) (S 1053 0) ∧ (S 1053 0) ≤ (g22 1053 0) ∧ (g22 1066 0) = (S 1066 0) ∧ sm_F1 (S 39) (g22 39) (S 1066 0) ∧ ((S 1047 0) = 1 → (g22 1053 0) = (S 1053 0)) ∧ ((S 1047 0) = 0 → (g22 1053 0) ≤ (S 1053 0) + 3 * (600 - (S 1046 0)) + (if p1 = -1 then 0 else 17 * (S 1100005 p1) + 17)) ∧ ((g22 1047 0) = 0 → (S 1047 0) = 0 ∧ sm_KC (g22 26) (g22 27) (g22 28) (g22 29) (g22 1100007) (g22 1100023) (g22 1100024) (g22 1100025) (g22 31) (g22 1100009) (g22 1100027) (g22 1100028) (g22 1100026) (g22 1100030) (S 21) (S 32) (S 33) (g22 1046 0) (g22 1053 0) (S 1056 0) (S 1032 0) (S 1007 0) (g22 1100033 0) ∧ (g22 1100033 0) = (g22 1055 0) ∧ 0 ≤ (g22 1055 0) ∧ (g22 1055 0) ≤ (g22 1046 0) ∧ (S 1046 0) + 1 ≤ (g22 1046 0) ∧ sm_FC (g22 29) (S 1046 0) (g22 1046 0) (S 1056 0) ∧ (g22 1100007 (g22 1046 0)) = (S 1100007 (S 1046 0)) + 1 ∧ (g22 1100023 (g22 1046 0)) = (S 1100023 (S 1046 0)) ∧ (g22 1100024 (g22 1046 0)) = (S 1100024 (S 1046 0)) ∧ (g22 1100025 (g22 1046 0)) = (S 1100025 (S 1046 0)) ∧ (g22 1100007 (g22 1100023 (g22 1046 0))) = (S 1100007 (S 1100023 (S 1046 0))) ∧ (g22 1100007 (g22 1100025 (g22 1046 0))) = (S 1100007 (S 1100025 (S 1046 0))) ∧ sm_AP (g22 1100030) (S 1053 0) (g22 1053 0) ∧ sm_HB (g22 1100007) (S 1046 0) (g22 1046 0) (2 * (S 1100007 (S 1046 0)) + ((g22 1046 0) - (S 1046 0)) + (if p1 = -1 then 10 else 8 * (S 1100005 p1) + 18)) ∧ (g22 1053 0) ≤ (S 1053 0) + 3 * ((g22 1046 0) - (S 1046 0)) ∧ True))) ∧ ((¬ (¬ (g22 1047 0) = (0 : Int))) → (0 ≤ (g22 1046 0) ∧ (g22 1046 0) ≤ 600 ∧ 0 ≤ (g22 1047 0) ∧ (g22 1047 0) ≤ 1 ∧ ((g22 1047 0) = 0 → sm_KC (g22 26) (g22 27) (g22 28) (g22 29) (g22 1100007) (g22 1100023) (g22 1100024) (g22 1100025) (g22 31) (g22 1100009) (g22 1100027) (g22 1100028) (g22 1100026) (g22 1100030) (S 21) (S 32) (S 33) (g22 1046 0) (g22 1053 0) (S 1056 0) (S 1032 0) (S 1007 0) (g22 1100033 0) ∧ 0 ≤ (18 : Int) ∧ (18 : Int) ≤ 30 ∧ sm_ci (18 : Int) ((0 : Int)) ((0 : Int)) (g22 1100007 (g22 1046 0)) (g22 1100023 (g22 1046 0)) (g22 1100024 (g22 1046 0)) (g22 1100025 (g22 1046 0)) (g22 1100007 (g22 1100023 (g22 1046 0))) (g22 1100007 (g22 1100025 (g22 1046 0))) (g22 1100023 (g22 1100023 (g22 1046 0))) (g22 1100025 (g22 1100025 (g22 1046 0))) (g22 1046 0) (g22 1100033 0) (S 1032 0) (S 1007 0) (S 21 (0 : Int)) (S 1056 0) ((g22 1100007 (g22 1046 0)) + sm_dl (18 : Int) ((0 : Int))) (sm_nt (18 : Int) (g22 1046 0) (g22 1100023 (g22 1046 0)) (g22 1100023 (g22 1100023 (g22 1046 0)))) (sm_nl (18 : Int) (g22 1046 0) (g22 1100007 (g22 1046 0)) (g22 1100025 (g22 1046 0)) (g22 1100007 (g22 1100025 (g22 1046 0))) (g22 1100025 (g22 1100025 (g22 1046 0)))) (g22 1100009 (0 : Int)) (g22 1100027 (0 : Int)) (g22 1100028 (0 : Int)) ∧ ((21 ≤ (18 : Int) ∧ (18 : Int) ≤ 24) ∨ (18 : Int) = 27 ∨ (18 : Int) = 30 → 0 ≤ (0 : Int) ∧ (0 : Int) < (g22 1053 0) ∧ (g22 1100026 (0 : Int)) = (S 1056 0)) ∧ ((18 : Int) = 1 ∨ (18 : Int) = 2 → sm_vv (S 21) (S 32) (S 33) (S 1056 0) (0 : Int) (0 : Int)))) ∧ (1 + 1 ≤ (((if p1 = -1 then 0 else 17 * (S 1100005 p1) + 17)) + (600 - (S 1046 0)) + 8)) ∧ (∀ g41 : sv_S, (0 ≤ (g41 1047 0) ∧ (g41 1047 0) ≤ 1 ∧ 1 ≤ (g41 1046 0) ∧ (g22 1046 0) ≤ (g41 1046 0) ∧ (g41 1046 0) ≤ (g22 1046 0) + 1 ∧ (g41 1046 0) ≤ 600 ∧ ((g22 1047 0) = 1 → (g41 1047 0) = 1) ∧ ((g41 1047 0) = 1 → (g22 1047 0) = 1 ∨ (g22 1046 0) = 600) ∧ sm_F1 (g22 26) (g41 26) (g22 1046 0) ∧ sm_F1 (g22 27) (g41 27) (g22 1046 0) ∧ sm_F1 (g22 28) (g41 28) (g22 1046 0) ∧ sm_F1 (g22 29) (g41 29) (g22 1046 0) ∧ sm_F1 (g22 1100007) (g41 1100007) ((g22 1046 0) + 1) ∧ sm_F1 (g22 1100023) (g41 1100023) ((g22 1046 0) + 1) ∧ sm_F1 (g22 1100024) (g41 1100024) ((g22 1046 0) + 1) ∧ sm_F1 (g22 1100025) (g41 1100025) ((g22 1046 0) + 1) ∧ ((g41 1047 0) = 0 → (g22 1047 0) = 0 ∧ (g41 1046 0) = (g22 1046 0) + 1 ∧ sm_KC (g41 26) (g41 27) (g41 28) (g41 29) (g41 1100007) (g41 1100023) (g41 1100024) (g41 1100025) (g22 31) (g22 1100009) (g22 1100027) (g22 1100028) (g22 1100026) (g22 1100030) (S 21) (S 32) (S 33) (g41 1046 0) (g22 1053 0) (S 1056 0) (S 1032 0) (S 1007 0) (g22 1100033 0) ∧ sm_MB (g22 31) (g22 1100030) (g22 1053 0) (g41 1046 0) ∧ (g41 26 (g22 1046 0)) = (18 : Int) ∧ (g41 29 (g22 1046 0)) = (S 1056 0) ∧ (g41 1100007 (g41 1046 0)) = ((g22 1100007 (g22 1046 0)) + sm_dl (18 : Int) ((0 : Int))) ∧ (g41 1100023 (g41 1046 0)) = (sm_nt (18 : Int) (g22 1046 0) (g22 1100023 (g22 1046 0)) (g22 1100023 (g22 1100023 (g22 1046 0)))) ∧ (g41 1100024 (g41 1046 0)) = (sm_nd (18 : Int) (g22 1100024 (g22 1046 0))) ∧ (g41 1100025 (g41 1046 0)) = (sm_nl (18 : Int) (g22 1046 0) (g22 1100007 (g22 1046 0)) (g22 1100025 (g22 1046 0)) (g22 1100007 (g22 1100025 (g22 1046 0))) (g22 1100025 (g22 1100025 (g22 1046 0)))) ∧ (g41 1100007 (g41 1100023 (g41 1046 0))) = sm_nt (18 : Int) (g22 1100007 (g22 1046 0)) (g22 1100007 (g22 1100023 (g22 1046 0))) (g22 1100007 (g22 1100023 (g22 1100023 (g22 1046 0)))) ∧ ((18 : Int) = 29 → (g41 1100007 (g41 1100025 (g41 1046 0))) = (g22 1100007 (g22 1046 0))) ∧ ((18 : Int) = 17 → 0 ≤ (g22 1100025 (g22 1046 0)) → (g22 1100007 (g22 1100025 (g22 1046 0))) = (g22 1100007 (g22 1046 0)) → (g41 1100007 (g41 1100025 (g41 1046 0))) = (g22 1100007 (g22 1100025 (g22 1100025 (g22 1046 0))))) ∧ (¬ (18 : Int) = 29 → ((18 : Int) = 17 → 0 ≤ (g22 1100025 (g22 1046 0)) → (g22 1100007 (g22 1100025 (g22 1046 0))) < (g22 1100007 (g22 1046 0))) → (g41 1100007 (g41 1100025 (g41 1046 0))) = (g22 1100007 (g22 1100025 (g22 1046 0)))))) → (0 ≤ (g41 1046 0) ∧ (g41 1046 0) ≤ 600 ∧ 0 ≤ (g41 1047 0) ∧ (g41 1047 0) ≤ 1 ∧ ((g41 1047 0) = 0 → sm_KC (g41 26) (g41 27) (g41 28) (g41 29) (g41 1100007) (g41 1100023) (g41 1100024) (g41 1100025) (g22 31) (g22 1100009) (g22 1100027) (g22 1100028) (g22 1100026) (g22 1100030) (S 21) (S 32) (S 33) (g41 1046 0) (g22 1053 0) (S 1056 0) (S 1032 0) (S 1007 0) (g22 1100033 0) ∧ 0 ≤ (5 : Int) ∧ (5 : Int) ≤ 6 ∧ ((5 : Int) = 6 → 0 ≤ l2_23 ∧ l2_23 < (S 1007 0)) ∧ (0 ≤ (g41 1100023 (g41 1046 0)) → (g41 1100007 (g41 1100023 (g41 1046 0))) ≤ (g41 1100007 (g41 1046 0))) ∧ (0 ≤ (g41 1100025 (g41 1046 0)) → (g41 1100007 (g41 1100025 (g41 1046 0))) ≤ (g41 1100007 (g41 1046 0))))) ∧ (∀ g48 : sv_S, (0 ≤ (g48 1047 0) ∧ (g48 1047 0) ≤ 1 ∧ 1 ≤ (g48 1046 0) ∧ (g41 1046 0) ≤ (g48 1046 0) ∧ (g48 1046 0) ≤ (g41 1046 0) + 1 ∧ (g48 1046 0) ≤ 600 ∧ ((g41 1047 0) = 1 → (g48 1047 0) = 1) ∧ ((g48 1047 0) = 1 → (g41 1047 0) = 1 ∨ (g41 1046 0) = 600) ∧ sm_F1 (g41 26) (g48 26) (g41 1046 0) ∧ sm_F1 (g41 27) (g48 27) (g41 1046 0) ∧ sm_F1 (g41 28) (g48 28) (g41 1046 0) ∧ sm_F1 (g41 29) (g48 29) (g41 1046 0) ∧ sm_F1 (g41 1100007) (g48 1100007) ((g41 1046 0) + 1) ∧ sm_F1 (g41 1100023) (g48 1100023) ((g41 1046 0) + 1) ∧ sm_F1 (g41 1100024) (g48 1100024) ((g41 1046 0) + 1) ∧ sm_F1 (g41 1100025) (g48 1100025) ((g41 1046 0) + 1) ∧ ((g48 1047 0) = 0 → (g41 1047 0) = 0 ∧ (g48 1046 0) = (g41 1046 0) + 1 ∧ sm_KC (g48 26) (g48 27) (g48 28) (g48 29) (g48 1100007) (g48 1100023) (g48 1100024) (g48 1100025) (g22 31) (g22 1100009) (g22 1100027) (g22 1100028) (g22 1100026) (g22 1100030) (S 21) (S 32) (S 33) (g48 1046 0) (g22 1053 0) (S 1056 0) (S 1032 0) (S 1007 0) (g22 1100033 0) ∧ sm_MB (g22 31) (g22 1100030) (g22 1053 0) (g48 1046 0) ∧ (g48 26 (g41 1046 0)) = (0 : Int) ∧ (g48 29 (g41 1046 0)) = (S 1056 0) ∧ (g48 1100007 (g48 1046 0)) = ((g41 1100007 (g41 1046 0)) + sm_dl (0 : Int) ((5 : Int))) ∧ (g48 1100023 (g48 1046 0)) = (sm_nt (0 : Int) (g41 1046 0) (g41 1100023 (g41 1046 0)) (g41 1100023 (g41 1100023 (g41 1046 0)))) ∧ (g48 1100024 (g48 1046 0)) = (sm_nd (0 : Int) (g41 1100024 (g41 1046 0))) ∧ (g48 1100025 (g48 1046 0)) = (sm_nl (0 : Int) (g41 1046 0) (g41 1100007 (g41 1046 0)) (g41 1100025 (g41 1046 0)) (g41 1100007 (g41 1100025 (g41 1046 0))) (g41 1100025 (g41 1100025 (g41 1046 0)))) ∧ (g48 1100007 (g48 1100023 (g48 1046 0))) = sm_nt (0 : Int) (g41 1100007 (g41 1046 0)) (g41 1100007 (g41 1100023 (g41 1046 0))) (g41 1100007 (g41 1100023 (g41 1100023 (g41 1046 0)))) ∧ ((0 : Int) = 29 → (g48 1100007 (g48 1100025 (g48 1046 0))) = (g41 1100007 (g41 1046 0))) ∧ ((0 : Int) = 17 → 0 ≤ (g41 1100025 (g41 1046 0)) → (g41 1100007 (g41 1100025 (g41 1046 0))) = (g41 1100007 (g41 1046 0)) → (g48 1100007 (g48 1100025 (g48 1046 0))) = (g41 1100007 (g41 1100025 (g41 1100025 (g41 1046 0))))) ∧ (¬ (0 : Int) = 29 → ((0 : Int) = 17 → 0 ≤ (g41 1100025 (g41 1046 0)) → (g41 1100007 (g41 1100025 (g41 1046 0))) < (g41 1100007 (g41 1046 0))) → (g48 1100007 (g48 1100025 (g48 1046 0))) = (g41 1100007 (g41 1100025 (g41 1046 0)))))) → (0 ≤ l3_24 ∧ l3_24 < 12000 ∧ 0 ≤ (0 : Int) ∧ (0 : Int) ≤ 4) ∧ (sm_WF (S 11) (S 12) (S 13) (S 1100001) (S 1100002) (S 1100005) (S 1100003) (S 1100004) (S 1024 0) (S 1007 0) (S 1009 0) (sm_fn (S 1032 0) (S 21) (S 1056 0)) ∧ (S 1009 0) = 0 ∧ 0 ≤ (S 1007 0) ∧ (S 1007 0) ≤ 90 ∧ 0 ≤ (S 1024 0) ∧ (S 1024 0) ≤ 12000 ∧ 1 ≤ (S 1032 0) ∧ (S 1032 0) ≤ 11 ∧ 0 ≤ (S 1056 0) ∧ (S 1056 0) < (S 1032 0) ∧ sm_VB (S 33) (S 21) (S 1032 0) ∧ 0 ≤ (g48 1046 0) ∧ (g48 1046 0) ≤ 600 ∧ 0 ≤ (g48 1047 0) ∧ (g48 1047 0) ≤ 1 ∧ 0 ≤ (g22 1053 0) ∧ 0 ≤ (g22 1066 0) ∧ 0 ≤ ((S 12 (5 * l3_24 + (0 : Int)))) ∧ ((S 12 (5 * l3_24 + (0 : Int)))) < (S 1024 0) ∧ (S 1100001 ((S 12 (5 * l3_24 + (0 : Int))))) = 1 ∧ sm_LF (g22 39) (S 1100002) (g22 1066 0) (S 1024 0) (12001 * (S 1100002 ((S 12 (5 * l3_24 + (0 : Int))))) + ((S 12 (5 * l3_24 + (0 : Int))))) ∧ ((g48 1047 0) = 0 → sm_KC (g48 26) (g48 27) (g48 28) (g48 29) (g48 1100007) (g48 1100023) (g48 1100024) (g48 1100025) (g22 31) (g22 1100009) (g22 1100027) (g22 1100028) (g22 1100026) (g22 1100030) (S 21) (S 32) (S 33) (g48 1046 0) (g22 1053 0) (S 1056 0) (S 1032 0) (S 1007 0) (g22 1100033 0) ∧ (g22 1100033 0) = (g22 1055 0) ∧ 0 ≤ (g22 1055 0) ∧ (g22 1055 0) ≤ (g48 1046 0) ∧ (0 ≤ (g48 1100023 (g48 1046 0)) → (g48 1100007 (g48 1100023 (g48 1046 0))) ≤ (g48 1100007 (g48 1046 0))) ∧ (0 ≤ (g48 1100025 (g48 1046 0)) → (g48 1100007 (g48 1100025 (g48 1046 0))) ≤ (g48 1100007 (g48 1046 0))) ∧ (g48 1100007 (g48 1046 0)) ≤ (g48 1046 0) ∧ (g22 1053 0) + 3 * (600 - (g48 1046 0)) + (S 1100002 ((S 12 (5 * l3_24 + (0 : Int))))) ≤ 8000)) ∧ (0 ≤ ((if (g48 1047 0) = 0 then (S 1100002 ((S 12 (5 * l3_24 + (0 : Int))))) + (600 - (g48 1046 0)) + 8 else 4)) ∧ ((if (g48 1047 0) = 0 then (S 1100002 ((S 12 (5 * l3_24 + (0 : Int))))) + (600 - (g48 1046 0)) + 8 else 4)) < d) ∧ (0 ≤ ((if (g48 1047 0) = 0 then (S 1100002 ((S 12 (5 * l3_24 + (0 : Int))))) + (600 - (g48 1046 0)) + 8 else 4)) ∧ ((if (g48 1047 0) = 0 then (S 1100002 ((S 12 (5 * l3_24 + (0 : Int))))) + (600 - (g48 1046 0)) + 8 else 4)) + 1 ≤ (((if p1 = -1 then 0 else 17 * (S 1100005 p1) + 17)) + (600 - (S 1046 0)) + 8)) ∧ (∀ g58 : sv_S, (0 ≤ (g58 1046 0) ∧ (g58 1046 0) ≤ 600 ∧ 0 ≤ (g58 1047 0) ∧ (g58 1047 0) ≤ 1 ∧ 0 ≤ (g58 1053 0) ∧ 0 ≤ (g58 1066 0) ∧ (g48 1046 0) ≤ (g58 1046 0) ∧ ((g48 1047 0) = 1 → (g58 1047 0) = 1) ∧ sm_F1 (g48 26) (g58 26) (g48 1046 0) ∧ sm_F1 (g48 27) (g58 27) (g48 1046 0) ∧ sm_F1 (g48 28) (g58 28) (g48 1046 0) ∧ sm_F1 (g48 29) (g58 29) (g48 1046 0) ∧ sm_F1 (g48 1100007) (g58 1100007) ((g48 1046 0) + 1) ∧ sm_F1 (g48 1100023) (g58 1100023) ((g48 1046 0) + 1) ∧ sm_F1 (g48 1100024) (g58 1100024) ((g48 1046 0) + 1) ∧ sm_F1 (g48 1100025) (g58 1100025) ((g48 1046 0) + 1) ∧ sm_F1 (g22 1100009) (g58 1100009) (g22 1053 0) ∧ sm_F1 (g22 1100027) (g58 1100027) (g22 1053 0) ∧ sm_F1 (g22 1100028) (g58 1100028) (g22 1053 0) ∧ sm_F1 (g22 1100026) (g58 1100026) (g22 1053 0) ∧ sm_F1 (g22 1100030) (g58 1100030) (g22 1053 0) ∧ sm_F1 (g22 31) (g58 31) (g22 1053 0) ∧ (g22 1053 0) ≤ (g58 1053 0) ∧ (g58 1066 0) = (g22 1066 0) ∧ sm_F1 (g22 39) (g58 39) (g22 1066 0) ∧ ((g48 1047 0) = 1 → (g58 1053 0) = (g22 1053 0)) ∧ ((g48 1047 0) = 0 → (g58 1053 0) ≤ (g22 1053 0) + 3 * (600 - (g48 1046 0)) + (S 1100002 ((S 12 (5 * l3_24 + (0 : Int)))))) ∧ ((g58 1047 0) = 0 → (g48 1047 0) = 0 ∧ sm_KC (g58 26) (g58 27) (g58 28) (g58 29) (g58 1100007) (g58 1100023) (g58 1100024) (g58 1100025) (g58 31) (g58 1100009) (g58 1100027) (g58 1100028) (g58 1100026) (g58 1100030) (S 21) (S 32) (S 33) (g58 1046 0) (g58 1053 0) (S 1056 0) (S 1032 0) (S 1007 0) (g58 1100033 0) ∧ (g58 1100033 0) = (g58 1055 0) ∧ 0 ≤ (g58 1055 0) ∧ (g58 1055 0) ≤ (g58 1046 0) ∧ (g48 1046 0) + 1 ≤ (g58 1046 0) ∧ sm_FC (g58 29) (g48 1046 0) (g58 1046 0) (S 1056 0) ∧ (g58 1100007 (g58 1046 0)) = (g48 1100007 (g48 1046 0)) + 1 ∧ (g58 1100023 (g58 1046 0)) = (g48 1100023 (g48 1046 0)) ∧ (g58 1100024 (g58 1046 0)) = (g48 1100024 (g48 1046 0)) ∧ (g58 1100025 (g58 1046 0)) = (g48 1100025 (g48 1046 0)) ∧ (g58 1100007 (g58 1100023 (g58 1046 0))) = (g48 1100007 (g48 1100023 (g48 1046 0))) ∧ (g58 1100007 (g58 1100025 (g58 1046 0))) = (g48 1100007 (g48 1100025 (g48 1046 0))) ∧ sm_AP (g58 1100030) (g22 1053 0) (g58 1053 0) ∧ sm_HB (g58 1100007) (g48 1046 0) (g58 1046 0) (2 * (g48 1100007 (g48 1046 0)) + ((g58 1046 0) - (g48 1046 0)) + 8 * (S 1100005 ((S 12 (5 * l3_24 + (0 : Int))))) + 10) ∧ (g58 1053 0) ≤ (g22 1053 0) + 3 * ((g58 1046 0) - (g48 1046 0)) ∧ True)) → (0 ≤ (g58 1046 0) ∧ (g58 1046 0) ≤ 600 ∧ 0 ≤ (g58 1047 0) ∧ (g58 1047 0) ≤ 1 ∧ ((g58 1047 0) = 0 → sm_KC (g58 26) (g58 27) (g58 28) (g58 29) (g58 1100007) (g58 1100023) (g58 1100024) (g58 1100025) (g58 31) (g58 1100009) (g58 1100027) (g58 1100028) (g58 1100026) (g58 1100030) (S 21) (S 32) (S 33) (g58 1046 0) (g58 1053 0) (S 1056 0) (S 1032 0) (S 1007 0) (g58 1100033 0) ∧ 0 ≤ (11 : Int) ∧ (11 : Int) ≤ 30 ∧ sm_ci (11 : Int) ((0 : Int)) ((0 : Int)) (g58 1100007 (g58 1046 0)) (g58 1100023 (g58 1046 0)) (g58 1100024 (g58 1046 0)) (g58 1100025 (g58 1046 0)) (g58 1100007 (g58 1100023 (g58 1046 0))) (g58 1100007 (g58 1100025 (g58 1046 0))) (g58 1100023 (g58 1100023 (g58 1046 0))) (g58 1100025 (g58 1100025 (g58 1046 0))) (g58 1046 0) (g58 1100033 0) (S 1032 0) (S 1007 0) (S 21 (0 : Int)) (S 1056 0) ((g58 1100007 (g58 1046 0)) + sm_dl (11 : Int) ((0 : Int))) (sm_nt (11 : Int) (g58 1046 0) (g58 1100023 (g58 1046 0)) (g58 1100023 (g58 1100023 (g58 1046 0)))) (sm_nl (11 : Int) (g58 1046 0) (g58 1100007 (g58 1046 0)) (g58 1100025 (g58 1046 0)) (g58 1100007 (g58 1100025 (g58 1046 0))) (g58 1100025 (g58 1100025 (g58 1046 0)))) (g58 1100009 (0 : Int)) (g58 1100027 (0 : Int)) (g58 1100028 (0 : Int)) ∧ ((21 ≤ (11 : Int) ∧ (11 : Int) ≤ 24) ∨ (11 : Int) = 27 ∨ (11 : Int) = 30 → 0 ≤ (0 : Int) ∧ (0 : Int) < (g58 1053 0) ∧ (g58 1100026 (0 : Int)) = (S 1056 0)) ∧ ((11 : Int) = 1 ∨ (11 : Int) = 2 → sm_vv (S 21) (S 32) (S 33) (S 1056 0) (0 : Int) (0 : Int)))) ∧ (∀ g65 : sv_S, (0 ≤ (g65 1047 0) ∧ (g65 1047 0) ≤ 1 ∧ 1 ≤ (g65 1046 0) ∧ (g58 1046 0) ≤ (g65 1046 0) ∧ (g65 1046 0) ≤ (g58 1046 0) + 1 ∧ (g65 1046 0) ≤ 600 ∧ ((g58 1047 0) = 1 → (g65 1047 0) = 1) ∧ ((g65 1047 0) = 1 → (g58 1047 0) = 1 ∨ (g58 1046 0) = 600) ∧ sm_F1 (g58 26) (g65 26) (g58 1046 0) ∧ sm_F1 (g58 27) (g65 27) (g58 1046 0) ∧ sm_F1 (g58 28) (g65 28) (g58 1046 0) ∧ sm_F1 (g58 29) (g65 29) (g58 1046 0) ∧ sm_F1 (g58 1100007) (g65 1100007) ((g58 1046 0) + 1) ∧ sm_F1 (g58 1100023) (g65 1100023) ((g58 1046 0) + 1) ∧ sm_F1 (g58 1100024) (g65 1100024) ((g58 1046 0) + 1) ∧ sm_F1 (g58 1100025) (g65 1100025) ((g58 1046 0) + 1) ∧ ((g65 1047 0) = 0 → (g58 1047 0) = 0 ∧ (g65 1046 0) = (g58 1046 0) + 1 ∧ sm_KC (g65 26) (g65 27) (g65 28) (g65 29) (g65 1100007) (g65 1100023) (g65 1100024) (g65 1100025) (g58 31) (g58 1100009) (g58 1100027) (g58 1100028) (g58 1100026) (g58 1100030) (S 21) (S 32) (S 33) (g65 1046 0) (g58 1053 0) (S 1056 0) (S 1032 0) (S 1007 0) (g58 1100033 0) ∧ sm_MB (g58 31) (g58 1100030) (g58 1053 0) (g65 1046 0) ∧ (g65 26 (g58 1046 0)) = (11 : Int) ∧ (g65 29 (g58 1046 0)) = (S 1056 0) ∧ (g65 1100007 (g65 1046 0)) = ((g58 1100007 (g58 1046 0)) + sm_dl (11 : Int) ((0 : Int))) ∧ (g65 1100023 (g65 1046 0)) = (sm_nt (11 : Int) (g58 1046 0) (g58 1100023 (g58 1046 0)) (g58 1100023 (g58 1100023 (g58 1046 0)))) ∧ (g65 1100024 (g65 1046 0)) = (sm_nd (11 : Int) (g58 1100024 (g58 1046 0))) ∧ (g65 1100025 (g65 1046 0)) = (sm_nl (11 : Int) (g58 1046 0) (g58 1100007 (g58 1046 0)) (g58 1100025 (g58 1046 0)) (g58 1100007 (g58 1100025 (g58 1046 0))) (g58 1100025 (g58 1100025 (g58 1046 0)))) ∧ (g65 1100007 (g65 1100023 (g65 1046 0))) = sm_nt (11 : Int) (g58 1100007 (g58 1046 0)) (g58 1100007 (g58 1100023 (g58 1046 0))) (g58 1100007 (g58 1100023 (g58 1100023 (g58 1046 0)))) ∧ ((11 : Int) = 29 → (g65 1100007 (g65 1100025 (g65 1046 0))) = (g58 1100007 (g58 1046 0))) ∧ ((11 : Int) = 17 → 0 ≤ (g58 1100025 (g58 1046 0)) → (g58 1100007 (g58 1100025 (g58 1046 0))) = (g58 1100007 (g58 1046 0)) → (g65 1100007 (g65 1100025 (g65 1046 0))) = (g58 1100007 (g58 1100025 (g58 1100025 (g58 1046 0))))) ∧ (¬ (11 : Int) = 29 → ((11 : Int) = 17 → 0 ≤ (g58 1100025 (g58 1046 0)) → (g58 1100007 (g58 1100025 (g58 1046 0))) < (g58 1100007 (g58 1046 0))) → (g65 1100007 (g65 1100025 (g65 1046 0))) = (g58 1100007 (g58 1100025 (g58 1046 0)))))) → (0 ≤ (g65 1046 0) ∧ (g65 1046 0) ≤ 600 ∧ 0 ≤ (g65 1047 0) ∧ (g65 1047 0) ≤ 1 ∧ ((g65 1047 0) = 0 → sm_KC (g65 26) (g65 27) (g65 28) (g65 29) (g65 1100007) (g65 1100023) (g65 1100024) (g65 1100025) (g58 31) (g58 1100009) (g58 1100027) (g58 1100028) (g58 1100026) (g58 1100030) (S 21) (S 32) (S 33) (g65 1046 0) (g58 1053 0) (S 1056 0) (S 1032 0) (S 1007 0) (g58 1100033 0) ∧ 0 ≤ (17 : Int) ∧ (17 : Int) ≤ 30 ∧ sm_ci (17 : Int) ((0 : Int)) ((0 : Int)) (g65 1100007 (g65 1046 0)) (g65 1100023 (g65 1046 0)) (g65 1100024 (g65 1046 0)) (g65 1100025 (g65 1046 0)) (g65 1100007 (g65 1100023 (g65 1046 0))) (g65 1100007 (g65 1100025 (g65 1046 0))) (g65 1100023 (g65 1100023 (g65 1046 0))) (g65 1100025 (g65 1100025 (g65 1046 0))) (g65 1046 0) (g58 1100033 0) (S 1032 0) (S 1007 0) (S 21 (0 : Int)) (S 1056 0) ((g65 1100007 (g65 1046 0)) + sm_dl (17 : Int) ((0 : Int))) (sm_nt (17 : Int) (g65 1046 0) (g65 1100023 (g65 1046 0)) (g65 1100023 (g65 1100023 (g65 1046 0)))) (sm_nl (17 : Int) (g65 1046 0) (g65 1100007 (g65 1046 0)) (g65 1100025 (g65 1046 0)) (g65 1100007 (g65 1100025 (g65 1046 0))) (g65 1100025 (g65 1100025 (g65 1046 0)))) (g58 1100009 (0 : Int)) (g58 1100027 (0 : Int)) (g58 1100028 (0 : Int)) ∧ ((21 ≤ (17 : Int) ∧ (17 : Int) ≤ 24) ∨ (17 : Int) = 27 ∨ (17 : Int) = 30 → 0 ≤ (0 : Int) ∧ (0 : Int) < (g58 1053 0) ∧ (g58 1100026 (0 : Int)) = (S 1056 0)) ∧ ((17 : Int) = 1 ∨ (17 : Int) = 2 → sm_vv (S 21) (S 32) (S 33) (S 1056 0) (0 : Int) (0 : Int)))) ∧ (∀ g72 : sv_S, (0 ≤ (g72 1047 0) ∧ (g72 1047 0) ≤ 1 ∧ 1 ≤ (g72 1046 0) ∧ (g65 1046 0) ≤ (g72 1046 0) ∧ (g72 1046 0) ≤ (g65 1046 0) + 1 ∧ (g72 1046 0) ≤ 600 ∧ ((g65 1047 0) = 1 → (g72 1047 0) = 1) ∧ ((g72 1047 0) = 1 → (g65 1047 0) = 1 ∨ (g65 1046 0) = 600) ∧ sm_F1 (g65 26) (g72 26) (g65 1046 0) ∧ sm_F1 (g65 27) (g72 27) (g65 1046 0) ∧ sm_F1 (g65 28) (g72 28) (g65 1046 0) ∧ sm_F1 (g65 29) (g72 29) (g65 1046 0) ∧ sm_F1 (g65 1100007) (g72 1100007) ((g65 1046 0) + 1) ∧ sm_F1 (g65 1100023) (g72 1100023) ((g65 1046 0) + 1) ∧ sm_F1 (g65 1100024) (g72 1100024) ((g65 1046 0) + 1) ∧ sm_F1 (g65 1100025) (g72 1100025) ((g65 1046 0) + 1) ∧ ((g72 1047 0) = 0 → (g65 1047 0) = 0 ∧ (g72 1046 0) = (g65 1046 0) + 1 ∧ sm_KC (g72 26) (g72 27) (g72 28) (g72 29) (g72 1100007) (g72 1100023) (g72 1100024) (g72 1100025) (g58 31) (g58 1100009) (g58 1100027) (g58 1100028) (g58 1100026) (g58 1100030) (S 21) (S 32) (S 33) (g72 1046 0) (g58 1053 0) (S 1056 0) (S 1032 0) (S 1007 0) (g58 1100033 0) ∧ sm_MB (g58 31) (g58 1100030) (g58 1053 0) (g72 1046 0) ∧ (g72 26 (g65 1046 0)) = (17 : Int) ∧ (g72 29 (g65 1046 0)) = (S 1056 0) ∧ (g72 1100007 (g72 1046 0)) = ((g65 1100007 (g65 1046 0)) + sm_dl (17 : Int) ((0 : Int))) ∧ (g72 1100023 (g72 1046 0)) = (sm_nt (17 : Int) (g65 1046 0) (g65 1100023 (g65 1046 0)) (g65 1100023 (g65 1100023 (g65 1046 0)))) ∧ (g72 1100024 (g72 1046 0)) = (sm_nd (17 : Int) (g65 1100024 (g65 1046 0))) ∧ (g72 1100025 (g72 1046 0)) = (sm_nl (17 : Int) (g65 1046 0) (g65 1100007 (g65 1046 0)) (g65 1100025 (g65 1046 0)) (g65 1100007 (g65 1100025 (g65 1046 0))) (g65 1100025 (g65 1100025 (g65 1046 0)))) ∧ (g72 1100007 (g72 1100023 (g72 1046 0))) = sm_nt (17 : Int) (g65 1100007 (g65 1046 0)) (g65 1100007 (g65 1100023 (g65 1046 0))) (g65 1100007 (g65 1100023 (g65 1100023 (g65 1046 0)))) ∧ ((17 : Int) = 29 → (g72 1100007 (g72 1100025 (g72 1046 0))) = (g65 1100007 (g65 1046 0))) ∧ ((17 : Int) = 17 → 0 ≤ (g65 1100025 (g65 1046 0)) → (g65 1100007 (g65 1100025 (g65 1046 0))) = (g65 1100007 (g65 1046 0)) → (g72 1100007 (g72 1100025 (g72 1046 0))) = (g65 1100007 (g65 1100025 (g65 1100025 (g65 1046 0))))) ∧ (¬ (17 : Int) = 29 → ((17 : Int) = 17 → 0 ≤ (g65 1100025 (g65 1046 0)) → (g65 1100007 (g65 1100025 (g65 1046 0))) < (g65 1100007 (g65 1046 0))) → (g72 1100007 (g72 1100025 (g72 1046 0))) = (g65 1100007 (g65 1100025 (g65 1046 0)))))) → (0 ≤ l3_24 ∧ l3_24 < 12000) ∧ (sv_R (S 13 l3_24) → (sv_R (l2_23 + (1 : Int))) ∧ ((0 ≤ (g72 1046 0) ∧ (g72 1046 0) ≤ 600 ∧ 0 ≤ (g72 1047 0) ∧ (g72 1047 0) ≤ 1 ∧ 0 ≤ (g58 1053 0) ∧ 0 ≤ (g58 1066 0) ∧ 0 ≤ (l2_23 + (1 : Int)) ∧ (l2_23 + (1 : Int)) ≤ 16 ∧ (p1 = -1 → (S 13 l3_24) = -1) ∧ (¬ p1 = -1 → ((S 13 l3_24) = -1 ∨ (0 ≤ (S 13 l3_24) ∧ (S 13 l3_24) < (S 1024 0) ∧ (S 1100001 (S 13 l3_24)) = 3 ∧ (l2_23 + (1 : Int)) + (S 1100002 (S 13 l3_24)) ≤ (S 1100002 p1) ∧ (S 1100005 (S 13 l3_24)) ≤ (S 1100005 p1)))) ∧ (¬ p1 = -1 → sm_LF (g58 39) (S 1100002) (g58 1066 0) (S 1024 0) (12001 * (17 * (S 1100005 p1) + 18))) ∧ 0 ≤ (g72 1046 0) ∧ (g72 1046 0) ≤ 600 ∧ 0 ≤ (g72 1047 0) ∧ (g72 1047 0) ≤ 1 ∧ 0 ≤ (g58 1053 0) ∧ 0 ≤ (g58 1066 0) ∧ (S 1046 0) ≤ (g72 1046 0) ∧ ((S 1047 0) = 1 → (g72 1047 0) = 1) ∧ sm_F1 (S 26) (g72 26) (S 1046 0) ∧ sm_F1 (S 27) (g72 27) (S 1046 0) ∧ sm_F1 (S 28) (g72 28) (S 1046 0) ∧ sm_F1 (S 29) (g72 29) (S 1046 0) ∧ sm_F1 (S 1100007) (g72 1100007) ((S 1046 0) + 1) ∧ sm_F1 (S 1100023) (g72 1100023) ((S 1046 0) + 1) ∧ sm_F1 (S 1100024) (g72 1100024) ((S 1046 0) + 1) ∧ sm_F1 (S 1100025) (g72 1100025) ((S 1046 0) + 1) ∧ sm_F1 (S 1100009) (g58 1100009) (S 1053 0) ∧ sm_F1 (S 1100027) (g58 1100027) (S 1053 0) ∧ sm_F1 (S 1100028) (g58 1100028) (S 1053 0) ∧ sm_F1 (S 1100026) (g58 1100026) (S 1053 0) ∧ sm_F1 (S 1100030) (g58 1100030) (S 1053 0) ∧ sm_F1 (S 31) (g58 31) (S 1053 0) ∧ (S 1053 0) ≤ (g58 1053 0) ∧ (g58 1066 0) = (S 1066 0) ∧ sm_F1 (S 39) (g58 39) (S 1066 0) ∧ ((S 1047 0) = 1 → (g58 1053 0) = (S 1053 0)) ∧ ((S 1047 0) = 0 → (g58 1053 0) ≤ (S 1053 0) + 3 * (600 - (S 1046 0)) + (if p1 = -1 then 0 else 17 * (S 1100005 p1) + 17)) ∧ ((g72 1047 0) = 0 → (S 1047 0) = 0 ∧ sm_KC (g72 26) (g72 27) (g72 28) (g72 29) (g72 1100007) (g72 1100023) (g72 1100024) (g72 1100025) (g58 31) (g58 1100009) (g58 1100027) (g58 1100028) (g58 1100026) (g58 1100030) (S 21) (S 32) (S 33) (g72 1046 0) (g58 1053 0) (S 1056 0) (S 1032 0) (S 1007 0) (g58 1100033 0) ∧ (g58 1100033 0) = (g58 1055 0) ∧ 0 ≤ (g58 1055 0) ∧ (g58 1055 0) ≤ (g72 1046 0) ∧ (S 1046 0) + 1 ≤ (g72 1046 0) ∧ sm_FC (g72 29) (S 1046 0) (g72 1046 0) (S 1056 0) ∧ (g72 1100007 (g72 1046 0)) = (S 1100007 (S 1046 0)) + 1 ∧ (g72 1100023 (g72 1046 0)) = (S 1100023 (S 1046 0)) ∧ (g72 1100024 (g72 1046 0)) = (S 1100024 (S 1046 0)) ∧ (g72 1100025 (g72 1046 0)) = (S 1100025 (S 1046 0)) ∧ (g72 1100007 (g72 1100023 (g72 1046 0))) = (S 1100007 (S 1100023 (S 1046 0))) ∧ (g72 1100007 (g72 1100025 (g72 1046 0))) = (S 1100007 (S 1100025 (S 1046 0))) ∧ sm_AP (g58 1100030) (S 1053 0) (g58 1053 0) ∧ sm_HB (g72 1100007) (S 1046 0) (g72 1046 0) (2 * (S 1100007 (S 1046 0)) + ((g72 1046 0) - (S 1046 0)) + (if p1 = -1 then 10 else 8 * (S 1100005 p1) + 18)) ∧ (g58 1053 0) ≤ (S 1053 0) + 3 * ((g72 1046 0) - (S 1046 0)) ∧ True)) ∧ ((if (S 13 l3_24) = -1 then 0 else (S 1024 0) - (S 13 l3_24))) < ((if l3_24 = -1 then 0 else (S 1024 0) - l3_24)))))))))))))))))))))))))))))))) := by
  intro d
  intro p1
  intro S
  intro h1_
  intro h2_
  rintro ⟨h3_, ⟨h4_, ⟨h5_, ⟨h6_, ⟨h7_, ⟨h8_, ⟨h9_, ⟨h10_, ⟨h11_, ⟨h12_, ⟨h13_, ⟨h14_, ⟨h15_, ⟨h16_, ⟨h17_, ⟨h18_, ⟨h19_, ⟨h20_, ⟨h21_, ⟨h22_, ⟨h23_, ⟨h24_, ⟨h25_, ⟨h26_, ⟨h27_, ⟨h28_, ⟨h29_, h30_⟩⟩⟩⟩⟩⟩⟩⟩⟩⟩⟩⟩⟩⟩⟩⟩⟩⟩⟩⟩⟩⟩⟩⟩⟩⟩⟩
  intro h31_
  refine ⟨?_, ?_⟩
  · skip
    have e32_ : (if S 1047 0 = 0 then S 1055 0 + 1 else 0 : Int) = S 1055 0 + 1 := if_pos h22_
    exact (la_row_0 h15_ h25_ h26_ e32_)
  intro h33_
  have e34_ : (if S 1047 0 = 0 then S 1055 0 + 1 else 0 : Int) = S 1055 0 + 1 := if_pos h22_
  have h35_ := (h33_ h22_)
  have h36_ := (h35_ h24_)
  have h37_ := (h36_ h23_)
  intro h38_
  have h39_ := (h38_ h22_)
  intro h40_
  have h41_ := (h40_ h22_)
  have h42_ := (h41_ h25_)
  obtain ⟨h43_, h44_⟩ := (h42_ (la_row_1 h15_ h26_))
  intro h45_
  have h46_ := (h45_ h22_)
  intro h47_
  intro h48_
  refine ⟨?_, ?_⟩
  · skip
    refine ⟨h14_, ?_⟩
    refine ⟨h15_, ?_⟩
    refine ⟨h16_, ?_⟩
    refine ⟨h17_, ?_⟩
    intro h49_
    refine ⟨h37_, ?_⟩
    refine ⟨la_row_3, ?_⟩
    refine ⟨la_row_4, ?_⟩
    refine ⟨(sm_ci_8 (la_row_5 (sm_KC_n h23_).2.1.1 h25_ h27_ h28_ e34_ (sm_dl_8 : sm_dl 8 (S 1055 0) = 1) (sm_nt_8 : sm_nt 8 (S 1046 0) (S 1100023 (S 1046 0)) (S 1100023 (S 1100023 (S 1046 0))) = S 1100023 (S 1046 0)) (sm_nl_8 : sm_nl 8 (S 1046 0) (S 1100007 (S 1046 0)) (S 1100025 (S 1046 0)) (S 1100007 (S 1100025 (S 1046 0))) (S 1100025 (S 1100025 (S 1046 0))) = S 1100025 (S 1046 0)))), ?_⟩
    refine ⟨la_row_6, ?_⟩
    intro h50_
    have h51_ := (h50_.resolve_left la_row_7)
    have e52_ : S 1100007 (S 1100023 (S 1046 0)) = S 1100007 (S 1046 0) := congrArg ((S 1100007)) (la_row_8 h51_)
    have e53_ : S 1100007 (S 1100025 (S 1046 0)) = S 1100007 (S 1046 0) := congrArg ((S 1100007)) (la_row_8 h51_)
    have e54_ : S 1100007 (S 1100025 (S 1046 0)) = S 1100007 (S 1100023 (S 1046 0)) := congrArg ((S 1100007)) (la_row_8 h51_)
    have e55_ : S 1100023 (S 1100023 (S 1046 0)) = S 1100023 (S 1046 0) := congrArg ((S 1100023)) (la_row_8 h51_)
    have e56_ : S 1100025 (S 1100025 (S 1046 0)) = S 1100025 (S 1046 0) := congrArg ((S 1100025)) (la_row_8 h51_)
    have h57_ := (h27_ (la_row_9 h51_))
    have h58_ := (h28_ (la_row_9 h51_))
    exact ((la_row_10 h51_)).elim
  refine ⟨?_, ?_⟩
  · skip
    by_cases c59_ : 0 ≤ S 1100023 (S 1046 0)
    · skip
      have h60_ := (h27_ c59_)
      by_cases c63_ : p1 = (-1)
      · skip
        have e64_ : (if p1 = (-1) then 0 else 17 * S 1100005 p1 + 17 : Int) = 0 := if_pos c63_
        exact (la_row_12 h15_ e64_)
      · skip
        have e65_ : (if p1 = (-1) then 0 else 17 * S 1100005 p1 + 17 : Int) = 17 * S 1100005 p1 + 17 := if_neg c63_
        obtain ⟨h66_, ⟨h67_, ⟨h68_, ⟨h69_, ⟨h70_, ⟨h71_, h72_⟩⟩⟩⟩⟩⟩ := (h21_ c63_)
        exact (la_row_14 h15_ e65_ h69_)
    · skip
      by_cases c75_ : p1 = (-1)
      · skip
        have e76_ : (if p1 = (-1) then 0 else 17 * S 1100005 p1 + 17 : Int) = 0 := if_pos c75_
        exact (la_row_12 h15_ e76_)
      · skip
        have e77_ : (if p1 = (-1) then 0 else 17 * S 1100005 p1 + 17 : Int) = 17 * S 1100005 p1 + 17 := if_neg c75_
        obtain ⟨h78_, ⟨h79_, ⟨h80_, ⟨h81_, ⟨h82_, ⟨h83_, h84_⟩⟩⟩⟩⟩⟩ := (h21_ c75_)
        exact (la_row_14 h15_ e77_ h81_)
  intro g14
  rintro ⟨h85_, ⟨h86_, ⟨h87_, ⟨h88_, ⟨h89_, ⟨h90_, ⟨h91_, ⟨h92_, ⟨h93_, ⟨h94_, ⟨h95_, ⟨h96_, ⟨h97_, ⟨h98_, ⟨h99_, ⟨h100_, h101_⟩⟩⟩⟩⟩⟩⟩⟩⟩⟩⟩⟩⟩⟩⟩⟩
  intro r19
  intro h102_
  intro h103_
  have h104_ := (h103_ (la_row_16 h25_ e34_ h44_))
  refine ⟨?_, ?_⟩
  · skip
    refine ⟨(la_row_17 h87_), ?_⟩
    refine ⟨h90_, ?_⟩
    refine ⟨h85_, ?_⟩
    refine ⟨h86_, ?_⟩
    refine ⟨h18_, ?_⟩
    refine ⟨h19_, ?_⟩
    refine ⟨la_row_18, ?_⟩
    refine ⟨la_row_19, ?_⟩
    refine ⟨(la_row_20 h20_), ?_⟩
    refine ⟨?_, ?_⟩
    · skip
      intro h105_
      have e106_ : (if p1 = (-1) then 0 else 17 * S 1100005 p1 + 17 : Int) = 17 * S 1100005 p1 + 17 := if_neg h105_
      obtain ⟨h107_, ⟨h108_, ⟨h109_, ⟨h110_, ⟨h111_, ⟨h112_, h113_⟩⟩⟩⟩⟩⟩ := (h21_ h105_)
      exact (la_row_21 (la_row_13 h20_ h105_) h108_ h109_)
    refine ⟨?_, ?_⟩
    · skip
      intro h114_
      have e115_ : (if p1 = (-1) then 0 else 17 * S 1100005 p1 + 17 : Int) = 17 * S 1100005 p1 + 17 := if_neg h114_
      obtain ⟨h116_, ⟨h117_, ⟨h118_, ⟨h119_, ⟨h120_, ⟨h121_, h122_⟩⟩⟩⟩⟩⟩ := (h21_ h114_)
      exact h122_
    refine ⟨(la_row_17 h87_), ?_⟩
    refine ⟨h90_, ?_⟩
    refine ⟨h85_, ?_⟩
    refine ⟨h86_, ?_⟩
    refine ⟨h18_, ?_⟩
    refine ⟨h19_, ?_⟩
    refine ⟨h88_, ?_⟩
    refine ⟨h91_, ?_⟩
    refine ⟨h93_, ?_⟩
    refine ⟨h94_, ?_⟩
    refine ⟨h95_, ?_⟩
    refine ⟨h96_, ?_⟩
    refine ⟨h97_, ?_⟩
    refine ⟨h98_, ?_⟩
    refine ⟨h99_, ?_⟩
    refine ⟨h100_, ?_⟩
    refine ⟨sm_F1_rf, ?_⟩
    refine ⟨sm_F1_rf, ?_⟩
    refine ⟨sm_F1_rf, ?_⟩
    refine ⟨sm_F1_rf, ?_⟩
    refine ⟨sm_F1_rf, ?_⟩
    refine ⟨sm_F1_rf, ?_⟩
    refine ⟨la_row_22, ?_⟩
    refine ⟨la_row_23, ?_⟩
    refine ⟨sm_F1_rf, ?_⟩
    refine ⟨la_row_24, ?_⟩
    refine ⟨?_, ?_⟩
    · skip
      intro h123_
      by_cases c124_ : g14 1047 0 = 1
      · skip
        have h125_ := (h92_ c124_)
        have h126_ := (h125_.resolve_left (la_row_15 h22_))
        by_cases c131_ : p1 = (-1)
        · skip
          have e132_ : (if p1 = (-1) then 0 else 17 * S 1100005 p1 + 17 : Int) = 0 := if_pos c131_
          exact (la_row_26 h126_ e132_)
        · skip
          have e133_ : (if p1 = (-1) then 0 else 17 * S 1100005 p1 + 17 : Int) = 17 * S 1100005 p1 + 17 := if_neg c131_
          obtain ⟨h134_, ⟨h135_, ⟨h136_, ⟨h137_, ⟨h138_, ⟨h139_, h140_⟩⟩⟩⟩⟩⟩ := (h21_ c131_)
          exact (la_row_27 h15_ e133_ h137_)
      · skip
        obtain ⟨h141_, ⟨h142_, ⟨h143_, ⟨h144_, ⟨h145_, ⟨h146_, ⟨h147_, ⟨h148_, ⟨h149_, ⟨h150_, ⟨h151_, ⟨h152_, ⟨h153_, h154_⟩⟩⟩⟩⟩⟩⟩⟩⟩⟩⟩⟩⟩ := (h101_ (la_row_29 h85_ (la_row_28 h86_ c124_)))
        have h155_ := (h154_ la_row_30)
        have h156_ := (h155_ la_row_32)
        have e157_ : S 1100007 (g14 1100023 (g14 1046 0)) = S 1100007 (S 1100023 (S 1046 0)) := congrArg ((S 1100007)) (la_row_34 h148_ (sm_nt_8 : sm_nt 8 (S 1046 0) (S 1100023 (S 1046 0)) (S 1100023 (S 1100023 (S 1046 0))) = S 1100023 (S 1046 0)))
        have e158_ : S 1100007 (g14 1100025 (g14 1046 0)) = S 1100007 (S 1100025 (S 1046 0)) := congrArg ((S 1100007)) (la_row_34 h150_ (sm_nl_8 : sm_nl 8 (S 1046 0) (S 1100007 (S 1046 0)) (S 1100025 (S 1046 0)) (S 1100007 (S 1100025 (S 1046 0))) (S 1100025 (S 1100025 (S 1046 0))) = S 1100025 (S 1046 0)))
        by_cases c163_ : p1 = (-1)
        · skip
          have e164_ : (if p1 = (-1) then 0 else 17 * S 1100005 p1 + 17 : Int) = 0 := if_pos c163_
          exact (la_row_35 h90_ h142_ e164_)
        · skip
          have e165_ : (if p1 = (-1) then 0 else 17 * S 1100005 p1 + 17 : Int) = 17 * S 1100005 p1 + 17 := if_neg c163_
          obtain ⟨h166_, ⟨h167_, ⟨h168_, ⟨h169_, ⟨h170_, ⟨h171_, h172_⟩⟩⟩⟩⟩⟩ := (h21_ c163_)
          exact (la_row_36 h90_ h142_ e165_ h169_)
    intro h173_
    obtain ⟨h174_, ⟨h175_, ⟨h176_, ⟨h177_, ⟨h178_, ⟨h179_, ⟨h180_, ⟨h181_, ⟨h182_, ⟨h183_, ⟨h184_, ⟨h185_, ⟨h186_, h187_⟩⟩⟩⟩⟩⟩⟩⟩⟩⟩⟩⟩⟩ := (h101_ h173_)
    have h188_ := (h187_ la_row_30)
    have h189_ := (h188_ la_row_32)
    refine ⟨h22_, ?_⟩
    refine ⟨h176_, ?_⟩
    refine ⟨(la_row_37 e34_ h104_), ?_⟩
    refine ⟨(la_row_38 h25_ h104_), ?_⟩
    refine ⟨(la_row_39 h26_ h104_ h175_), ?_⟩
    refine ⟨(la_row_40 h175_), ?_⟩
    refine ⟨(sm_FC_1 h179_ (sm_FC_0 h89_)), ?_⟩
    refine ⟨(la_row_41 h180_ (sm_dl_8 : sm_dl 8 (S 1055 0) = 1)), ?_⟩
    refine ⟨(la_row_34 h181_ (sm_nt_8 : sm_nt 8 (S 1046 0) (S 1100023 (S 1046 0)) (S 1100023 (S 1100023 (S 1046 0))) = S 1100023 (S 1046 0))), ?_⟩
    refine ⟨(la_row_34 h182_ (sm_nd_8 : sm_nd 8 (S 1100024 (S 1046 0)) = S 1100024 (S 1046 0))), ?_⟩
    refine ⟨(la_row_34 h183_ (sm_nl_8 : sm_nl 8 (S 1046 0) (S 1100007 (S 1046 0)) (S 1100025 (S 1046 0)) (S 1100007 (S 1100025 (S 1046 0))) (S 1100025 (S 1100025 (S 1046 0))) = S 1100025 (S 1046 0))), ?_⟩
    refine ⟨(la_row_34 h184_ (sm_nt_8 : sm_nt 8 (S 1100007 (S 1046 0)) (S 1100007 (S 1100023 (S 1046 0))) (S 1100007 (S 1100023 (S 1100023 (S 1046 0)))) = S 1100007 (S 1100023 (S 1046 0)))), ?_⟩
    refine ⟨h189_, ?_⟩
    refine ⟨(sm_AP_0 la_row_22), ?_⟩
    refine ⟨?_, ?_⟩
    · skip
      have e190_ : S 1100007 (g14 1100023 (g14 1046 0)) = S 1100007 (S 1100023 (S 1046 0)) := congrArg ((S 1100007)) (la_row_34 h181_ (sm_nt_8 : sm_nt 8 (S 1046 0) (S 1100023 (S 1046 0)) (S 1100023 (S 1100023 (S 1046 0))) = S 1100023 (S 1046 0)))
      have e191_ : S 1100007 (g14 1100025 (g14 1046 0)) = S 1100007 (S 1100025 (S 1046 0)) := congrArg ((S 1100007)) (la_row_34 h183_ (sm_nl_8 : sm_nl 8 (S 1046 0) (S 1100007 (S 1046 0)) (S 1100025 (S 1046 0)) (S 1100007 (S 1100025 (S 1046 0))) (S 1100025 (S 1100025 (S 1046 0))) = S 1100025 (S 1046 0)))
      by_cases c192_ : p1 = (-1)
      · skip
        have e193_ : (if p1 = (-1) then 0 else 17 * S 1100005 p1 + 17 : Int) = 0 := if_pos c192_
        have e194_ : (if p1 = (-1) then 10 else 8 * S 1100005 p1 + 18 : Int) = 10 := if_pos c192_
        exact (sm_HB_1 (by rw [((sm_F1_at h97_ (S 1046 0) la_row_42).trans rfl)]; exact (la_row_43 h175_ e194_)) (sm_HB_0 h89_))
      · skip
        have e195_ : (if p1 = (-1) then 0 else 17 * S 1100005 p1 + 17 : Int) = 17 * S 1100005 p1 + 17 := if_neg c192_
        have e196_ : (if p1 = (-1) then 10 else 8 * S 1100005 p1 + 18 : Int) = 8 * S 1100005 p1 + 18 := if_neg c192_
        obtain ⟨h197_, ⟨h198_, ⟨h199_, ⟨h200_, ⟨h201_, ⟨h202_, h203_⟩⟩⟩⟩⟩⟩ := (h21_ c192_)
        exact (sm_HB_1 (by rw [((sm_F1_at h97_ (S 1046 0) la_row_42).trans rfl)]; exact (la_row_44 h175_ e196_ h200_)) (sm_HB_0 h89_))
    refine ⟨(la_row_45 h175_), ?_⟩
    exact trivial
  intro l2_23
  intro h204_
  intro l3_24
  intro h205_
  intro g22
  rintro ⟨h206_, ⟨h207_, ⟨h208_, ⟨h209_, ⟨h210_, ⟨h211_, ⟨h212_, ⟨h213_, ⟨h214_, ⟨h215_, ⟨h216_, ⟨h217_, ⟨h218_, ⟨h219_, ⟨h220_, ⟨h221_, ⟨h222_, ⟨h223_, ⟨h224_, ⟨h225_, ⟨h226_, ⟨h227_, ⟨h228_, ⟨h229_, ⟨h230_, ⟨h231_, ⟨h232_, ⟨h233_, ⟨h234_, ⟨h235_, ⟨h236_, ⟨h237_, ⟨h238_, ⟨h239_, ⟨h240_, ⟨h241_, ⟨h242_, ⟨h243_, h244_⟩⟩⟩⟩⟩⟩⟩⟩⟩⟩⟩⟩⟩⟩⟩⟩⟩⟩⟩⟩⟩⟩⟩⟩⟩⟩⟩⟩⟩⟩⟩⟩⟩⟩⟩⟩⟩⟩
  have h245_ := (h243_ h22_)
  refine ⟨?_, ?_⟩
  · skip
    by_cases c246_ : l3_24 = (-1)
    · skip
      have e247_ : (if l3_24 = (-1) then 0 else S 1024 0 - l3_24 : Int) = 0 := if_pos c246_
      exact (la_row_46 e247_)
    · skip
      have e248_ : (if l3_24 = (-1) then 0 else S 1024 0 - l3_24 : Int) = S 1024 0 - l3_24 := if_neg c246_
      have h249_ : ¬ (p1 = (-1)) := fun q_ => c246_ (h214_ q_)
      have h250_ := (h215_ h249_)
      obtain ⟨h251_, ⟨h252_, ⟨h253_, ⟨h254_, ⟨h255_, ⟨h256_, h257_⟩⟩⟩⟩⟩⟩ := (h21_ h249_)
      have h258_ := (h216_ h249_)
      have e259_ : (if p1 = (-1) then 0 else 17 * S 1100005 p1 + 17 : Int) = 17 * S 1100005 p1 + 17 := if_neg h249_
      have e260_ : (if p1 = (-1) then 10 else 8 * S 1100005 p1 + 18 : Int) = 8 * S 1100005 p1 + 18 := if_neg h249_
      obtain ⟨h261_, ⟨h262_, ⟨h263_, ⟨h264_, h265_⟩⟩⟩⟩ := (h250_.resolve_left c246_)
      exact (la_row_48 e248_ h262_)
  refine ⟨?_, ?_⟩
  · skip
    intro h266_
    refine ⟨h206_, ?_⟩
    refine ⟨h207_, ?_⟩
    refine ⟨h208_, ?_⟩
    refine ⟨h209_, ?_⟩
    refine ⟨h210_, ?_⟩
    refine ⟨h211_, ?_⟩
    refine ⟨h223_, ?_⟩
    refine ⟨h224_, ?_⟩
    refine ⟨h225_, ?_⟩
    refine ⟨h226_, ?_⟩
    refine ⟨h227_, ?_⟩
    refine ⟨h228_, ?_⟩
    refine ⟨h229_, ?_⟩
    refine ⟨h230_, ?_⟩
    refine ⟨h231_, ?_⟩
    refine ⟨h232_, ?_⟩
    refine ⟨h233_, ?_⟩
    refine ⟨h234_, ?_⟩
    refine ⟨h235_, ?_⟩
    refine ⟨h236_, ?_⟩
    refine ⟨h237_, ?_⟩
    refine ⟨h238_, ?_⟩
    refine ⟨h239_, ?_⟩
    refine ⟨h240_, ?_⟩
    refine ⟨h241_, ?_⟩
    refine ⟨h242_, ?_⟩
    refine ⟨h243_, ?_⟩
    intro h267_
    obtain ⟨h268_, ⟨h269_, ⟨h270_, ⟨h271_, ⟨h272_, ⟨h273_, ⟨h274_, ⟨h275_, ⟨h276_, ⟨h277_, ⟨h278_, ⟨h279_, ⟨h280_, ⟨h281_, ⟨h282_, ⟨h283_, -⟩⟩⟩⟩⟩⟩⟩⟩⟩⟩⟩⟩⟩⟩⟩⟩ := (h244_ h267_)
    refine ⟨h22_, ?_⟩
    refine ⟨h269_, ?_⟩
    refine ⟨h270_, ?_⟩
    refine ⟨h271_, ?_⟩
    refine ⟨h272_, ?_⟩
    refine ⟨h273_, ?_⟩
    refine ⟨h274_, ?_⟩
    refine ⟨h275_, ?_⟩
    refine ⟨h276_, ?_⟩
    refine ⟨h277_, ?_⟩
    refine ⟨h278_, ?_⟩
    refine ⟨h279_, ?_⟩
    refine ⟨h280_, ?_⟩
    refine ⟨h281_, ?_⟩
    refine ⟨h282_, ?_⟩
    refine ⟨h283_, ?_⟩
    exact trivial
  intro h284_
  have h285_ : ¬ (p1 = (-1)) := fun q_ => h284_ (h214_ q_)
  have h286_ := (h215_ h285_)
  obtain ⟨h287_, ⟨h288_, ⟨h289_, ⟨h290_, ⟨h291_, ⟨h292_, h293_⟩⟩⟩⟩⟩⟩ := (h21_ h285_)
  have h294_ := (h216_ h285_)
  have e295_ : (if p1 = (-1) then 0 else 17 * S 1100005 p1 + 17 : Int) = 17 * S 1100005 p1 + 17 := if_neg h285_
  have e296_ : (if p1 = (-1) then 10 else 8 * S 1100005 p1 + 18 : Int) = 8 * S 1100005 p1 + 18 := if_neg h285_
  obtain ⟨h297_, ⟨h298_, ⟨h299_, ⟨h300_, h301_⟩⟩⟩⟩ := (h286_.resolve_left h284_)
  intro h302_
  have h303_ := (h302_ h214_)
  have h304_ := (h303_ h284_)
  intro h305_
  have h306_ := (h305_ h3_)
  have h307_ := (h306_ h297_)
  obtain ⟨h308_, ⟨h309_, ⟨h310_, h311_⟩⟩⟩ := (h307_ h298_)
  have h312_ := (h311_ h299_)
  intro h313_
  have h314_ := (h313_ h3_)
  have h315_ := (h314_ h297_)
  have h316_ := (h315_ h298_)
  have h317_ := (h316_ h299_)
  intro h318_
  intro h319_
  have h320_ := (h319_ h3_)
  have h321_ := (h320_ h297_)
  have h322_ := (h321_ h298_)
  have h323_ := (h322_ (la_row_52 h299_))
  intro h324_
  have h325_ := (h324_ h3_)
  have h326_ := (h325_ (sm_ex_e h317_).1)
  obtain ⟨h327_, ⟨h328_, ⟨h329_, h330_⟩⟩⟩ := (h326_ (sm_ex_e h317_).2.1)
  obtain ⟨h331_, ⟨h332_, ⟨h333_, h334_⟩⟩⟩ := (h327_ (sm_ex_e h317_).2.2.1)
  intro h335_
  intro h336_
  rintro ⟨h337_, h338_⟩
  refine ⟨?_, ?_⟩
  · skip
    intro h339_
    refine ⟨h206_, ?_⟩
    refine ⟨h207_, ?_⟩
    refine ⟨h208_, ?_⟩
    refine ⟨h209_, ?_⟩
    refine ⟨h210_, ?_⟩
    refine ⟨h211_, ?_⟩
    refine ⟨h223_, ?_⟩
    refine ⟨h224_, ?_⟩
    refine ⟨h225_, ?_⟩
    refine ⟨h226_, ?_⟩
    refine ⟨h227_, ?_⟩
    refine ⟨h228_, ?_⟩
    refine ⟨h229_, ?_⟩
    refine ⟨h230_, ?_⟩
    refine ⟨h231_, ?_⟩
    refine ⟨h232_, ?_⟩
    refine ⟨h233_, ?_⟩
    refine ⟨h234_, ?_⟩
    refine ⟨h235_, ?_⟩
    refine ⟨h236_, ?_⟩
    refine ⟨h237_, ?_⟩
    refine ⟨h238_, ?_⟩
    refine ⟨h239_, ?_⟩
    refine ⟨h240_, ?_⟩
    refine ⟨h241_, ?_⟩
    refine ⟨h242_, ?_⟩
    refine ⟨h243_, ?_⟩
    intro h340_
    refine ⟨h22_, ?_⟩
    refine ⟨?_, ?_⟩
    · skip
      have e341_ : S 12 (5 * l3_24 + 0) = S 12 (5 * l3_24) := congrArg ((S 12)) la_row_57
      have e342_ : S 1100002 (S 12 (5 * l3_24 + 0)) = S 1100002 (S 12 (5 * l3_24)) := congrArg ((S 1100002)) e341_
      have e343_ : S 1100005 (S 12 (5 * l3_24 + 0)) = S 1100005 (S 12 (5 * l3_24)) := congrArg ((S 1100005)) e341_
      exact ((la_row_58 (la_row_56 h208_ h339_) h340_)).elim
    refine ⟨?_, ?_⟩
    · skip
      have e344_ : S 12 (5 * l3_24 + 0) = S 12 (5 * l3_24) := congrArg ((S 12)) la_row_57
      have e345_ : S 1100002 (S 12 (5 * l3_24 + 0)) = S 1100002 (S 12 (5 * l3_24)) := congrArg ((S 1100002)) e344_
      have e346_ : S 1100005 (S 12 (5 * l3_24 + 0)) = S 1100005 (S 12 (5 * l3_24)) := congrArg ((S 1100005)) e344_
      exact ((la_row_58 (la_row_56 h208_ h339_) h340_)).elim
    refine ⟨?_, ?_⟩
    · skip
      have e347_ : S 12 (5 * l3_24 + 0) = S 12 (5 * l3_24) := congrArg ((S 12)) la_row_57
      have e348_ : S 1100002 (S 12 (5 * l3_24 + 0)) = S 1100002 (S 12 (5 * l3_24)) := congrArg ((S 1100002)) e347_
      have e349_ : S 1100005 (S 12 (5 * l3_24 + 0)) = S 1100005 (S 12 (5 * l3_24)) := congrArg ((S 1100005)) e347_
      exact ((la_row_58 (la_row_56 h208_ h339_) h340_)).elim
    refine ⟨?_, ?_⟩
    · skip
      have e350_ : S 12 (5 * l3_24 + 0) = S 12 (5 * l3_24) := congrArg ((S 12)) la_row_57
      have e351_ : S 1100002 (S 12 (5 * l3_24 + 0)) = S 1100002 (S 12 (5 * l3_24)) := congrArg ((S 1100002)) e350_
      have e352_ : S 1100005 (S 12 (5 * l3_24 + 0)) = S 1100005 (S 12 (5 * l3_24)) := congrArg ((S 1100005)) e350_
      exact ((la_row_58 (la_row_56 h208_ h339_) h340_)).elim
    refine ⟨?_, ?_⟩
    · skip
      have e353_ : S 12 (5 * l3_24 + 0) = S 12 (5 * l3_24) := congrArg ((S 12)) la_row_57
      have e354_ : S 1100002 (S 12 (5 * l3_24 + 0)) = S 1100002 (S 12 (5 * l3_24)) := congrArg ((S 1100002)) e353_
      have e355_ : S 1100005 (S 12 (5 * l3_24 + 0)) = S 1100005 (S 12 (5 * l3_24)) := congrArg ((S 1100005)) e353_
      exact ((la_row_58 (la_row_56 h208_ h339_) h340_)).elim
    refine ⟨?_, ?_⟩
    · skip
      have e356_ : S 12 (5 * l3_24 + 0) = S 12 (5 * l3_24) := congrArg ((S 12)) la_row_57
      have e357_ : S 1100002 (S 12 (5 * l3_24 + 0)) = S 1100002 (S 12 (5 * l3_24)) := congrArg ((S 1100002)) e356_
      have e358_ : S 1100005 (S 12 (5 * l3_24 + 0)) = S 1100005 (S 12 (5 * l3_24)) := congrArg ((S 1100005)) e356_
      exact ((la_row_58 (la_row_56 h208_ h339_) h340_)).elim
    refine ⟨?_, ?_⟩
    · skip
      have e359_ : S 12 (5 * l3_24 + 0) = S 12 (5 * l3_24) := congrArg ((S 12)) la_row_57
      have e360_ : S 1100002 (S 12 (5 * l3_24 + 0)) = S 1100002 (S 12 (5 * l3_24)) := congrArg ((S 1100002)) e359_
      have e361_ : S 1100005 (S 12 (5 * l3_24 + 0)) = S 1100005 (S 12 (5 * l3_24)) := congrArg ((S 1100005)) e359_
      exact ((la_row_58 (la_row_56 h208_ h339_) h340_)).elim
    refine ⟨?_, ?_⟩
    · skip
      have e362_ : S 12 (5 * l3_24 + 0) = S 12 (5 * l3_24) := congrArg ((S 12)) la_row_57
      have e363_ : S 1100002 (S 12 (5 * l3_24 + 0)) = S 1100002 (S 12 (5 * l3_24)) := congrArg ((S 1100002)) e362_
      have e364_ : S 1100005 (S 12 (5 * l3_24 + 0)) = S 1100005 (S 12 (5 * l3_24)) := congrArg ((S 1100005)) e362_
      exact ((la_row_58 (la_row_56 h208_ h339_) h340_)).elim
    refine ⟨?_, ?_⟩
    · skip
      have e365_ : S 12 (5 * l3_24 + 0) = S 12 (5 * l3_24) := congrArg ((S 12)) la_row_57
      have e366_ : S 1100002 (S 12 (5 * l3_24 + 0)) = S 1100002 (S 12 (5 * l3_24)) := congrArg ((S 1100002)) e365_
      have e367_ : S 1100005 (S 12 (5 * l3_24 + 0)) = S 1100005 (S 12 (5 * l3_24)) := congrArg ((S 1100005)) e365_
      exact ((la_row_58 (la_row_56 h208_ h339_) h340_)).elim
    refine ⟨?_, ?_⟩
    · skip
      have e368_ : S 12 (5 * l3_24 + 0) = S 12 (5 * l3_24) := congrArg ((S 12)) la_row_57
      have e369_ : S 1100002 (S 12 (5 * l3_24 + 0)) = S 1100002 (S 12 (5 * l3_24)) := congrArg ((S 1100002)) e368_
      have e370_ : S 1100005 (S 12 (5 * l3_24 + 0)) = S 1100005 (S 12 (5 * l3_24)) := congrArg ((S 1100005)) e368_
      exact ((la_row_58 (la_row_56 h208_ h339_) h340_)).elim
    refine ⟨?_, ?_⟩
    · skip
      have e371_ : S 12 (5 * l3_24 + 0) = S 12 (5 * l3_24) := congrArg ((S 12)) la_row_57
      have e372_ : S 1100002 (S 12 (5 * l3_24 + 0)) = S 1100002 (S 12 (5 * l3_24)) := congrArg ((S 1100002)) e371_
      have e373_ : S 1100005 (S 12 (5 * l3_24 + 0)) = S 1100005 (S 12 (5 * l3_24)) := congrArg ((S 1100005)) e371_
      exact ((la_row_58 (la_row_56 h208_ h339_) h340_)).elim
    refine ⟨?_, ?_⟩
    · skip
      have e374_ : S 12 (5 * l3_24 + 0) = S 12 (5 * l3_24) := congrArg ((S 12)) la_row_57
      have e375_ : S 1100002 (S 12 (5 * l3_24 + 0)) = S 1100002 (S 12 (5 * l3_24)) := congrArg ((S 1100002)) e374_
      have e376_ : S 1100005 (S 12 (5 * l3_24 + 0)) = S 1100005 (S 12 (5 * l3_24)) := congrArg ((S 1100005)) e374_
      exact ((la_row_58 (la_row_56 h208_ h339_) h340_)).elim
    refine ⟨?_, ?_⟩
    · skip
      have e377_ : S 12 (5 * l3_24 + 0) = S 12 (5 * l3_24) := congrArg ((S 12)) la_row_57
      have e378_ : S 1100002 (S 12 (5 * l3_24 + 0)) = S 1100002 (S 12 (5 * l3_24)) := congrArg ((S 1100002)) e377_
      have e379_ : S 1100005 (S 12 (5 * l3_24 + 0)) = S 1100005 (S 12 (5 * l3_24)) := congrArg ((S 1100005)) e377_
      exact ((la_row_58 (la_row_56 h208_ h339_) h340_)).elim
    refine ⟨?_, ?_⟩
    · skip
      have e380_ : S 12 (5 * l3_24 + 0) = S 12 (5 * l3_24) := congrArg ((S 12)) la_row_57
      have e381_ : S 1100002 (S 12 (5 * l3_24 + 0)) = S 1100002 (S 12 (5 * l3_24)) := congrArg ((S 1100002)) e380_
      have e382_ : S 1100005 (S 12 (5 * l3_24 + 0)) = S 1100005 (S 12 (5 * l3_24)) := congrArg ((S 1100005)) e380_
      exact ((la_row_58 (la_row_56 h208_ h339_) h340_)).elim
    refine ⟨?_, ?_⟩
    · skip
      have e383_ : S 12 (5 * l3_24 + 0) = S 12 (5 * l3_24) := congrArg ((S 12)) la_row_57
      have e384_ : S 1100002 (S 12 (5 * l3_24 + 0)) = S 1100002 (S 12 (5 * l3_24)) := congrArg ((S 1100002)) e383_
      have e385_ : S 1100005 (S 12 (5 * l3_24 + 0)) = S 1100005 (S 12 (5 * l3_24)) := congrArg ((S 1100005)) e383_
      exact ((la_row_58 (la_row_56 h208_ h339_) h340_)).elim
    exact trivial
  intro h386_
  obtain ⟨h387_, ⟨h388_, ⟨h389_, ⟨h390_, ⟨h391_, ⟨h392_, ⟨h393_, ⟨h394_, ⟨h395_, ⟨h396_, ⟨h397_, ⟨h398_, ⟨h399_, ⟨h400_, ⟨h401_, ⟨h402_, -⟩⟩⟩⟩⟩⟩⟩⟩⟩⟩⟩⟩⟩⟩⟩⟩ := (h244_ (la_row_60 h208_ h386_))
  refine ⟨?_, ?_⟩
  · skip
    refine ⟨h206_, ?_⟩
    refine ⟨h207_, ?_⟩
    refine ⟨h208_, ?_⟩
    refine ⟨h209_, ?_⟩
    intro h403_
    refine ⟨h388_, ?_⟩
    refine ⟨la_row_61, ?_⟩
    refine ⟨la_row_62, ?_⟩
    refine ⟨(sm_ci_18 (la_row_63 (sm_KC_n h23_).2.1.1 h27_ h28_ h394_ h395_ h397_ h398_ h399_ (sm_dl_18 : sm_dl 18 0 = 1) (sm_nt_18 : sm_nt 18 (g22 1046 0) (g22 1100023 (g22 1046 0)) (g22 1100023 (g22 1100023 (g22 1046 0))) = g22 1100023 (g22 1046 0)) (sm_nl_18 : sm_nl 18 (g22 1046 0) (g22 1100007 (g22 1046 0)) (g22 1100025 (g22 1046 0)) (g22 1100007 (g22 1100025 (g22 1046 0))) (g22 1100025 (g22 1100025 (g22 1046 0))) = g22 1100025 (g22 1046 0)))), ?_⟩
    refine ⟨la_row_64, ?_⟩
    intro h404_
    have h405_ := (h404_.resolve_left la_row_65)
    obtain ⟨h406_, ⟨h407_, ⟨h408_, ⟨h409_, ⟨h410_, ⟨h411_, ⟨h412_, ⟨h413_, ⟨h414_, ⟨h415_, ⟨h416_, ⟨h417_, ⟨h418_, h419_⟩⟩⟩⟩⟩⟩⟩⟩⟩⟩⟩⟩⟩ := (h101_ (la_row_66 h405_))
    have h420_ := (h318_ (sm_nm_i (la_row_67 h405_) (la_row_68 h405_) (la_row_69 h405_)))
    have h421_ := (h27_ (la_row_70 h405_))
    have h422_ := (h28_ (la_row_70 h405_))
    have h423_ := (h92_ (la_row_71 h405_))
    obtain ⟨h424_, ⟨h425_, ⟨h426_, ⟨h427_, ⟨h428_, ⟨h429_, ⟨h430_, ⟨h431_, h432_⟩⟩⟩⟩⟩⟩⟩⟩ := (h323_.resolve_left (la_row_72 h405_))
    have h433_ := (h332_ (la_row_73 h405_))
    have h434_ := (h333_ (la_row_74 h405_))
    have h435_ := (h417_ (la_row_75 h405_))
    have h436_ := (h418_ (la_row_76 h405_))
    have h437_ := (h419_ la_row_30)
    obtain ⟨h438_, h439_⟩ := (h420_ h4_)
    have h440_ := (h423_.resolve_left (la_row_77 h405_))
    have h441_ := (h431_ (la_row_78 h405_))
    have h442_ := (h432_ (la_row_79 h405_))
    have h443_ := (h436_ (la_row_70 h405_))
    have h444_ := (h437_ la_row_32)
    have h445_ := (h442_ (la_row_80 h405_))
    have h446_ := (h443_ (la_row_81 h405_))
    have e447_ : S 1100001 (S 13 l3_24) = S 1100001 (S 12 (5 * l3_24)) := congrArg ((S 1100001)) (la_row_81 h405_)
    have e448_ : S 1100001 l3_24 = S 1100001 (S 12 (5 * l3_24)) := congrArg ((S 1100001)) (la_row_81 h405_)
    have e449_ : S 1100001 l3_24 = S 1100001 (S 13 l3_24) := congrArg ((S 1100001)) (la_row_81 h405_)
    have e450_ : S 1100001 p1 = S 1100001 (S 12 (5 * l3_24)) := congrArg ((S 1100001)) (la_row_81 h405_)
    have e451_ : S 1100001 p1 = S 1100001 (S 13 l3_24) := congrArg ((S 1100001)) (la_row_81 h405_)
    have e452_ : S 1100001 p1 = S 1100001 l3_24 := congrArg ((S 1100001)) (la_row_81 h405_)
    have e453_ : S 1100002 (S 12 (5 * l3_24 + 0)) = S 1100002 (S 12 (5 * l3_24)) := congrArg ((S 1100002)) (la_row_81 h405_)
    have e454_ : S 1100002 (S 13 l3_24) = S 1100002 (S 12 (5 * l3_24)) := congrArg ((S 1100002)) (la_row_81 h405_)
    have e455_ : S 1100002 (S 13 l3_24) = S 1100002 (S 12 (5 * l3_24 + 0)) := congrArg ((S 1100002)) (la_row_81 h405_)
    have e456_ : S 1100002 l3_24 = S 1100002 (S 12 (5 * l3_24)) := congrArg ((S 1100002)) (la_row_81 h405_)
    have e457_ : S 1100002 l3_24 = S 1100002 (S 12 (5 * l3_24 + 0)) := congrArg ((S 1100002)) (la_row_81 h405_)
    have e458_ : S 1100002 l3_24 = S 1100002 (S 13 l3_24) := congrArg ((S 1100002)) (la_row_81 h405_)
    have e459_ : S 1100002 p1 = S 1100002 (S 12 (5 * l3_24)) := congrArg ((S 1100002)) (la_row_81 h405_)
    have e460_ : S 1100002 p1 = S 1100002 (S 12 (5 * l3_24 + 0)) := congrArg ((S 1100002)) (la_row_81 h405_)
    have e461_ : S 1100002 p1 = S 1100002 (S 13 l3_24) := congrArg ((S 1100002)) (la_row_81 h405_)
    have e462_ : S 1100002 p1 = S 1100002 l3_24 := congrArg ((S 1100002)) (la_row_81 h405_)
    have e463_ : S 1100003 l3_24 = S 1100003 (S 13 l3_24) := congrArg ((S 1100003)) (la_row_81 h405_)
    have e464_ : S 1100004 l3_24 = S 1100004 (S 13 l3_24) := congrArg ((S 1100004)) (la_row_81 h405_)
    have e465_ : S 1100005 (S 12 (5 * l3_24 + 0)) = S 1100005 (S 12 (5 * l3_24)) := congrArg ((S 1100005)) (la_row_81 h405_)
    have e466_ : S 1100005 (S 13 l3_24) = S 1100005 (S 12 (5 * l3_24)) := congrArg ((S 1100005)) (la_row_81 h405_)
    have e467_ : S 1100005 (S 13 l3_24) = S 1100005 (S 12 (5 * l3_24 + 0)) := congrArg ((S 1100005)) (la_row_81 h405_)
    have e468_ : S 1100005 l3_24 = S 1100005 (S 12 (5 * l3_24)) := congrArg ((S 1100005)) (la_row_81 h405_)
    have e469_ : S 1100005 l3_24 = S 1100005 (S 12 (5 * l3_24 + 0)) := congrArg ((S 1100005)) (la_row_81 h405_)
    have e470_ : S 1100005 l3_24 = S 1100005 (S 13 l3_24) := congrArg ((S 1100005)) (la_row_81 h405_)
    have e471_ : S 1100005 p1 = S 1100005 (S 12 (5 * l3_24)) := congrArg ((S 1100005)) (la_row_81 h405_)
    have e472_ : S 1100005 p1 = S 1100005 (S 12 (5 * l3_24 + 0)) := congrArg ((S 1100005)) (la_row_81 h405_)
    have e473_ : S 1100005 p1 = S 1100005 (S 13 l3_24) := congrArg ((S 1100005)) (la_row_81 h405_)
    have e474_ : S 1100005 p1 = S 1100005 l3_24 := congrArg ((S 1100005)) (la_row_81 h405_)
    have e475_ : S 1100007 (S 1100023 (S 1046 0)) = S 1100007 (S 1046 0) := congrArg ((S 1100007)) (la_row_81 h405_)
    have e476_ : S 1100007 (S 1100023 (S 1100023 (S 1046 0))) = S 1100007 (S 1046 0) := congrArg ((S 1100007)) (la_row_81 h405_)
    have e477_ : S 1100007 (S 1100023 (S 1100023 (S 1046 0))) = S 1100007 (S 1100023 (S 1046 0)) := congrArg ((S 1100007)) (la_row_81 h405_)
    have e478_ : S 1100007 (S 1100025 (S 1046 0)) = S 1100007 (S 1046 0) := congrArg ((S 1100007)) (la_row_81 h405_)
    have e479_ : S 1100007 (S 1100025 (S 1046 0)) = S 1100007 (S 1100023 (S 1046 0)) := congrArg ((S 1100007)) (la_row_81 h405_)
    have e480_ : S 1100007 (S 1100025 (S 1046 0)) = S 1100007 (S 1100023 (S 1100023 (S 1046 0))) := congrArg ((S 1100007)) (la_row_81 h405_)
    have e481_ : S 1100007 (S 1100025 (S 1100025 (S 1046 0))) = S 1100007 (S 1046 0) := congrArg ((S 1100007)) (la_row_81 h405_)
    have e482_ : S 1100007 (S 1100025 (S 1100025 (S 1046 0))) = S 1100007 (S 1100023 (S 1046 0)) := congrArg ((S 1100007)) (la_row_81 h405_)
    have e483_ : S 1100007 (S 1100025 (S 1100025 (S 1046 0))) = S 1100007 (S 1100023 (S 1100023 (S 1046 0))) := congrArg ((S 1100007)) (la_row_81 h405_)
    have e484_ : S 1100007 (S 1100025 (S 1100025 (S 1046 0))) = S 1100007 (S 1100025 (S 1046 0)) := congrArg ((S 1100007)) (la_row_81 h405_)
    have e485_ : S 1100007 (g14 1046 0) = S 1100007 (S 1046 0) := congrArg ((S 1100007)) (la_row_81 h405_)
    have e486_ : S 1100007 (g14 1046 0) = S 1100007 (S 1100023 (S 1046 0)) := congrArg ((S 1100007)) (la_row_81 h405_)
    have e487_ : S 1100007 (g14 1046 0) = S 1100007 (S 1100023 (S 1100023 (S 1046 0))) := congrArg ((S 1100007)) (la_row_81 h405_)
    have e488_ : S 1100007 (g14 1046 0) = S 1100007 (S 1100025 (S 1046 0)) := congrArg ((S 1100007)) (la_row_81 h405_)
    have e489_ : S 1100007 (g14 1046 0) = S 1100007 (S 1100025 (S 1100025 (S 1046 0))) := congrArg ((S 1100007)) (la_row_81 h405_)
    have e490_ : S 1100007 (g14 1100023 (g14 1046 0)) = S 1100007 (S 1046 0) := congrArg ((S 1100007)) (la_row_81 h405_)
    have e491_ : S 1100007 (g14 1100023 (g14 1046 0)) = S 1100007 (S 1100023 (S 1046 0)) := congrArg ((S 1100007)) (la_row_81 h405_)
    have e492_ : S 1100007 (g14 1100023 (g14 1046 0)) = S 1100007 (S 1100023 (S 1100023 (S 1046 0))) := congrArg ((S 1100007)) (la_row_81 h405_)
    have e493_ : S 1100007 (g14 1100023 (g14 1046 0)) = S 1100007 (S 1100025 (S 1046 0)) := congrArg ((S 1100007)) (la_row_81 h405_)
    have e494_ : S 1100007 (g14 1100023 (g14 1046 0)) = S 1100007 (S 1100025 (S 1100025 (S 1046 0))) := congrArg ((S 1100007)) (la_row_81 h405_)
    have e495_ : S 1100007 (g14 1100023 (g14 1046 0)) = S 1100007 (g14 1046 0) := congrArg ((S 1100007)) (la_row_81 h405_)
    have e496_ : S 1100007 (g14 1100025 (g14 1046 0)) = S 1100007 (S 1046 0) := congrArg ((S 1100007)) (la_row_81 h405_)
    have e497_ : S 1100007 (g14 1100025 (g14 1046 0)) = S 1100007 (S 1100023 (S 1046 0)) := congrArg ((S 1100007)) (la_row_81 h405_)
    have e498_ : S 1100007 (g14 1100025 (g14 1046 0)) = S 1100007 (S 1100023 (S 1100023 (S 1046 0))) := congrArg ((S 1100007)) (la_row_81 h405_)
    have e499_ : S 1100007 (g14 1100025 (g14 1046 0)) = S 1100007 (S 1100025 (S 1046 0)) := congrArg ((S 1100007)) (la_row_81 h405_)
    have e500_ : S 1100007 (g14 1100025 (g14 1046 0)) = S 1100007 (S 1100025 (S 1100025 (S 1046 0))) := congrArg ((S 1100007)) (la_row_81 h405_)
    have e501_ : S 1100007 (g14 1100025 (g14 1046 0)) = S 1100007 (g14 1046 0) := congrArg ((S 1100007)) (la_row_81 h405_)
    have e502_ : S 1100007 (g14 1100025 (g14 1046 0)) = S 1100007 (g14 1100023 (g14 1046 0)) := congrArg ((S 1100007)) (la_row_81 h405_)
    have e503_ : S 1100007 (g22 1046 0) = S 1100007 (S 1046 0) := congrArg ((S 1100007)) (la_row_81 h405_)
    have e504_ : S 1100007 (g22 1046 0) = S 1100007 (S 1100023 (S 1046 0)) := congrArg ((S 1100007)) (la_row_81 h405_)
    have e505_ : S 1100007 (g22 1046 0) = S 1100007 (S 1100023 (S 1100023 (S 1046 0))) := congrArg ((S 1100007)) (la_row_81 h405_)
    have e506_ : S 1100007 (g22 1046 0) = S 1100007 (S 1100025 (S 1046 0)) := congrArg ((S 1100007)) (la_row_81 h405_)
    have e507_ : S 1100007 (g22 1046 0) = S 1100007 (S 1100025 (S 1100025 (S 1046 0))) := congrArg ((S 1100007)) (la_row_81 h405_)
    have e508_ : S 1100007 (g22 1046 0) = S 1100007 (g14 1046 0) := congrArg ((S 1100007)) (la_row_81 h405_)
    have e509_ : S 1100007 (g22 1046 0) = S 1100007 (g14 1100023 (g14 1046 0)) := congrArg ((S 1100007)) (la_row_81 h405_)
    have e510_ : S 1100007 (g22 1046 0) = S 1100007 (g14 1100025 (g14 1046 0)) := congrArg ((S 1100007)) (la_row_81 h405_)
    have e511_ : S 1100007 (g22 1100023 (g22 1046 0)) = S 1100007 (S 1046 0) := congrArg ((S 1100007)) (la_row_81 h405_)
    have e512_ : S 1100007 (g22 1100023 (g22 1046 0)) = S 1100007 (S 1100023 (S 1046 0)) := congrArg ((S 1100007)) h395_
    have e513_ : S 1100007 (g22 1100023 (g22 1046 0)) = S 1100007 (S 1100023 (S 1100023 (S 1046 0))) := congrArg ((S 1100007)) (la_row_81 h405_)
    have e514_ : S 1100007 (g22 1100023 (g22 1046 0)) = S 1100007 (S 1100025 (S 1046 0)) := congrArg ((S 1100007)) (la_row_81 h405_)
    have e515_ : S 1100007 (g22 1100023 (g22 1046 0)) = S 1100007 (S 1100025 (S 1100025 (S 1046 0))) := congrArg ((S 1100007)) (la_row_81 h405_)
    have e516_ : S 1100007 (g22 1100023 (g22 1046 0)) = S 1100007 (g14 1046 0) := congrArg ((S 1100007)) (la_row_81 h405_)
    have e517_ : S 1100007 (g22 1100023 (g22 1046 0)) = S 1100007 (g14 1100023 (g14 1046 0)) := congrArg ((S 1100007)) (la_row_81 h405_)
    have e518_ : S 1100007 (g22 1100023 (g22 1046 0)) = S 1100007 (g14 1100025 (g14 1046 0)) := congrArg ((S 1100007)) (la_row_81 h405_)
    have e519_ : S 1100007 (g22 1100023 (g22 1046 0)) = S 1100007 (g22 1046 0) := congrArg ((S 1100007)) (la_row_81 h405_)
    have e520_ : S 1100007 (g22 1100025 (g22 1046 0)) = S 1100007 (S 1046 0) := congrArg ((S 1100007)) (la_row_81 h405_)
    have e521_ : S 1100007 (g22 1100025 (g22 1046 0)) = S 1100007 (S 1100023 (S 1046 0)) := congrArg ((S 1100007)) (la_row_81 h405_)
    have e522_ : S 1100007 (g22 1100025 (g22 1046 0)) = S 1100007 (S 1100023 (S 1100023 (S 1046 0))) := congrArg ((S 1100007)) (la_row_81 h405_)
    have e523_ : S 1100007 (g22 1100025 (g22 1046 0)) = S 1100007 (S 1100025 (S 1046 0)) := congrArg ((S 1100007)) h397_
    have e524_ : S 1100007 (g22 1100025 (g22 1046 0)) = S 1100007 (S 1100025 (S 1100025 (S 1046 0))) := congrArg ((S 1100007)) (la_row_81 h405_)
    have e525_ : S 1100007 (g22 1100025 (g22 1046 0)) = S 1100007 (g14 1046 0) := congrArg ((S 1100007)) (la_row_81 h405_)
    have e526_ : S 1100007 (g22 1100025 (g22 1046 0)) = S 1100007 (g14 1100023 (g14 1046 0)) := congrArg ((S 1100007)) (la_row_81 h405_)
    have e527_ : S 1100007 (g22 1100025 (g22 1046 0)) = S 1100007 (g14 1100025 (g14 1046 0)) := congrArg ((S 1100007)) (la_row_81 h405_)
    have e528_ : S 1100007 (g22 1100025 (g22 1046 0)) = S 1100007 (g22 1046 0) := congrArg ((S 1100007)) (la_row_81 h405_)
    have e529_ : S 1100007 (g22 1100025 (g22 1046 0)) = S 1100007 (g22 1100023 (g22 1046 0)) := congrArg ((S 1100007)) (la_row_81 h405_)
    have e530_ : S 1100023 (S 1100023 (S 1046 0)) = S 1100023 (S 1046 0) := congrArg ((S 1100023)) (la_row_81 h405_)
    have e531_ : S 1100023 (g14 1046 0) = S 1100023 (S 1046 0) := congrArg ((S 1100023)) (la_row_81 h405_)
    have e532_ : S 1100023 (g14 1046 0) = S 1100023 (S 1100023 (S 1046 0)) := congrArg ((S 1100023)) (la_row_81 h405_)
    have e533_ : S 1100023 (g22 1046 0) = S 1100023 (S 1046 0) := congrArg ((S 1100023)) (la_row_81 h405_)
    have e534_ : S 1100023 (g22 1046 0) = S 1100023 (S 1100023 (S 1046 0)) := congrArg ((S 1100023)) (la_row_81 h405_)
    have e535_ : S 1100023 (g22 1046 0) = S 1100023 (g14 1046 0) := congrArg ((S 1100023)) (la_row_81 h405_)
    have e536_ : S 1100024 (g14 1046 0) = S 1100024 (S 1046 0) := congrArg ((S 1100024)) (la_row_81 h405_)
    have e537_ : S 1100024 (g22 1046 0) = S 1100024 (S 1046 0) := congrArg ((S 1100024)) (la_row_81 h405_)
    have e538_ : S 1100024 (g22 1046 0) = S 1100024 (g14 1046 0) := congrArg ((S 1100024)) (la_row_81 h405_)
    have e539_ : S 1100025 (S 1100025 (S 1046 0)) = S 1100025 (S 1046 0) := congrArg ((S 1100025)) (la_row_81 h405_)
    have e540_ : S 1100025 (g14 1046 0) = S 1100025 (S 1046 0) := congrArg ((S 1100025)) (la_row_81 h405_)
    have e541_ : S 1100025 (g14 1046 0) = S 1100025 (S 1100025 (S 1046 0)) := congrArg ((S 1100025)) (la_row_81 h405_)
    have e542_ : S 1100025 (g22 1046 0) = S 1100025 (S 1046 0) := congrArg ((S 1100025)) (la_row_81 h405_)
    have e543_ : S 1100025 (g22 1046 0) = S 1100025 (S 1100025 (S 1046 0)) := congrArg ((S 1100025)) (la_row_81 h405_)
    have e544_ : S 1100025 (g22 1046 0) = S 1100025 (g14 1046 0) := congrArg ((S 1100025)) (la_row_81 h405_)
    have e545_ : S 12 (5 * S 12 (5 * l3_24) + 1) = S 12 (5 * l3_24) := congrArg ((S 12)) (la_row_84 h405_)
    have e546_ : S 12 (5 * l3_24 + 0) = S 12 (5 * l3_24) := congrArg ((S 12)) la_row_57
    have e547_ : S 12 (5 * l3_24 + 0) = S 12 (5 * S 12 (5 * l3_24) + 1) := congrArg ((S 12)) (la_row_85 h405_)
    have e548_ : S 12 (5 * l3_24 + 1) = S 12 (5 * l3_24) := congrArg ((S 12)) (la_row_86 h405_)
    have e549_ : S 12 (5 * l3_24 + 1) = S 12 (5 * S 12 (5 * l3_24) + 1) := congrArg ((S 12)) (la_row_87 h405_)
    have e550_ : S 12 (5 * l3_24 + 1) = S 12 (5 * l3_24 + 0) := congrArg ((S 12)) (la_row_88 h405_)
    have e551_ : g14 1100007 (g14 1100023 (g14 1046 0)) = g14 1100007 (g14 1046 0) := congrArg ((g14 1100007)) (la_row_81 h405_)
    have e552_ : g14 1100007 (g14 1100025 (g14 1046 0)) = g14 1100007 (g14 1046 0) := congrArg ((g14 1100007)) (la_row_81 h405_)
    have e553_ : g14 1100007 (g14 1100025 (g14 1046 0)) = g14 1100007 (g14 1100023 (g14 1046 0)) := congrArg ((g14 1100007)) (la_row_81 h405_)
    have e554_ : g22 1100007 (g22 1100023 (g22 1046 0)) = g22 1100007 (g22 1046 0) := congrArg ((g22 1100007)) (la_row_81 h405_)
    have e555_ : g22 1100007 (g22 1100025 (g22 1046 0)) = g22 1100007 (g22 1046 0) := congrArg ((g22 1100007)) (la_row_81 h405_)
    have e556_ : g22 1100007 (g22 1100025 (g22 1046 0)) = g22 1100007 (g22 1100023 (g22 1046 0)) := congrArg ((g22 1100007)) (la_row_81 h405_)
    have e557_ : g22 1100023 (g22 1100023 (g22 1046 0)) = g22 1100023 (g22 1046 0) := congrArg ((g22 1100023)) (la_row_81 h405_)
    have e558_ : g22 1100025 (g22 1100025 (g22 1046 0)) = g22 1100025 (g22 1046 0) := congrArg ((g22 1100025)) (la_row_81 h405_)
    have e559_ : S 1100023 (g22 1100023 (g22 1046 0)) = S 1100023 (S 1046 0) := congrArg ((S 1100023)) (la_row_81 h405_)
    have e560_ : S 1100023 (g22 1100023 (g22 1046 0)) = S 1100023 (S 1100023 (S 1046 0)) := congrArg ((S 1100023)) h395_
    have e561_ : S 1100023 (g22 1100023 (g22 1046 0)) = S 1100023 (g14 1046 0) := congrArg ((S 1100023)) (la_row_81 h405_)
    have e562_ : S 1100023 (g22 1100023 (g22 1046 0)) = S 1100023 (g22 1046 0) := congrArg ((S 1100023)) (la_row_81 h405_)
    have e563_ : S 1100025 (g22 1100025 (g22 1046 0)) = S 1100025 (S 1046 0) := congrArg ((S 1100025)) (la_row_81 h405_)
    have e564_ : S 1100025 (g22 1100025 (g22 1046 0)) = S 1100025 (S 1100025 (S 1046 0)) := congrArg ((S 1100025)) h397_
    have e565_ : S 1100025 (g22 1100025 (g22 1046 0)) = S 1100025 (g14 1046 0) := congrArg ((S 1100025)) (la_row_81 h405_)
    have e566_ : S 1100025 (g22 1100025 (g22 1046 0)) = S 1100025 (g22 1046 0) := congrArg ((S 1100025)) (la_row_81 h405_)
    exact ((la_row_89 h405_)).elim
  refine ⟨(la_row_90 h239_ h245_ h290_ e295_), ?_⟩
  intro g41
  rintro ⟨h567_, ⟨h568_, ⟨h569_, ⟨h570_, ⟨h571_, ⟨h572_, ⟨h573_, ⟨h574_, ⟨h575_, ⟨h576_, ⟨h577_, ⟨h578_, ⟨h579_, ⟨h580_, ⟨h581_, ⟨h582_, h583_⟩⟩⟩⟩⟩⟩⟩⟩⟩⟩⟩⟩⟩⟩⟩⟩
  refine ⟨?_, ?_⟩
  · skip
    refine ⟨(la_row_17 h569_), ?_⟩
    refine ⟨h572_, ?_⟩
    refine ⟨h567_, ?_⟩
    refine ⟨h568_, ?_⟩
    intro h584_
    obtain ⟨h585_, ⟨h586_, ⟨h587_, ⟨h588_, ⟨h589_, ⟨h590_, ⟨h591_, ⟨h592_, ⟨h593_, ⟨h594_, ⟨h595_, ⟨h596_, ⟨h597_, h598_⟩⟩⟩⟩⟩⟩⟩⟩⟩⟩⟩⟩⟩ := (h583_ h584_)
    have h599_ := (h598_ la_row_92)
    have h600_ := (h599_ la_row_94)
    refine ⟨h587_, ?_⟩
    refine ⟨la_row_95, ?_⟩
    refine ⟨la_row_96, ?_⟩
    refine ⟨la_row_97, ?_⟩
    refine ⟨(la_row_98 h27_ h394_ h395_ h398_ h591_ (sm_dl_18 : sm_dl 18 0 = 1) h592_ (sm_nt_18 : sm_nt 18 (g22 1046 0) (g22 1100023 (g22 1046 0)) (g22 1100023 (g22 1100023 (g22 1046 0))) = g22 1100023 (g22 1046 0)) h595_ (sm_nt_18 : sm_nt 18 (g22 1100007 (g22 1046 0)) (g22 1100007 (g22 1100023 (g22 1046 0))) (g22 1100007 (g22 1100023 (g22 1100023 (g22 1046 0)))) = g22 1100007 (g22 1100023 (g22 1046 0)))), ?_⟩
    intro h601_
    have h602_ := (h28_ (la_row_99 h397_ h594_ (sm_nl_18 : sm_nl 18 (g22 1046 0) (g22 1100007 (g22 1046 0)) (g22 1100025 (g22 1046 0)) (g22 1100007 (g22 1100025 (g22 1046 0))) (g22 1100025 (g22 1100025 (g22 1046 0))) = g22 1100025 (g22 1046 0)) h601_))
    exact (la_row_100 h394_ h399_ h591_ (sm_dl_18 : sm_dl 18 0 = 1) h600_ h602_)
  intro g48
  rintro ⟨h603_, ⟨h604_, ⟨h605_, ⟨h606_, ⟨h607_, ⟨h608_, ⟨h609_, ⟨h610_, ⟨h611_, ⟨h612_, ⟨h613_, ⟨h614_, ⟨h615_, ⟨h616_, ⟨h617_, ⟨h618_, h619_⟩⟩⟩⟩⟩⟩⟩⟩⟩⟩⟩⟩⟩⟩⟩⟩
  refine ⟨(la_row_101 h8_ h297_ h298_), ?_⟩
  refine ⟨?_, ?_⟩
  · skip
    refine ⟨h3_, ?_⟩
    refine ⟨h4_, ?_⟩
    refine ⟨h5_, ?_⟩
    refine ⟨h6_, ?_⟩
    refine ⟨h7_, ?_⟩
    refine ⟨h8_, ?_⟩
    refine ⟨h9_, ?_⟩
    refine ⟨h10_, ?_⟩
    refine ⟨h11_, ?_⟩
    refine ⟨h12_, ?_⟩
    refine ⟨h13_, ?_⟩
    refine ⟨(la_row_17 h605_), ?_⟩
    refine ⟨h608_, ?_⟩
    refine ⟨h603_, ?_⟩
    refine ⟨h604_, ?_⟩
    refine ⟨h210_, ?_⟩
    refine ⟨h211_, ?_⟩
    refine ⟨?_, ?_⟩
    · skip
      have e620_ : S 1100007 (g22 1100023 (g22 1046 0)) = S 1100007 (S 1100023 (S 1046 0)) := congrArg ((S 1100007)) h395_
      have e621_ : S 1100007 (g22 1100025 (g22 1046 0)) = S 1100007 (S 1100025 (S 1046 0)) := congrArg ((S 1100007)) h397_
      have e622_ : S 12 (5 * l3_24 + 0) = S 12 (5 * l3_24) := congrArg ((S 12)) la_row_57
      exact (la_row_103 (sm_ex_e h317_).1 e622_)
    refine ⟨?_, ?_⟩
    · skip
      have e623_ : S 1100007 (g22 1100023 (g22 1046 0)) = S 1100007 (S 1100023 (S 1046 0)) := congrArg ((S 1100007)) h395_
      have e624_ : S 1100007 (g22 1100025 (g22 1046 0)) = S 1100007 (S 1100025 (S 1046 0)) := congrArg ((S 1100007)) h397_
      have e625_ : S 12 (5 * l3_24 + 0) = S 12 (5 * l3_24) := congrArg ((S 12)) la_row_57
      exact (la_row_104 (sm_ex_e h317_).2.1 e625_)
    refine ⟨?_, ?_⟩
    · skip
      have e626_ : S 1100007 (g22 1100023 (g22 1046 0)) = S 1100007 (S 1100023 (S 1046 0)) := congrArg ((S 1100007)) h395_
      have e627_ : S 1100007 (g22 1100025 (g22 1046 0)) = S 1100007 (S 1100025 (S 1046 0)) := congrArg ((S 1100007)) h397_
      have e628_ : S 12 (5 * l3_24 + 0) = S 12 (5 * l3_24) := congrArg ((S 12)) la_row_57
      have e629_ : S 1100001 (S 12 (5 * l3_24 + 0)) = S 1100001 (S 12 (5 * l3_24)) := congrArg ((S 1100001)) e628_
      have e630_ : S 1100002 (S 12 (5 * l3_24 + 0)) = S 1100002 (S 12 (5 * l3_24)) := congrArg ((S 1100002)) e628_
      have e631_ : S 1100005 (S 12 (5 * l3_24 + 0)) = S 1100005 (S 12 (5 * l3_24)) := congrArg ((S 1100005)) e628_
      exact (la_row_105 (sm_ex_e h317_).2.2.1 e629_)
    refine ⟨?_, ?_⟩
    · skip
      have e632_ : S 1100007 (g22 1100023 (g22 1046 0)) = S 1100007 (S 1100023 (S 1046 0)) := congrArg ((S 1100007)) h395_
      have e633_ : S 1100007 (g22 1100025 (g22 1046 0)) = S 1100007 (S 1100025 (S 1046 0)) := congrArg ((S 1100007)) h397_
      have e634_ : S 12 (5 * l3_24 + 0) = S 12 (5 * l3_24) := congrArg ((S 12)) la_row_57
      exact (sm_LF_w h294_ sm_F1_rf (Int.le_refl _) (Int.le_refl _) h211_ (la_row_107 h8_ h301_ (sm_ex_e h317_).2.1 (sm_ex_e h317_).2.2.2.1 h336_ e634_))
    intro h635_
    have h636_ : ¬ (g41 1047 0 = 1) := fun q_ => (la_row_15 h635_) (h609_ q_)
    obtain ⟨h637_, ⟨h638_, ⟨h639_, ⟨h640_, ⟨h641_, ⟨h642_, ⟨h643_, ⟨h644_, ⟨h645_, ⟨h646_, ⟨h647_, ⟨h648_, ⟨h649_, h650_⟩⟩⟩⟩⟩⟩⟩⟩⟩⟩⟩⟩⟩ := (h619_ h635_)
    have h651_ := (h650_ la_row_108)
    obtain ⟨h652_, ⟨h653_, ⟨h654_, ⟨h655_, ⟨h656_, ⟨h657_, ⟨h658_, ⟨h659_, ⟨h660_, ⟨h661_, ⟨h662_, ⟨h663_, ⟨h664_, h665_⟩⟩⟩⟩⟩⟩⟩⟩⟩⟩⟩⟩⟩ := (h583_ h637_)
    have h666_ := (h651_ la_row_110)
    have h667_ := (h665_ la_row_92)
    have h668_ := (h667_ la_row_94)
    refine ⟨h639_, ?_⟩
    refine ⟨h389_, ?_⟩
    refine ⟨h390_, ?_⟩
    refine ⟨(la_row_111 h391_ h638_ h653_), ?_⟩
    refine ⟨(la_row_112 h27_ h394_ h395_ h398_ h643_ (sm_dl_0 : sm_dl 0 5 = 1) h644_ (sm_nt_0 : sm_nt 0 (g41 1046 0) (g41 1100023 (g41 1046 0)) (g41 1100023 (g41 1100023 (g41 1046 0))) = g41 1100023 (g41 1046 0)) h647_ (sm_nt_0 : sm_nt 0 (g41 1100007 (g41 1046 0)) (g41 1100007 (g41 1100023 (g41 1046 0))) (g41 1100007 (g41 1100023 (g41 1100023 (g41 1046 0)))) = g41 1100007 (g41 1100023 (g41 1046 0))) h658_ (sm_dl_18 : sm_dl 18 0 = 1) h659_ (sm_nt_18 : sm_nt 18 (g22 1046 0) (g22 1100023 (g22 1046 0)) (g22 1100023 (g22 1100023 (g22 1046 0))) = g22 1100023 (g22 1046 0)) h662_ (sm_nt_18 : sm_nt 18 (g22 1100007 (g22 1046 0)) (g22 1100007 (g22 1100023 (g22 1046 0))) (g22 1100007 (g22 1100023 (g22 1100023 (g22 1046 0)))) = g22 1100007 (g22 1100023 (g22 1046 0)))), ?_⟩
    refine ⟨(la_row_113 h28_ h394_ h397_ h399_ h643_ (sm_dl_0 : sm_dl 0 5 = 1) h646_ (sm_nl_0 : sm_nl 0 (g41 1046 0) (g41 1100007 (g41 1046 0)) (g41 1100025 (g41 1046 0)) (g41 1100007 (g41 1100025 (g41 1046 0))) (g41 1100025 (g41 1100025 (g41 1046 0))) = g41 1100025 (g41 1046 0)) h658_ (sm_dl_18 : sm_dl 18 0 = 1) h661_ (sm_nl_18 : sm_nl 18 (g22 1046 0) (g22 1100007 (g22 1046 0)) (g22 1100025 (g22 1046 0)) (g22 1100007 (g22 1100025 (g22 1046 0))) (g22 1100025 (g22 1100025 (g22 1046 0))) = g22 1100025 (g22 1046 0)) h666_ h668_), ?_⟩
    refine ⟨(la_row_114 h29_ h392_ h394_ h638_ h643_ (sm_dl_0 : sm_dl 0 5 = 1) h653_ h658_ (sm_dl_18 : sm_dl 18 0 = 1)), ?_⟩
    exact (la_row_115 h30_ e295_ h301_ (sm_ex_e h317_).2.2.2.1 h336_ h402_ h638_ h653_)
  refine ⟨?_, ?_⟩
  · skip
    refine ⟨?_, ?_⟩
    · skip
      have e669_ : S 1100007 (g22 1100023 (g22 1046 0)) = S 1100007 (S 1100023 (S 1046 0)) := congrArg ((S 1100007)) h395_
      have e670_ : S 1100007 (g22 1100025 (g22 1046 0)) = S 1100007 (S 1100025 (S 1046 0)) := congrArg ((S 1100007)) h397_
      have e671_ : S 12 (5 * l3_24 + 0) = S 12 (5 * l3_24) := congrArg ((S 12)) la_row_57
      have e672_ : S 1100002 (S 12 (5 * l3_24 + 0)) = S 1100002 (S 12 (5 * l3_24)) := congrArg ((S 1100002)) e671_
      have e673_ : S 1100005 (S 12 (5 * l3_24 + 0)) = S 1100005 (S 12 (5 * l3_24)) := congrArg ((S 1100005)) e671_
      by_cases c674_ : g48 1047 0 = 0
      · skip
        have e675_ : (if g48 1047 0 = 0 then S 1100002 (S 12 (5 * l3_24 + 0)) + (600 - g48 1046 0) + 8 else 4 : Int) = S 1100002 (S 12 (5 * l3_24 + 0)) + (600 - g48 1046 0) + 8 := if_pos c674_
        have h676_ : ¬ (g41 1047 0 = 1) := fun q_ => (la_row_15 c674_) (h609_ q_)
        obtain ⟨h677_, ⟨h678_, ⟨h679_, ⟨h680_, ⟨h681_, ⟨h682_, ⟨h683_, ⟨h684_, ⟨h685_, ⟨h686_, ⟨h687_, ⟨h688_, ⟨h689_, h690_⟩⟩⟩⟩⟩⟩⟩⟩⟩⟩⟩⟩⟩ := (h619_ c674_)
        have h691_ := (h690_ la_row_108)
        obtain ⟨h692_, ⟨h693_, ⟨h694_, ⟨h695_, ⟨h696_, ⟨h697_, ⟨h698_, ⟨h699_, ⟨h700_, ⟨h701_, ⟨h702_, ⟨h703_, ⟨h704_, h705_⟩⟩⟩⟩⟩⟩⟩⟩⟩⟩⟩⟩⟩ := (h583_ h677_)
        have h706_ := (h691_ la_row_110)
        have h707_ := (h705_ la_row_92)
        have h708_ := (h707_ la_row_94)
        exact (la_row_116 h331_ h336_ h608_ e675_)
      · skip
        have e709_ : (if g48 1047 0 = 0 then S 1100002 (S 12 (5 * l3_24 + 0)) + (600 - g48 1046 0) + 8 else 4 : Int) = 4 := if_neg c674_
        have h710_ := (h610_ (la_row_117 h604_ (la_row_56 h603_ c674_)))
        exact (la_row_118 e709_)
    have e711_ : S 1100007 (g22 1100023 (g22 1046 0)) = S 1100007 (S 1100023 (S 1046 0)) := congrArg ((S 1100007)) h395_
    have e712_ : S 1100007 (g22 1100025 (g22 1046 0)) = S 1100007 (S 1100025 (S 1046 0)) := congrArg ((S 1100007)) h397_
    have e713_ : S 12 (5 * l3_24 + 0) = S 12 (5 * l3_24) := congrArg ((S 12)) la_row_57
    have e714_ : S 1100002 (S 12 (5 * l3_24 + 0)) = S 1100002 (S 12 (5 * l3_24)) := congrArg ((S 1100002)) e713_
    have e715_ : S 1100005 (S 12 (5 * l3_24 + 0)) = S 1100005 (S 12 (5 * l3_24)) := congrArg ((S 1100005)) e713_
    by_cases c716_ : g14 1047 0 = 1
    · skip
      have h717_ := (h92_ c716_)
      have h718_ := (h717_.resolve_left (la_row_15 h22_))
      obtain ⟨h719_, ⟨h720_, ⟨h721_, ⟨h722_, ⟨h723_, ⟨h724_, ⟨h725_, ⟨h726_, ⟨h727_, ⟨h728_, ⟨h729_, ⟨h730_, ⟨h731_, h732_⟩⟩⟩⟩⟩⟩⟩⟩⟩⟩⟩⟩⟩ := (h583_ (la_row_119 h207_ h392_ h567_ h718_))
      obtain ⟨h733_, ⟨h734_, ⟨h735_, ⟨h736_, ⟨h737_, ⟨h738_, ⟨h739_, ⟨h740_, ⟨h741_, ⟨h742_, ⟨h743_, ⟨h744_, ⟨h745_, h746_⟩⟩⟩⟩⟩⟩⟩⟩⟩⟩⟩⟩⟩ := (h619_ (la_row_120 h392_ h572_ h718_ h720_))
      have e747_ : (if g48 1047 0 = 0 then S 1100002 (S 12 (5 * l3_24 + 0)) + (600 - g48 1046 0) + 8 else 4 : Int) = S 1100002 (S 12 (5 * l3_24 + 0)) + (600 - g48 1046 0) + 8 := if_pos (la_row_121 h392_ h608_ h718_ h720_ h734_)
      have h748_ := (h27_ (la_row_122 h392_ h572_ h718_ h720_))
      have h749_ := (h28_ (la_row_122 h392_ h572_ h718_ h720_))
      have h750_ := (h574_ (la_row_123 h392_ h608_ h718_ h720_ h733_ h734_))
      have h751_ := (h609_ (la_row_123 h392_ h608_ h718_ h720_ h733_ h734_))
      have h752_ := (h610_ h751_)
      have h753_ := (h732_ la_row_92)
      have h754_ := (h746_ la_row_108)
      have h755_ := (h750_.resolve_left (la_row_124 h392_ h608_ h718_ h720_ h734_))
      have h756_ := (h752_.resolve_left (la_row_124 h392_ h608_ h718_ h720_ h734_))
      have h757_ := (h753_ la_row_94)
      have h758_ := (h754_ la_row_110)
      exact (la_row_125 h392_ h608_ h718_ h720_ h734_)
    · skip
      obtain ⟨h759_, ⟨h760_, ⟨h761_, ⟨h762_, ⟨h763_, ⟨h764_, ⟨h765_, ⟨h766_, ⟨h767_, ⟨h768_, ⟨h769_, ⟨h770_, ⟨h771_, h772_⟩⟩⟩⟩⟩⟩⟩⟩⟩⟩⟩⟩⟩ := (h101_ (la_row_29 h85_ (la_row_28 h86_ c716_)))
      have h773_ := (h772_ la_row_30)
      have h774_ := (h773_ la_row_32)
      have e775_ : S 1100007 (g14 1100023 (g14 1046 0)) = S 1100007 (S 1100023 (S 1046 0)) := congrArg ((S 1100007)) (la_row_34 h766_ (sm_nt_8 : sm_nt 8 (S 1046 0) (S 1100023 (S 1046 0)) (S 1100023 (S 1100023 (S 1046 0))) = S 1100023 (S 1046 0)))
      have e776_ : S 1100007 (g14 1100025 (g14 1046 0)) = S 1100007 (S 1100025 (S 1046 0)) := congrArg ((S 1100007)) (la_row_34 h768_ (sm_nl_8 : sm_nl 8 (S 1046 0) (S 1100007 (S 1046 0)) (S 1100025 (S 1046 0)) (S 1100007 (S 1100025 (S 1046 0))) (S 1100025 (S 1100025 (S 1046 0))) = S 1100025 (S 1046 0)))
      have e777_ : S 1100007 (g22 1100023 (g22 1046 0)) = S 1100007 (g14 1100023 (g14 1046 0)) := congrArg ((S 1100007)) (la_row_126 h395_ h766_ (sm_nt_8 : sm_nt 8 (S 1046 0) (S 1100023 (S 1046 0)) (S 1100023 (S 1100023 (S 1046 0))) = S 1100023 (S 1046 0)))
      have e778_ : S 1100007 (g22 1100025 (g22 1046 0)) = S 1100007 (g14 1100025 (g14 1046 0)) := congrArg ((S 1100007)) (la_row_126 h397_ h768_ (sm_nl_8 : sm_nl 8 (S 1046 0) (S 1100007 (S 1046 0)) (S 1100025 (S 1046 0)) (S 1100007 (S 1100025 (S 1046 0))) (S 1100025 (S 1100025 (S 1046 0))) = S 1100025 (S 1046 0)))
      by_cases c779_ : g48 1047 0 = 0
      · skip
        have e780_ : (if g48 1047 0 = 0 then S 1100002 (S 12 (5 * l3_24 + 0)) + (600 - g48 1046 0) + 8 else 4 : Int) = S 1100002 (S 12 (5 * l3_24 + 0)) + (600 - g48 1046 0) + 8 := if_pos c779_
        have h781_ : ¬ (g41 1047 0 = 1) := fun q_ => (la_row_15 c779_) (h609_ q_)
        obtain ⟨h782_, ⟨h783_, ⟨h784_, ⟨h785_, ⟨h786_, ⟨h787_, ⟨h788_, ⟨h789_, ⟨h790_, ⟨h791_, ⟨h792_, ⟨h793_, ⟨h794_, h795_⟩⟩⟩⟩⟩⟩⟩⟩⟩⟩⟩⟩⟩ := (h619_ c779_)
        have h796_ := (h795_ la_row_108)
        obtain ⟨h797_, ⟨h798_, ⟨h799_, ⟨h800_, ⟨h801_, ⟨h802_, ⟨h803_, ⟨h804_, ⟨h805_, ⟨h806_, ⟨h807_, ⟨h808_, ⟨h809_, h810_⟩⟩⟩⟩⟩⟩⟩⟩⟩⟩⟩⟩⟩ := (h583_ h782_)
        have h811_ := (h796_ la_row_110)
        have h812_ := (h810_ la_row_92)
        have h813_ := (h812_ la_row_94)
        exact (la_row_127 h31_ e295_ h301_ (sm_ex_e h317_).2.2.2.1 h336_ h392_ e780_ h783_ h798_)
      · skip
        have e814_ : (if g48 1047 0 = 0 then S 1100002 (S 12 (5 * l3_24 + 0)) + (600 - g48 1046 0) + 8 else 4 : Int) = 4 := if_neg c779_
        have h815_ := (h610_ (la_row_117 h604_ (la_row_56 h603_ c779_)))
        exact (la_row_128 h31_ h239_ h245_ h290_ e295_ e814_)
  refine ⟨?_, ?_⟩
  · skip
    refine ⟨?_, ?_⟩
    · skip
      have e816_ : S 1100007 (g22 1100023 (g22 1046 0)) = S 1100007 (S 1100023 (S 1046 0)) := congrArg ((S 1100007)) h395_
      have e817_ : S 1100007 (g22 1100025 (g22 1046 0)) = S 1100007 (S 1100025 (S 1046 0)) := congrArg ((S 1100007)) h397_
      have e818_ : S 12 (5 * l3_24 + 0) = S 12 (5 * l3_24) := congrArg ((S 12)) la_row_57
      have e819_ : S 1100002 (S 12 (5 * l3_24 + 0)) = S 1100002 (S 12 (5 * l3_24)) := congrArg ((S 1100002)) e818_
      have e820_ : S 1100005 (S 12 (5 * l3_24 + 0)) = S 1100005 (S 12 (5 * l3_24)) := congrArg ((S 1100005)) e818_
      by_cases c821_ : g48 1047 0 = 0
      · skip
        have e822_ : (if g48 1047 0 = 0 then S 1100002 (S 12 (5 * l3_24 + 0)) + (600 - g48 1046 0) + 8 else 4 : Int) = S 1100002 (S 12 (5 * l3_24 + 0)) + (600 - g48 1046 0) + 8 := if_pos c821_
        have h823_ : ¬ (g41 1047 0 = 1) := fun q_ => (la_row_15 c821_) (h609_ q_)
        obtain ⟨h824_, ⟨h825_, ⟨h826_, ⟨h827_, ⟨h828_, ⟨h829_, ⟨h830_, ⟨h831_, ⟨h832_, ⟨h833_, ⟨h834_, ⟨h835_, ⟨h836_, h837_⟩⟩⟩⟩⟩⟩⟩⟩⟩⟩⟩⟩⟩ := (h619_ c821_)
        have h838_ := (h837_ la_row_108)
        obtain ⟨h839_, ⟨h840_, ⟨h841_, ⟨h842_, ⟨h843_, ⟨h844_, ⟨h845_, ⟨h846_, ⟨h847_, ⟨h848_, ⟨h849_, ⟨h850_, ⟨h851_, h852_⟩⟩⟩⟩⟩⟩⟩⟩⟩⟩⟩⟩⟩ := (h583_ h824_)
        have h853_ := (h838_ la_row_110)
        have h854_ := (h852_ la_row_92)
        have h855_ := (h854_ la_row_94)
        exact (la_row_116 h331_ h336_ h608_ e822_)
      · skip
        have e856_ : (if g48 1047 0 = 0 then S 1100002 (S 12 (5 * l3_24 + 0)) + (600 - g48 1046 0) + 8 else 4 : Int) = 4 := if_neg c821_
        have h857_ := (h610_ (la_row_117 h604_ (la_row_56 h603_ c821_)))
        exact (la_row_118 e856_)
    have e858_ : S 1100007 (g22 1100023 (g22 1046 0)) = S 1100007 (S 1100023 (S 1046 0)) := congrArg ((S 1100007)) h395_
    have e859_ : S 1100007 (g22 1100025 (g22 1046 0)) = S 1100007 (S 1100025 (S 1046 0)) := congrArg ((S 1100007)) h397_
    have e860_ : S 12 (5 * l3_24 + 0) = S 12 (5 * l3_24) := congrArg ((S 12)) la_row_57
    have e861_ : S 1100002 (S 12 (5 * l3_24 + 0)) = S 1100002 (S 12 (5 * l3_24)) := congrArg ((S 1100002)) e860_
    have e862_ : S 1100005 (S 12 (5 * l3_24 + 0)) = S 1100005 (S 12 (5 * l3_24)) := congrArg ((S 1100005)) e860_
    by_cases c863_ : g14 1047 0 = 1
    · skip
      have h864_ := (h92_ c863_)
      have h865_ := (h864_.resolve_left (la_row_15 h22_))
      obtain ⟨h866_, ⟨h867_, ⟨h868_, ⟨h869_, ⟨h870_, ⟨h871_, ⟨h872_, ⟨h873_, ⟨h874_, ⟨h875_, ⟨h876_, ⟨h877_, ⟨h878_, h879_⟩⟩⟩⟩⟩⟩⟩⟩⟩⟩⟩⟩⟩ := (h583_ (la_row_119 h207_ h392_ h567_ h865_))
      obtain ⟨h880_, ⟨h881_, ⟨h882_, ⟨h883_, ⟨h884_, ⟨h885_, ⟨h886_, ⟨h887_, ⟨h888_, ⟨h889_, ⟨h890_, ⟨h891_, ⟨h892_, h893_⟩⟩⟩⟩⟩⟩⟩⟩⟩⟩⟩⟩⟩ := (h619_ (la_row_120 h392_ h572_ h865_ h867_))
      have e894_ : (if g48 1047 0 = 0 then S 1100002 (S 12 (5 * l3_24 + 0)) + (600 - g48 1046 0) + 8 else 4 : Int) = S 1100002 (S 12 (5 * l3_24 + 0)) + (600 - g48 1046 0) + 8 := if_pos (la_row_121 h392_ h608_ h865_ h867_ h881_)
      have h895_ := (h27_ (la_row_122 h392_ h572_ h865_ h867_))
      have h896_ := (h28_ (la_row_122 h392_ h572_ h865_ h867_))
      have h897_ := (h574_ (la_row_123 h392_ h608_ h865_ h867_ h880_ h881_))
      have h898_ := (h609_ (la_row_123 h392_ h608_ h865_ h867_ h880_ h881_))
      have h899_ := (h610_ h898_)
      have h900_ := (h879_ la_row_92)
      have h901_ := (h893_ la_row_108)
      have h902_ := (h897_.resolve_left (la_row_124 h392_ h608_ h865_ h867_ h881_))
      have h903_ := (h899_.resolve_left (la_row_124 h392_ h608_ h865_ h867_ h881_))
      have h904_ := (h900_ la_row_94)
      have h905_ := (h901_ la_row_110)
      exact (la_row_129 h392_ h608_ h865_ h867_ h881_)
    · skip
      obtain ⟨h906_, ⟨h907_, ⟨h908_, ⟨h909_, ⟨h910_, ⟨h911_, ⟨h912_, ⟨h913_, ⟨h914_, ⟨h915_, ⟨h916_, ⟨h917_, ⟨h918_, h919_⟩⟩⟩⟩⟩⟩⟩⟩⟩⟩⟩⟩⟩ := (h101_ (la_row_29 h85_ (la_row_28 h86_ c863_)))
      have h920_ := (h919_ la_row_30)
      have h921_ := (h920_ la_row_32)
      have e922_ : S 1100007 (g14 1100023 (g14 1046 0)) = S 1100007 (S 1100023 (S 1046 0)) := congrArg ((S 1100007)) (la_row_34 h913_ (sm_nt_8 : sm_nt 8 (S 1046 0) (S 1100023 (S 1046 0)) (S 1100023 (S 1100023 (S 1046 0))) = S 1100023 (S 1046 0)))
      have e923_ : S 1100007 (g14 1100025 (g14 1046 0)) = S 1100007 (S 1100025 (S 1046 0)) := congrArg ((S 1100007)) (la_row_34 h915_ (sm_nl_8 : sm_nl 8 (S 1046 0) (S 1100007 (S 1046 0)) (S 1100025 (S 1046 0)) (S 1100007 (S 1100025 (S 1046 0))) (S 1100025 (S 1100025 (S 1046 0))) = S 1100025 (S 1046 0)))
      have e924_ : S 1100007 (g22 1100023 (g22 1046 0)) = S 1100007 (g14 1100023 (g14 1046 0)) := congrArg ((S 1100007)) (la_row_126 h395_ h913_ (sm_nt_8 : sm_nt 8 (S 1046 0) (S 1100023 (S 1046 0)) (S 1100023 (S 1100023 (S 1046 0))) = S 1100023 (S 1046 0)))
      have e925_ : S 1100007 (g22 1100025 (g22 1046 0)) = S 1100007 (g14 1100025 (g14 1046 0)) := congrArg ((S 1100007)) (la_row_126 h397_ h915_ (sm_nl_8 : sm_nl 8 (S 1046 0) (S 1100007 (S 1046 0)) (S 1100025 (S 1046 0)) (S 1100007 (S 1100025 (S 1046 0))) (S 1100025 (S 1100025 (S 1046 0))) = S 1100025 (S 1046 0)))
      by_cases c960_ : g48 1047 0 = 0
      · skip
        have e961_ : (if g48 1047 0 = 0 then S 1100002 (S 12 (5 * l3_24 + 0)) + (600 - g48 1046 0) + 8 else 4 : Int) = S 1100002 (S 12 (5 * l3_24 + 0)) + (600 - g48 1046 0) + 8 := if_pos c960_
        have h962_ : ¬ (g41 1047 0 = 1) := fun q_ => (la_row_15 c960_) (h609_ q_)
        obtain ⟨h963_, ⟨h964_, ⟨h965_, ⟨h966_, ⟨h967_, ⟨h968_, ⟨h969_, ⟨h970_, ⟨h971_, ⟨h972_, ⟨h973_, ⟨h974_, ⟨h975_, h976_⟩⟩⟩⟩⟩⟩⟩⟩⟩⟩⟩⟩⟩ := (h619_ c960_)
        have h977_ := (h976_ la_row_108)
        obtain ⟨h978_, ⟨h979_, ⟨h980_, ⟨h981_, ⟨h982_, ⟨h983_, ⟨h984_, ⟨h985_, ⟨h986_, ⟨h987_, ⟨h988_, ⟨h989_, ⟨h990_, h991_⟩⟩⟩⟩⟩⟩⟩⟩⟩⟩⟩⟩⟩ := (h583_ h963_)
        have h992_ := (h977_ la_row_110)
        have h993_ := (h991_ la_row_92)
        have h994_ := (h993_ la_row_94)
        exact (la_row_135 e295_ h301_ (sm_ex_e h317_).2.2.2.1 h336_ h392_ e961_ h964_ h979_)
      · skip
        have e995_ : (if g48 1047 0 = 0 then S 1100002 (S 12 (5 * l3_24 + 0)) + (600 - g48 1046 0) + 8 else 4 : Int) = 4 := if_neg c960_
        have h996_ := (h610_ (la_row_117 h604_ (la_row_56 h603_ c960_)))
        exact (la_row_130 h239_ h245_ h290_ e295_ e995_)
  intro g58
  rintro ⟨h997_, ⟨h998_, ⟨h999_, ⟨h1000_, ⟨h1001_, ⟨h1002_, ⟨h1003_, ⟨h1004_, ⟨h1005_, ⟨h1006_, ⟨h1007_, ⟨h1008_, ⟨h1009_, ⟨h1010_, ⟨h1011_, ⟨h1012_, ⟨h1013_, ⟨h1014_, ⟨h1015_, ⟨h1016_, ⟨h1017_, ⟨h1018_, ⟨h1019_, ⟨h1020_, ⟨h1021_, ⟨h1022_, ⟨h1023_, h1024_⟩⟩⟩⟩⟩⟩⟩⟩⟩⟩⟩⟩⟩⟩⟩⟩⟩⟩⟩⟩⟩⟩⟩⟩⟩⟩⟩
  refine ⟨?_, ?_⟩
  · skip
    refine ⟨h997_, ?_⟩
    refine ⟨h998_, ?_⟩
    refine ⟨h999_, ?_⟩
    refine ⟨h1000_, ?_⟩
    intro h1025_
    have h1026_ : ¬ (g48 1047 0 = 1) := fun q_ => (la_row_15 h1025_) (h1004_ q_)
    obtain ⟨h1027_, ⟨h1028_, ⟨h1029_, ⟨h1030_, ⟨h1031_, ⟨h1032_, ⟨h1033_, ⟨h1034_, ⟨h1035_, ⟨h1036_, ⟨h1037_, ⟨h1038_, ⟨h1039_, ⟨h1040_, ⟨h1041_, ⟨h1042_, -⟩⟩⟩⟩⟩⟩⟩⟩⟩⟩⟩⟩⟩⟩⟩⟩ := (h1024_ h1025_)
    have h1043_ : ¬ (g41 1047 0 = 1) := fun q_ => h1026_ (h609_ q_)
    have h1044_ := (h1023_ h1027_)
    obtain ⟨h1045_, ⟨h1046_, ⟨h1047_, ⟨h1048_, ⟨h1049_, ⟨h1050_, ⟨h1051_, ⟨h1052_, ⟨h1053_, ⟨h1054_, ⟨h1055_, ⟨h1056_, ⟨h1057_, h1058_⟩⟩⟩⟩⟩⟩⟩⟩⟩⟩⟩⟩⟩ := (h619_ h1027_)
    have h1059_ := (h1058_ la_row_108)
    obtain ⟨h1060_, ⟨h1061_, ⟨h1062_, ⟨h1063_, ⟨h1064_, ⟨h1065_, ⟨h1066_, ⟨h1067_, ⟨h1068_, ⟨h1069_, ⟨h1070_, ⟨h1071_, ⟨h1072_, h1073_⟩⟩⟩⟩⟩⟩⟩⟩⟩⟩⟩⟩⟩ := (h583_ h1045_)
    have h1074_ := (h1059_ la_row_110)
    have h1075_ := (h1073_ la_row_92)
    have h1076_ := (h1075_ la_row_94)
    refine ⟨h1028_, ?_⟩
    refine ⟨la_row_136, ?_⟩
    refine ⟨la_row_137, ?_⟩
    refine ⟨(sm_ci_11 (la_row_138 (sm_KC_n h23_).2.1.1 h27_ h28_ h394_ h395_ h397_ h398_ h399_ h1034_ h1035_ h1037_ h1038_ h1039_ h1051_ (sm_dl_0 : sm_dl 0 5 = 1) h1052_ (sm_nt_0 : sm_nt 0 (g41 1046 0) (g41 1100023 (g41 1046 0)) (g41 1100023 (g41 1100023 (g41 1046 0))) = g41 1100023 (g41 1046 0)) h1054_ (sm_nl_0 : sm_nl 0 (g41 1046 0) (g41 1100007 (g41 1046 0)) (g41 1100025 (g41 1046 0)) (g41 1100007 (g41 1100025 (g41 1046 0))) (g41 1100025 (g41 1100025 (g41 1046 0))) = g41 1100025 (g41 1046 0)) h1055_ (sm_nt_0 : sm_nt 0 (g41 1100007 (g41 1046 0)) (g41 1100007 (g41 1100023 (g41 1046 0))) (g41 1100007 (g41 1100023 (g41 1100023 (g41 1046 0)))) = g41 1100007 (g41 1100023 (g41 1046 0))) h1066_ (sm_dl_18 : sm_dl 18 0 = 1) h1067_ (sm_nt_18 : sm_nt 18 (g22 1046 0) (g22 1100023 (g22 1046 0)) (g22 1100023 (g22 1100023 (g22 1046 0))) = g22 1100023 (g22 1046 0)) h1069_ (sm_nl_18 : sm_nl 18 (g22 1046 0) (g22 1100007 (g22 1046 0)) (g22 1100025 (g22 1046 0)) (g22 1100007 (g22 1100025 (g22 1046 0))) (g22 1100025 (g22 1100025 (g22 1046 0))) = g22 1100025 (g22 1046 0)) h1070_ (sm_nt_18 : sm_nt 18 (g22 1100007 (g22 1046 0)) (g22 1100007 (g22 1100023 (g22 1046 0))) (g22 1100007 (g22 1100023 (g22 1100023 (g22 1046 0)))) = g22 1100007 (g22 1100023 (g22 1046 0))) h1074_ h1076_ (sm_dl_11 : sm_dl 11 0 = (-2)) (sm_nt_11 : sm_nt 11 (g58 1046 0) (g58 1100023 (g58 1046 0)) (g58 1100023 (g58 1100023 (g58 1046 0))) = g58 1100023 (g58 1046 0)) (sm_nl_11 : sm_nl 11 (g58 1046 0) (g58 1100007 (g58 1046 0)) (g58 1100025 (g58 1046 0)) (g58 1100007 (g58 1100025 (g58 1046 0))) (g58 1100025 (g58 1100025 (g58 1046 0))) = g58 1100025 (g58 1046 0)))), ?_⟩
    refine ⟨la_row_139, ?_⟩
    intro h1077_
    have h1078_ := (h1077_.resolve_left la_row_140)
    have h1079_ := (h318_ (sm_nm_i (la_row_141 h1078_) (la_row_142 h1078_) (la_row_143 h1078_)))
    obtain ⟨h1080_, h1081_⟩ := (h1079_ h4_)
    have h1082_ := (h27_ (la_row_146 h1078_))
    have h1083_ := (h28_ (la_row_146 h1078_))
    have h1084_ := (h92_ (la_row_147 h1078_))
    obtain ⟨h1085_, ⟨h1086_, ⟨h1087_, ⟨h1088_, ⟨h1089_, ⟨h1090_, ⟨h1091_, ⟨h1092_, h1093_⟩⟩⟩⟩⟩⟩⟩⟩ := (h323_.resolve_left (la_row_148 h1078_))
    have h1094_ := (h332_ (la_row_149 h1078_))
    have h1095_ := (h333_ (la_row_150 h1078_))
    have h1096_ := (h1084_.resolve_left (la_row_151 h1078_))
    have h1097_ := (h1092_ (la_row_152 h1078_))
    have h1098_ := (h1093_ (la_row_153 h1078_))
    have h1099_ := (h1098_ (la_row_154 h1078_))
    have e1100_ : S 1100001 (S 13 l3_24) = S 1100001 (S 12 (5 * l3_24)) := congrArg ((S 1100001)) (la_row_155 h1078_)
    have e1101_ : S 1100001 l3_24 = S 1100001 (S 12 (5 * l3_24)) := congrArg ((S 1100001)) (la_row_155 h1078_)
    have e1102_ : S 1100001 l3_24 = S 1100001 (S 13 l3_24) := congrArg ((S 1100001)) (la_row_155 h1078_)
    have e1103_ : S 1100001 p1 = S 1100001 (S 12 (5 * l3_24)) := congrArg ((S 1100001)) (la_row_155 h1078_)
    have e1104_ : S 1100001 p1 = S 1100001 (S 13 l3_24) := congrArg ((S 1100001)) (la_row_155 h1078_)
    have e1105_ : S 1100001 p1 = S 1100001 l3_24 := congrArg ((S 1100001)) (la_row_155 h1078_)
    have e1106_ : S 1100002 (S 12 (5 * l3_24 + 0)) = S 1100002 (S 12 (5 * l3_24)) := congrArg ((S 1100002)) (la_row_155 h1078_)
    have e1107_ : S 1100002 (S 13 l3_24) = S 1100002 (S 12 (5 * l3_24)) := congrArg ((S 1100002)) (la_row_155 h1078_)
    have e1108_ : S 1100002 (S 13 l3_24) = S 1100002 (S 12 (5 * l3_24 + 0)) := congrArg ((S 1100002)) (la_row_155 h1078_)
    have e1109_ : S 1100002 l3_24 = S 1100002 (S 12 (5 * l3_24)) := congrArg ((S 1100002)) (la_row_155 h1078_)
    have e1110_ : S 1100002 l3_24 = S 1100002 (S 12 (5 * l3_24 + 0)) := congrArg ((S 1100002)) (la_row_155 h1078_)
    have e1111_ : S 1100002 l3_24 = S 1100002 (S 13 l3_24) := congrArg ((S 1100002)) (la_row_155 h1078_)
    have e1112_ : S 1100002 p1 = S 1100002 (S 12 (5 * l3_24)) := congrArg ((S 1100002)) (la_row_155 h1078_)
    have e1113_ : S 1100002 p1 = S 1100002 (S 12 (5 * l3_24 + 0)) := congrArg ((S 1100002)) (la_row_155 h1078_)
    have e1114_ : S 1100002 p1 = S 1100002 (S 13 l3_24) := congrArg ((S 1100002)) (la_row_155 h1078_)
    have e1115_ : S 1100002 p1 = S 1100002 l3_24 := congrArg ((S 1100002)) (la_row_155 h1078_)
    have e1116_ : S 1100003 l3_24 = S 1100003 (S 13 l3_24) := congrArg ((S 1100003)) (la_row_155 h1078_)
    have e1117_ : S 1100004 l3_24 = S 1100004 (S 13 l3_24) := congrArg ((S 1100004)) (la_row_155 h1078_)
    have e1118_ : S 1100005 (S 12 (5 * l3_24 + 0)) = S 1100005 (S 12 (5 * l3_24)) := congrArg ((S 1100005)) (la_row_155 h1078_)
    have e1119_ : S 1100005 (S 13 l3_24) = S 1100005 (S 12 (5 * l3_24)) := congrArg ((S 1100005)) (la_row_155 h1078_)
    have e1120_ : S 1100005 (S 13 l3_24) = S 1100005 (S 12 (5 * l3_24 + 0)) := congrArg ((S 1100005)) (la_row_155 h1078_)
    have e1121_ : S 1100005 l3_24 = S 1100005 (S 12 (5 * l3_24)) := congrArg ((S 1100005)) (la_row_155 h1078_)
    have e1122_ : S 1100005 l3_24 = S 1100005 (S 12 (5 * l3_24 + 0)) := congrArg ((S 1100005)) (la_row_155 h1078_)
    have e1123_ : S 1100005 l3_24 = S 1100005 (S 13 l3_24) := congrArg ((S 1100005)) (la_row_155 h1078_)
    have e1124_ : S 1100005 p1 = S 1100005 (S 12 (5 * l3_24)) := congrArg ((S 1100005)) (la_row_155 h1078_)
    have e1125_ : S 1100005 p1 = S 1100005 (S 12 (5 * l3_24 + 0)) := congrArg ((S 1100005)) (la_row_155 h1078_)
    have e1126_ : S 1100005 p1 = S 1100005 (S 13 l3_24) := congrArg ((S 1100005)) (la_row_155 h1078_)
    have e1127_ : S 1100005 p1 = S 1100005 l3_24 := congrArg ((S 1100005)) (la_row_155 h1078_)
    have e1128_ : S 1100007 (S 1100023 (S 1046 0)) = S 1100007 (S 1046 0) := congrArg ((S 1100007)) (la_row_155 h1078_)
    have e1129_ : S 1100007 (S 1100025 (S 1046 0)) = S 1100007 (S 1046 0) := congrArg ((S 1100007)) (la_row_155 h1078_)
    have e1130_ : S 1100007 (S 1100025 (S 1046 0)) = S 1100007 (S 1100023 (S 1046 0)) := congrArg ((S 1100007)) (la_row_155 h1078_)
    have e1131_ : S 1100007 (g22 1046 0) = S 1100007 (S 1046 0) := congrArg ((S 1100007)) (la_row_155 h1078_)
    have e1132_ : S 1100007 (g22 1046 0) = S 1100007 (S 1100023 (S 1046 0)) := congrArg ((S 1100007)) (la_row_155 h1078_)
    have e1133_ : S 1100007 (g22 1046 0) = S 1100007 (S 1100025 (S 1046 0)) := congrArg ((S 1100007)) (la_row_155 h1078_)
    have e1134_ : S 1100007 (g22 1100023 (g22 1046 0)) = S 1100007 (S 1046 0) := congrArg ((S 1100007)) (la_row_155 h1078_)
    have e1135_ : S 1100007 (g22 1100023 (g22 1046 0)) = S 1100007 (S 1100023 (S 1046 0)) := congrArg ((S 1100007)) h395_
    have e1136_ : S 1100007 (g22 1100023 (g22 1046 0)) = S 1100007 (S 1100025 (S 1046 0)) := congrArg ((S 1100007)) (la_row_155 h1078_)
    have e1137_ : S 1100007 (g22 1100023 (g22 1046 0)) = S 1100007 (g22 1046 0) := congrArg ((S 1100007)) (la_row_155 h1078_)
    have e1138_ : S 1100007 (g22 1100025 (g22 1046 0)) = S 1100007 (S 1046 0) := congrArg ((S 1100007)) (la_row_155 h1078_)
    have e1139_ : S 1100007 (g22 1100025 (g22 1046 0)) = S 1100007 (S 1100023 (S 1046 0)) := congrArg ((S 1100007)) (la_row_155 h1078_)
    have e1140_ : S 1100007 (g22 1100025 (g22 1046 0)) = S 1100007 (S 1100025 (S 1046 0)) := congrArg ((S 1100007)) h397_
    have e1141_ : S 1100007 (g22 1100025 (g22 1046 0)) = S 1100007 (g22 1046 0) := congrArg ((S 1100007)) (la_row_155 h1078_)
    have e1142_ : S 1100007 (g22 1100025 (g22 1046 0)) = S 1100007 (g22 1100023 (g22 1046 0)) := congrArg ((S 1100007)) (la_row_155 h1078_)
    have e1143_ : S 1100007 (g41 1046 0) = S 1100007 (S 1046 0) := congrArg ((S 1100007)) (la_row_155 h1078_)
    have e1144_ : S 1100007 (g41 1046 0) = S 1100007 (S 1100023 (S 1046 0)) := congrArg ((S 1100007)) (la_row_155 h1078_)
    have e1145_ : S 1100007 (g41 1046 0) = S 1100007 (S 1100025 (S 1046 0)) := congrArg ((S 1100007)) (la_row_155 h1078_)
    have e1146_ : S 1100007 (g41 1046 0) = S 1100007 (g22 1046 0) := congrArg ((S 1100007)) (la_row_155 h1078_)
    have e1147_ : S 1100007 (g41 1046 0) = S 1100007 (g22 1100023 (g22 1046 0)) := congrArg ((S 1100007)) (la_row_155 h1078_)
    have e1148_ : S 1100007 (g41 1046 0) = S 1100007 (g22 1100025 (g22 1046 0)) := congrArg ((S 1100007)) (la_row_155 h1078_)
    have e1149_ : S 1100007 (g41 1100023 (g41 1046 0)) = S 1100007 (S 1046 0) := congrArg ((S 1100007)) (la_row_155 h1078_)
    have e1150_ : S 1100007 (g41 1100023 (g41 1046 0)) = S 1100007 (S 1100023 (S 1046 0)) := congrArg ((S 1100007)) (la_row_155 h1078_)
    have e1151_ : S 1100007 (g41 1100023 (g41 1046 0)) = S 1100007 (S 1100025 (S 1046 0)) := congrArg ((S 1100007)) (la_row_155 h1078_)
    have e1152_ : S 1100007 (g41 1100023 (g41 1046 0)) = S 1100007 (g22 1046 0) := congrArg ((S 1100007)) (la_row_155 h1078_)
    have e1153_ : S 1100007 (g41 1100023 (g41 1046 0)) = S 1100007 (g22 1100023 (g22 1046 0)) := congrArg ((S 1100007)) (la_row_155 h1078_)
    have e1154_ : S 1100007 (g41 1100023 (g41 1046 0)) = S 1100007 (g22 1100025 (g22 1046 0)) := congrArg ((S 1100007)) (la_row_155 h1078_)
    have e1155_ : S 1100007 (g41 1100023 (g41 1046 0)) = S 1100007 (g41 1046 0) := congrArg ((S 1100007)) (la_row_155 h1078_)
    have e1156_ : S 1100007 (g41 1100025 (g41 1046 0)) = S 1100007 (S 1046 0) := congrArg ((S 1100007)) (la_row_155 h1078_)
    have e1157_ : S 1100007 (g41 1100025 (g41 1046 0)) = S 1100007 (S 1100023 (S 1046 0)) := congrArg ((S 1100007)) (la_row_155 h1078_)
    have e1158_ : S 1100007 (g41 1100025 (g41 1046 0)) = S 1100007 (S 1100025 (S 1046 0)) := congrArg ((S 1100007)) (la_row_155 h1078_)
    have e1159_ : S 1100007 (g41 1100025 (g41 1046 0)) = S 1100007 (g22 1046 0) := congrArg ((S 1100007)) (la_row_155 h1078_)
    have e1160_ : S 1100007 (g41 1100025 (g41 1046 0)) = S 1100007 (g22 1100023 (g22 1046 0)) := congrArg ((S 1100007)) (la_row_155 h1078_)
    have e1161_ : S 1100007 (g41 1100025 (g41 1046 0)) = S 1100007 (g22 1100025 (g22 1046 0)) := congrArg ((S 1100007)) (la_row_155 h1078_)
    have e1162_ : S 1100007 (g41 1100025 (g41 1046 0)) = S 1100007 (g41 1046 0) := congrArg ((S 1100007)) (la_row_155 h1078_)
    have e1163_ : S 1100007 (g41 1100025 (g41 1046 0)) = S 1100007 (g41 1100023 (g41 1046 0)) := congrArg ((S 1100007)) (la_row_155 h1078_)
    have e1164_ : S 1100007 (g48 1046 0) = S 1100007 (S 1046 0) := congrArg ((S 1100007)) (la_row_155 h1078_)
    have e1165_ : S 1100007 (g48 1046 0) = S 1100007 (S 1100023 (S 1046 0)) := congrArg ((S 1100007)) (la_row_155 h1078_)
    have e1166_ : S 1100007 (g48 1046 0) = S 1100007 (S 1100025 (S 1046 0)) := congrArg ((S 1100007)) (la_row_155 h1078_)
    have e1167_ : S 1100007 (g48 1046 0) = S 1100007 (g22 1046 0) := congrArg ((S 1100007)) (la_row_155 h1078_)
    have e1168_ : S 1100007 (g48 1046 0) = S 1100007 (g22 1100023 (g22 1046 0)) := congrArg ((S 1100007)) (la_row_155 h1078_)
    have e1169_ : S 1100007 (g48 1046 0) = S 1100007 (g22 1100025 (g22 1046 0)) := congrArg ((S 1100007)) (la_row_155 h1078_)
    have e1170_ : S 1100007 (g48 1046 0) = S 1100007 (g41 1046 0) := congrArg ((S 1100007)) (la_row_155 h1078_)
    have e1171_ : S 1100007 (g48 1046 0) = S 1100007 (g41 1100023 (g41 1046 0)) := congrArg ((S 1100007)) (la_row_155 h1078_)
    have e1172_ : S 1100007 (g48 1046 0) = S 1100007 (g41 1100025 (g41 1046 0)) := congrArg ((S 1100007)) (la_row_155 h1078_)
    have e1173_ : S 1100007 (g48 1100023 (g48 1046 0)) = S 1100007 (S 1046 0) := congrArg ((S 1100007)) (la_row_155 h1078_)
    have e1174_ : S 1100007 (g48 1100023 (g48 1046 0)) = S 1100007 (S 1100023 (S 1046 0)) := congrArg ((S 1100007)) (la_row_155 h1078_)
    have e1175_ : S 1100007 (g48 1100023 (g48 1046 0)) = S 1100007 (S 1100025 (S 1046 0)) := congrArg ((S 1100007)) (la_row_155 h1078_)
    have e1176_ : S 1100007 (g48 1100023 (g48 1046 0)) = S 1100007 (g22 1046 0) := congrArg ((S 1100007)) (la_row_155 h1078_)
    have e1177_ : S 1100007 (g48 1100023 (g48 1046 0)) = S 1100007 (g22 1100023 (g22 1046 0)) := congrArg ((S 1100007)) (la_row_155 h1078_)
    have e1178_ : S 1100007 (g48 1100023 (g48 1046 0)) = S 1100007 (g22 1100025 (g22 1046 0)) := congrArg ((S 1100007)) (la_row_155 h1078_)
    have e1179_ : S 1100007 (g48 1100023 (g48 1046 0)) = S 1100007 (g41 1046 0) := congrArg ((S 1100007)) (la_row_155 h1078_)
    have e1180_ : S 1100007 (g48 1100023 (g48 1046 0)) = S 1100007 (g41 1100023 (g41 1046 0)) := congrArg ((S 1100007)) (la_row_155 h1078_)
    have e1181_ : S 1100007 (g48 1100023 (g48 1046 0)) = S 1100007 (g41 1100025 (g41 1046 0)) := congrArg ((S 1100007)) (la_row_155 h1078_)
    have e1182_ : S 1100007 (g48 1100023 (g48 1046 0)) = S 1100007 (g48 1046 0) := congrArg ((S 1100007)) (la_row_155 h1078_)
    have e1183_ : S 1100007 (g48 1100025 (g48 1046 0)) = S 1100007 (S 1046 0) := congrArg ((S 1100007)) (la_row_155 h1078_)
    have e1184_ : S 1100007 (g48 1100025 (g48 1046 0)) = S 1100007 (S 1100023 (S 1046 0)) := congrArg ((S 1100007)) (la_row_155 h1078_)
    have e1185_ : S 1100007 (g48 1100025 (g48 1046 0)) = S 1100007 (S 1100025 (S 1046 0)) := congrArg ((S 1100007)) (la_row_155 h1078_)
    have e1186_ : S 1100007 (g48 1100025 (g48 1046 0)) = S 1100007 (g22 1046 0) := congrArg ((S 1100007)) (la_row_155 h1078_)
    have e1187_ : S 1100007 (g48 1100025 (g48 1046 0)) = S 1100007 (g22 1100023 (g22 1046 0)) := congrArg ((S 1100007)) (la_row_155 h1078_)
    have e1188_ : S 1100007 (g48 1100025 (g48 1046 0)) = S 1100007 (g22 1100025 (g22 1046 0)) := congrArg ((S 1100007)) (la_row_155 h1078_)
    have e1189_ : S 1100007 (g48 1100025 (g48 1046 0)) = S 1100007 (g41 1046 0) := congrArg ((S 1100007)) (la_row_155 h1078_)
    have e1190_ : S 1100007 (g48 1100025 (g48 1046 0)) = S 1100007 (g41 1100023 (g41 1046 0)) := congrArg ((S 1100007)) (la_row_155 h1078_)
    have e1191_ : S 1100007 (g48 1100025 (g48 1046 0)) = S 1100007 (g41 1100025 (g41 1046 0)) := congrArg ((S 1100007)) (la_row_155 h1078_)
    have e1192_ : S 1100007 (g48 1100025 (g48 1046 0)) = S 1100007 (g48 1046 0) := congrArg ((S 1100007)) (la_row_155 h1078_)
    have e1193_ : S 1100007 (g48 1100025 (g48 1046 0)) = S 1100007 (g48 1100023 (g48 1046 0)) := congrArg ((S 1100007)) (la_row_155 h1078_)
    have e1194_ : S 1100023 (g22 1046 0) = S 1100023 (S 1046 0) := congrArg ((S 1100023)) (la_row_155 h1078_)
    have e1195_ : S 1100023 (g41 1046 0) = S 1100023 (S 1046 0) := congrArg ((S 1100023)) (la_row_155 h1078_)
    have e1196_ : S 1100023 (g41 1046 0) = S 1100023 (g22 1046 0) := congrArg ((S 1100023)) (la_row_155 h1078_)
    have e1197_ : S 1100023 (g48 1046 0) = S 1100023 (S 1046 0) := congrArg ((S 1100023)) (la_row_155 h1078_)
    have e1198_ : S 1100023 (g48 1046 0) = S 1100023 (g22 1046 0) := congrArg ((S 1100023)) (la_row_155 h1078_)
    have e1199_ : S 1100023 (g48 1046 0) = S 1100023 (g41 1046 0) := congrArg ((S 1100023)) (la_row_155 h1078_)
    have e1200_ : S 1100024 (g22 1046 0) = S 1100024 (S 1046 0) := congrArg ((S 1100024)) (la_row_155 h1078_)
    have e1201_ : S 1100024 (g41 1046 0) = S 1100024 (S 1046 0) := congrArg ((S 1100024)) (la_row_155 h1078_)
    have e1202_ : S 1100024 (g41 1046 0) = S 1100024 (g22 1046 0) := congrArg ((S 1100024)) (la_row_155 h1078_)
    have e1203_ : S 1100024 (g48 1046 0) = S 1100024 (S 1046 0) := congrArg ((S 1100024)) (la_row_155 h1078_)
    have e1204_ : S 1100024 (g48 1046 0) = S 1100024 (g22 1046 0) := congrArg ((S 1100024)) (la_row_155 h1078_)
    have e1205_ : S 1100024 (g48 1046 0) = S 1100024 (g41 1046 0) := congrArg ((S 1100024)) (la_row_155 h1078_)
    have e1206_ : S 1100025 (g22 1046 0) = S 1100025 (S 1046 0) := congrArg ((S 1100025)) (la_row_155 h1078_)
    have e1207_ : S 1100025 (g41 1046 0) = S 1100025 (S 1046 0) := congrArg ((S 1100025)) (la_row_155 h1078_)
    have e1208_ : S 1100025 (g41 1046 0) = S 1100025 (g22 1046 0) := congrArg ((S 1100025)) (la_row_155 h1078_)
    have e1209_ : S 1100025 (g48 1046 0) = S 1100025 (S 1046 0) := congrArg ((S 1100025)) (la_row_155 h1078_)
    have e1210_ : S 1100025 (g48 1046 0) = S 1100025 (g22 1046 0) := congrArg ((S 1100025)) (la_row_155 h1078_)
    have e1211_ : S 1100025 (g48 1046 0) = S 1100025 (g41 1046 0) := congrArg ((S 1100025)) (la_row_155 h1078_)
    have e1212_ : S 12 (5 * S 12 (5 * l3_24) + 1) = S 12 (5 * l3_24) := congrArg ((S 12)) (la_row_156 h1078_)
    have e1213_ : S 12 (5 * l3_24 + 0) = S 12 (5 * l3_24) := congrArg ((S 12)) la_row_57
    have e1214_ : S 12 (5 * l3_24 + 0) = S 12 (5 * S 12 (5 * l3_24) + 1) := congrArg ((S 12)) (la_row_157 h1078_)
    have e1215_ : S 12 (5 * l3_24 + 1) = S 12 (5 * l3_24) := congrArg ((S 12)) (la_row_158 h1078_)
    have e1216_ : S 12 (5 * l3_24 + 1) = S 12 (5 * S 12 (5 * l3_24) + 1) := congrArg ((S 12)) (la_row_159 h1078_)
    have e1217_ : S 12 (5 * l3_24 + 1) = S 12 (5 * l3_24 + 0) := congrArg ((S 12)) (la_row_160 h1078_)
    have e1218_ : S 26 (g41 1046 0) = S 26 (g22 1046 0) := congrArg ((S 26)) (la_row_155 h1078_)
    have e1219_ : S 29 (g41 1046 0) = S 29 (g22 1046 0) := congrArg ((S 29)) (la_row_155 h1078_)
    have e1220_ : g22 1100007 (g22 1100023 (g22 1046 0)) = g22 1100007 (g22 1046 0) := congrArg ((g22 1100007)) (la_row_155 h1078_)
    have e1221_ : g22 1100007 (g22 1100023 (g22 1100023 (g22 1046 0))) = g22 1100007 (g22 1046 0) := congrArg ((g22 1100007)) (la_row_155 h1078_)
    have e1222_ : g22 1100007 (g22 1100023 (g22 1100023 (g22 1046 0))) = g22 1100007 (g22 1100023 (g22 1046 0)) := congrArg ((g22 1100007)) (la_row_155 h1078_)
    have e1223_ : g22 1100007 (g22 1100025 (g22 1046 0)) = g22 1100007 (g22 1046 0) := congrArg ((g22 1100007)) (la_row_155 h1078_)
    have e1224_ : g22 1100007 (g22 1100025 (g22 1046 0)) = g22 1100007 (g22 1100023 (g22 1046 0)) := congrArg ((g22 1100007)) (la_row_155 h1078_)
    have e1225_ : g22 1100007 (g22 1100025 (g22 1046 0)) = g22 1100007 (g22 1100023 (g22 1100023 (g22 1046 0))) := congrArg ((g22 1100007)) (la_row_155 h1078_)
    have e1226_ : g22 1100007 (g41 1046 0) = g22 1100007 (g22 1046 0) := congrArg ((g22 1100007)) (la_row_155 h1078_)
    have e1227_ : g22 1100007 (g41 1046 0) = g22 1100007 (g22 1100023 (g22 1046 0)) := congrArg ((g22 1100007)) (la_row_155 h1078_)
    have e1228_ : g22 1100007 (g41 1046 0) = g22 1100007 (g22 1100023 (g22 1100023 (g22 1046 0))) := congrArg ((g22 1100007)) (la_row_155 h1078_)
    have e1229_ : g22 1100007 (g41 1046 0) = g22 1100007 (g22 1100025 (g22 1046 0)) := congrArg ((g22 1100007)) (la_row_155 h1078_)
    have e1230_ : g22 1100007 (g41 1100023 (g41 1046 0)) = g22 1100007 (g22 1046 0) := congrArg ((g22 1100007)) (la_row_155 h1078_)
    have e1231_ : g22 1100007 (g41 1100023 (g41 1046 0)) = g22 1100007 (g22 1100023 (g22 1046 0)) := congrArg ((g22 1100007)) (la_row_155 h1078_)
    have e1232_ : g22 1100007 (g41 1100023 (g41 1046 0)) = g22 1100007 (g22 1100023 (g22 1100023 (g22 1046 0))) := congrArg ((g22 1100007)) (la_row_155 h1078_)
    have e1233_ : g22 1100007 (g41 1100023 (g41 1046 0)) = g22 1100007 (g22 1100025 (g22 1046 0)) := congrArg ((g22 1100007)) (la_row_155 h1078_)
    have e1234_ : g22 1100007 (g41 1100023 (g41 1046 0)) = g22 1100007 (g41 1046 0) := congrArg ((g22 1100007)) (la_row_155 h1078_)
    have e1235_ : g22 1100007 (g41 1100025 (g41 1046 0)) = g22 1100007 (g22 1046 0) := congrArg ((g22 1100007)) (la_row_155 h1078_)
    have e1236_ : g22 1100007 (g41 1100025 (g41 1046 0)) = g22 1100007 (g22 1100023 (g22 1046 0)) := congrArg ((g22 1100007)) (la_row_155 h1078_)
    have e1237_ : g22 1100007 (g41 1100025 (g41 1046 0)) = g22 1100007 (g22 1100023 (g22 1100023 (g22 1046 0))) := congrArg ((g22 1100007)) (la_row_155 h1078_)
    have e1238_ : g22 1100007 (g41 1100025 (g41 1046 0)) = g22 1100007 (g22 1100025 (g22 1046 0)) := congrArg ((g22 1100007)) (la_row_155 h1078_)
    have e1239_ : g22 1100007 (g41 1100025 (g41 1046 0)) = g22 1100007 (g41 1046 0) := congrArg ((g22 1100007)) (la_row_155 h1078_)
    have e1240_ : g22 1100007 (g41 1100025 (g41 1046 0)) = g22 1100007 (g41 1100023 (g41 1046 0)) := congrArg ((g22 1100007)) (la_row_155 h1078_)
    have e1241_ : g22 1100007 (g48 1046 0) = g22 1100007 (g22 1046 0) := congrArg ((g22 1100007)) (la_row_155 h1078_)
    have e1242_ : g22 1100007 (g48 1046 0) = g22 1100007 (g22 1100023 (g22 1046 0)) := congrArg ((g22 1100007)) (la_row_155 h1078_)
    have e1243_ : g22 1100007 (g48 1046 0) = g22 1100007 (g22 1100023 (g22 1100023 (g22 1046 0))) := congrArg ((g22 1100007)) (la_row_155 h1078_)
    have e1244_ : g22 1100007 (g48 1046 0) = g22 1100007 (g22 1100025 (g22 1046 0)) := congrArg ((g22 1100007)) (la_row_155 h1078_)
    have e1245_ : g22 1100007 (g48 1046 0) = g22 1100007 (g41 1046 0) := congrArg ((g22 1100007)) (la_row_155 h1078_)
    have e1246_ : g22 1100007 (g48 1046 0) = g22 1100007 (g41 1100023 (g41 1046 0)) := congrArg ((g22 1100007)) (la_row_155 h1078_)
    have e1247_ : g22 1100007 (g48 1046 0) = g22 1100007 (g41 1100025 (g41 1046 0)) := congrArg ((g22 1100007)) (la_row_155 h1078_)
    have e1248_ : g22 1100007 (g48 1100023 (g48 1046 0)) = g22 1100007 (g22 1046 0) := congrArg ((g22 1100007)) (la_row_155 h1078_)
    have e1249_ : g22 1100007 (g48 1100023 (g48 1046 0)) = g22 1100007 (g22 1100023 (g22 1046 0)) := congrArg ((g22 1100007)) (la_row_155 h1078_)
    have e1250_ : g22 1100007 (g48 1100023 (g48 1046 0)) = g22 1100007 (g22 1100023 (g22 1100023 (g22 1046 0))) := congrArg ((g22 1100007)) (la_row_155 h1078_)
    have e1251_ : g22 1100007 (g48 1100023 (g48 1046 0)) = g22 1100007 (g22 1100025 (g22 1046 0)) := congrArg ((g22 1100007)) (la_row_155 h1078_)
    have e1252_ : g22 1100007 (g48 1100023 (g48 1046 0)) = g22 1100007 (g41 1046 0) := congrArg ((g22 1100007)) (la_row_155 h1078_)
    have e1253_ : g22 1100007 (g48 1100023 (g48 1046 0)) = g22 1100007 (g41 1100023 (g41 1046 0)) := congrArg ((g22 1100007)) (la_row_155 h1078_)
    have e1254_ : g22 1100007 (g48 1100023 (g48 1046 0)) = g22 1100007 (g41 1100025 (g41 1046 0)) := congrArg ((g22 1100007)) (la_row_155 h1078_)
    have e1255_ : g22 1100007 (g48 1100023 (g48 1046 0)) = g22 1100007 (g48 1046 0) := congrArg ((g22 1100007)) (la_row_155 h1078_)
    have e1256_ : g22 1100007 (g48 1100025 (g48 1046 0)) = g22 1100007 (g22 1046 0) := congrArg ((g22 1100007)) (la_row_155 h1078_)
    have e1257_ : g22 1100007 (g48 1100025 (g48 1046 0)) = g22 1100007 (g22 1100023 (g22 1046 0)) := congrArg ((g22 1100007)) (la_row_155 h1078_)
    have e1258_ : g22 1100007 (g48 1100025 (g48 1046 0)) = g22 1100007 (g22 1100023 (g22 1100023 (g22 1046 0))) := congrArg ((g22 1100007)) (la_row_155 h1078_)
    have e1259_ : g22 1100007 (g48 1100025 (g48 1046 0)) = g22 1100007 (g22 1100025 (g22 1046 0)) := congrArg ((g22 1100007)) (la_row_155 h1078_)
    have e1260_ : g22 1100007 (g48 1100025 (g48 1046 0)) = g22 1100007 (g41 1046 0) := congrArg ((g22 1100007)) (la_row_155 h1078_)
    have e1261_ : g22 1100007 (g48 1100025 (g48 1046 0)) = g22 1100007 (g41 1100023 (g41 1046 0)) := congrArg ((g22 1100007)) (la_row_155 h1078_)
    have e1262_ : g22 1100007 (g48 1100025 (g48 1046 0)) = g22 1100007 (g41 1100025 (g41 1046 0)) := congrArg ((g22 1100007)) (la_row_155 h1078_)
    have e1263_ : g22 1100007 (g48 1100025 (g48 1046 0)) = g22 1100007 (g48 1046 0) := congrArg ((g22 1100007)) (la_row_155 h1078_)
    have e1264_ : g22 1100007 (g48 1100025 (g48 1046 0)) = g22 1100007 (g48 1100023 (g48 1046 0)) := congrArg ((g22 1100007)) (la_row_155 h1078_)
    have e1265_ : g22 1100007 (g58 1046 0) = g22 1100007 (g22 1046 0) := congrArg ((g22 1100007)) (la_row_155 h1078_)
    have e1266_ : g22 1100007 (g58 1046 0) = g22 1100007 (g22 1100023 (g22 1046 0)) := congrArg ((g22 1100007)) (la_row_155 h1078_)
    have e1267_ : g22 1100007 (g58 1046 0) = g22 1100007 (g22 1100023 (g22 1100023 (g22 1046 0))) := congrArg ((g22 1100007)) (la_row_155 h1078_)
    have e1268_ : g22 1100007 (g58 1046 0) = g22 1100007 (g22 1100025 (g22 1046 0)) := congrArg ((g22 1100007)) (la_row_155 h1078_)
    have e1269_ : g22 1100007 (g58 1046 0) = g22 1100007 (g41 1046 0) := congrArg ((g22 1100007)) (la_row_155 h1078_)
    have e1270_ : g22 1100007 (g58 1046 0) = g22 1100007 (g41 1100023 (g41 1046 0)) := congrArg ((g22 1100007)) (la_row_155 h1078_)
    have e1271_ : g22 1100007 (g58 1046 0) = g22 1100007 (g41 1100025 (g41 1046 0)) := congrArg ((g22 1100007)) (la_row_155 h1078_)
    have e1272_ : g22 1100007 (g58 1046 0) = g22 1100007 (g48 1046 0) := congrArg ((g22 1100007)) (la_row_155 h1078_)
    have e1273_ : g22 1100007 (g58 1046 0) = g22 1100007 (g48 1100023 (g48 1046 0)) := congrArg ((g22 1100007)) (la_row_155 h1078_)
    have e1274_ : g22 1100007 (g58 1046 0) = g22 1100007 (g48 1100025 (g48 1046 0)) := congrArg ((g22 1100007)) (la_row_155 h1078_)
    have e1275_ : g22 1100007 (g58 1100023 (g58 1046 0)) = g22 1100007 (g22 1046 0) := congrArg ((g22 1100007)) (la_row_155 h1078_)
    have e1276_ : g22 1100007 (g58 1100023 (g58 1046 0)) = g22 1100007 (g22 1100023 (g22 1046 0)) := congrArg ((g22 1100007)) (la_row_155 h1078_)
    have e1277_ : g22 1100007 (g58 1100023 (g58 1046 0)) = g22 1100007 (g22 1100023 (g22 1100023 (g22 1046 0))) := congrArg ((g22 1100007)) (la_row_155 h1078_)
    have e1278_ : g22 1100007 (g58 1100023 (g58 1046 0)) = g22 1100007 (g22 1100025 (g22 1046 0)) := congrArg ((g22 1100007)) (la_row_155 h1078_)
    have e1279_ : g22 1100007 (g58 1100023 (g58 1046 0)) = g22 1100007 (g41 1046 0) := congrArg ((g22 1100007)) (la_row_155 h1078_)
    have e1280_ : g22 1100007 (g58 1100023 (g58 1046 0)) = g22 1100007 (g41 1100023 (g41 1046 0)) := congrArg ((g22 1100007)) (la_row_155 h1078_)
    have e1281_ : g22 1100007 (g58 1100023 (g58 1046 0)) = g22 1100007 (g41 1100025 (g41 1046 0)) := congrArg ((g22 1100007)) (la_row_155 h1078_)
    have e1282_ : g22 1100007 (g58 1100023 (g58 1046 0)) = g22 1100007 (g48 1046 0) := congrArg ((g22 1100007)) (la_row_155 h1078_)
    have e1283_ : g22 1100007 (g58 1100023 (g58 1046 0)) = g22 1100007 (g48 1100023 (g48 1046 0)) := congrArg ((g22 1100007)) h1035_
    have e1284_ : g22 1100007 (g58 1100023 (g58 1046 0)) = g22 1100007 (g48 1100025 (g48 1046 0)) := congrArg ((g22 1100007)) (la_row_155 h1078_)
    have e1285_ : g22 1100007 (g58 1100023 (g58 1046 0)) = g22 1100007 (g58 1046 0) := congrArg ((g22 1100007)) (la_row_155 h1078_)
    have e1286_ : g22 1100007 (g58 1100025 (g58 1046 0)) = g22 1100007 (g22 1046 0) := congrArg ((g22 1100007)) (la_row_155 h1078_)
    have e1287_ : g22 1100007 (g58 1100025 (g58 1046 0)) = g22 1100007 (g22 1100023 (g22 1046 0)) := congrArg ((g22 1100007)) (la_row_155 h1078_)
    have e1288_ : g22 1100007 (g58 1100025 (g58 1046 0)) = g22 1100007 (g22 1100023 (g22 1100023 (g22 1046 0))) := congrArg ((g22 1100007)) (la_row_155 h1078_)
    have e1289_ : g22 1100007 (g58 1100025 (g58 1046 0)) = g22 1100007 (g22 1100025 (g22 1046 0)) := congrArg ((g22 1100007)) (la_row_155 h1078_)
    have e1290_ : g22 1100007 (g58 1100025 (g58 1046 0)) = g22 1100007 (g41 1046 0) := congrArg ((g22 1100007)) (la_row_155 h1078_)
    have e1291_ : g22 1100007 (g58 1100025 (g58 1046 0)) = g22 1100007 (g41 1100023 (g41 1046 0)) := congrArg ((g22 1100007)) (la_row_155 h1078_)
    have e1292_ : g22 1100007 (g58 1100025 (g58 1046 0)) = g22 1100007 (g41 1100025 (g41 1046 0)) := congrArg ((g22 1100007)) (la_row_155 h1078_)
    have e1293_ : g22 1100007 (g58 1100025 (g58 1046 0)) = g22 1100007 (g48 1046 0) := congrArg ((g22 1100007)) (la_row_155 h1078_)
    have e1294_ : g22 1100007 (g58 1100025 (g58 1046 0)) = g22 1100007 (g48 1100023 (g48 1046 0)) := congrArg ((g22 1100007)) (la_row_155 h1078_)
    have e1295_ : g22 1100007 (g58 1100025 (g58 1046 0)) = g22 1100007 (g48 1100025 (g48 1046 0)) := congrArg ((g22 1100007)) h1037_
    have e1296_ : g22 1100007 (g58 1100025 (g58 1046 0)) = g22 1100007 (g58 1046 0) := congrArg ((g22 1100007)) (la_row_155 h1078_)
    have e1297_ : g22 1100007 (g58 1100025 (g58 1046 0)) = g22 1100007 (g58 1100023 (g58 1046 0)) := congrArg ((g22 1100007)) (la_row_155 h1078_)
    have e1298_ : g22 1100023 (g22 1100023 (g22 1046 0)) = g22 1100023 (g22 1046 0) := congrArg ((g22 1100023)) (la_row_155 h1078_)
    have e1299_ : g22 1100023 (g41 1046 0) = g22 1100023 (g22 1046 0) := congrArg ((g22 1100023)) (la_row_155 h1078_)
    have e1300_ : g22 1100023 (g41 1046 0) = g22 1100023 (g22 1100023 (g22 1046 0)) := congrArg ((g22 1100023)) (la_row_155 h1078_)
    have e1301_ : g22 1100023 (g48 1046 0) = g22 1100023 (g22 1046 0) := congrArg ((g22 1100023)) (la_row_155 h1078_)
    have e1302_ : g22 1100023 (g48 1046 0) = g22 1100023 (g22 1100023 (g22 1046 0)) := congrArg ((g22 1100023)) (la_row_155 h1078_)
    have e1303_ : g22 1100023 (g48 1046 0) = g22 1100023 (g41 1046 0) := congrArg ((g22 1100023)) (la_row_155 h1078_)
    have e1304_ : g22 1100023 (g58 1046 0) = g22 1100023 (g22 1046 0) := congrArg ((g22 1100023)) (la_row_155 h1078_)
    have e1305_ : g22 1100023 (g58 1046 0) = g22 1100023 (g22 1100023 (g22 1046 0)) := congrArg ((g22 1100023)) (la_row_155 h1078_)
    have e1306_ : g22 1100023 (g58 1046 0) = g22 1100023 (g41 1046 0) := congrArg ((g22 1100023)) (la_row_155 h1078_)
    have e1307_ : g22 1100023 (g58 1046 0) = g22 1100023 (g48 1046 0) := congrArg ((g22 1100023)) (la_row_155 h1078_)
    have e1308_ : g22 1100024 (g41 1046 0) = g22 1100024 (g22 1046 0) := congrArg ((g22 1100024)) (la_row_155 h1078_)
    have e1309_ : g22 1100024 (g48 1046 0) = g22 1100024 (g22 1046 0) := congrArg ((g22 1100024)) (la_row_155 h1078_)
    have e1310_ : g22 1100024 (g48 1046 0) = g22 1100024 (g41 1046 0) := congrArg ((g22 1100024)) (la_row_155 h1078_)
    have e1311_ : g22 1100024 (g58 1046 0) = g22 1100024 (g22 1046 0) := congrArg ((g22 1100024)) (la_row_155 h1078_)
    have e1312_ : g22 1100024 (g58 1046 0) = g22 1100024 (g41 1046 0) := congrArg ((g22 1100024)) (la_row_155 h1078_)
    have e1313_ : g22 1100024 (g58 1046 0) = g22 1100024 (g48 1046 0) := congrArg ((g22 1100024)) (la_row_155 h1078_)
    have e1314_ : g22 1100025 (g22 1100025 (g22 1046 0)) = g22 1100025 (g22 1046 0) := congrArg ((g22 1100025)) (la_row_155 h1078_)
    have e1315_ : g22 1100025 (g41 1046 0) = g22 1100025 (g22 1046 0) := congrArg ((g22 1100025)) (la_row_155 h1078_)
    have e1316_ : g22 1100025 (g41 1046 0) = g22 1100025 (g22 1100025 (g22 1046 0)) := congrArg ((g22 1100025)) (la_row_155 h1078_)
    have e1317_ : g22 1100025 (g48 1046 0) = g22 1100025 (g22 1046 0) := congrArg ((g22 1100025)) (la_row_155 h1078_)
    have e1318_ : g22 1100025 (g48 1046 0) = g22 1100025 (g22 1100025 (g22 1046 0)) := congrArg ((g22 1100025)) (la_row_155 h1078_)
    have e1319_ : g22 1100025 (g48 1046 0) = g22 1100025 (g41 1046 0) := congrArg ((g22 1100025)) (la_row_155 h1078_)
    have e1320_ : g22 1100025 (g58 1046 0) = g22 1100025 (g22 1046 0) := congrArg ((g22 1100025)) (la_row_155 h1078_)
    have e1321_ : g22 1100025 (g58 1046 0) = g22 1100025 (g22 1100025 (g22 1046 0)) := congrArg ((g22 1100025)) (la_row_155 h1078_)
    have e1322_ : g22 1100025 (g58 1046 0) = g22 1100025 (g41 1046 0) := congrArg ((g22 1100025)) (la_row_155 h1078_)
    have e1323_ : g22 1100025 (g58 1046 0) = g22 1100025 (g48 1046 0) := congrArg ((g22 1100025)) (la_row_155 h1078_)
    have e1324_ : g22 26 (g41 1046 0) = g22 26 (g22 1046 0) := congrArg ((g22 26)) (la_row_155 h1078_)
    have e1325_ : g22 29 (g41 1046 0) = g22 29 (g22 1046 0) := congrArg ((g22 29)) (la_row_155 h1078_)
    have e1326_ : g41 1100007 (g41 1100023 (g41 1046 0)) = g41 1100007 (g41 1046 0) := congrArg ((g41 1100007)) (la_row_155 h1078_)
    have e1327_ : g41 1100007 (g41 1100023 (g41 1100023 (g41 1046 0))) = g41 1100007 (g41 1046 0) := congrArg ((g41 1100007)) (la_row_155 h1078_)
    have e1328_ : g41 1100007 (g41 1100023 (g41 1100023 (g41 1046 0))) = g41 1100007 (g41 1100023 (g41 1046 0)) := congrArg ((g41 1100007)) (la_row_155 h1078_)
    have e1329_ : g41 1100007 (g41 1100025 (g41 1046 0)) = g41 1100007 (g41 1046 0) := congrArg ((g41 1100007)) (la_row_155 h1078_)
    have e1330_ : g41 1100007 (g41 1100025 (g41 1046 0)) = g41 1100007 (g41 1100023 (g41 1046 0)) := congrArg ((g41 1100007)) (la_row_155 h1078_)
    have e1331_ : g41 1100007 (g41 1100025 (g41 1046 0)) = g41 1100007 (g41 1100023 (g41 1100023 (g41 1046 0))) := congrArg ((g41 1100007)) (la_row_155 h1078_)
    have e1332_ : g41 1100007 (g48 1046 0) = g41 1100007 (g41 1046 0) := congrArg ((g41 1100007)) (la_row_155 h1078_)
    have e1333_ : g41 1100007 (g48 1046 0) = g41 1100007 (g41 1100023 (g41 1046 0)) := congrArg ((g41 1100007)) (la_row_155 h1078_)
    have e1334_ : g41 1100007 (g48 1046 0) = g41 1100007 (g41 1100023 (g41 1100023 (g41 1046 0))) := congrArg ((g41 1100007)) (la_row_155 h1078_)
    have e1335_ : g41 1100007 (g48 1046 0) = g41 1100007 (g41 1100025 (g41 1046 0)) := congrArg ((g41 1100007)) (la_row_155 h1078_)
    have e1336_ : g41 1100007 (g48 1100023 (g48 1046 0)) = g41 1100007 (g41 1046 0) := congrArg ((g41 1100007)) (la_row_155 h1078_)
    have e1337_ : g41 1100007 (g48 1100023 (g48 1046 0)) = g41 1100007 (g41 1100023 (g41 1046 0)) := congrArg ((g41 1100007)) (la_row_155 h1078_)
    have e1338_ : g41 1100007 (g48 1100023 (g48 1046 0)) = g41 1100007 (g41 1100023 (g41 1100023 (g41 1046 0))) := congrArg ((g41 1100007)) (la_row_155 h1078_)
    have e1339_ : g41 1100007 (g48 1100023 (g48 1046 0)) = g41 1100007 (g41 1100025 (g41 1046 0)) := congrArg ((g41 1100007)) (la_row_155 h1078_)
    have e1340_ : g41 1100007 (g48 1100023 (g48 1046 0)) = g41 1100007 (g48 1046 0) := congrArg ((g41 1100007)) (la_row_155 h1078_)
    have e1341_ : g41 1100007 (g48 1100025 (g48 1046 0)) = g41 1100007 (g41 1046 0) := congrArg ((g41 1100007)) (la_row_155 h1078_)
    have e1342_ : g41 1100007 (g48 1100025 (g48 1046 0)) = g41 1100007 (g41 1100023 (g41 1046 0)) := congrArg ((g41 1100007)) (la_row_155 h1078_)
    have e1343_ : g41 1100007 (g48 1100025 (g48 1046 0)) = g41 1100007 (g41 1100023 (g41 1100023 (g41 1046 0))) := congrArg ((g41 1100007)) (la_row_155 h1078_)
    have e1344_ : g41 1100007 (g48 1100025 (g48 1046 0)) = g41 1100007 (g41 1100025 (g41 1046 0)) := congrArg ((g41 1100007)) (la_row_155 h1078_)
    have e1345_ : g41 1100007 (g48 1100025 (g48 1046 0)) = g41 1100007 (g48 1046 0) := congrArg ((g41 1100007)) (la_row_155 h1078_)
    have e1346_ : g41 1100007 (g48 1100025 (g48 1046 0)) = g41 1100007 (g48 1100023 (g48 1046 0)) := congrArg ((g41 1100007)) (la_row_155 h1078_)
    have e1347_ : g41 1100007 (g58 1046 0) = g41 1100007 (g41 1046 0) := congrArg ((g41 1100007)) (la_row_155 h1078_)
    have e1348_ : g41 1100007 (g58 1046 0) = g41 1100007 (g41 1100023 (g41 1046 0)) := congrArg ((g41 1100007)) (la_row_155 h1078_)
    have e1349_ : g41 1100007 (g58 1046 0) = g41 1100007 (g41 1100023 (g41 1100023 (g41 1046 0))) := congrArg ((g41 1100007)) (la_row_155 h1078_)
    have e1350_ : g41 1100007 (g58 1046 0) = g41 1100007 (g41 1100025 (g41 1046 0)) := congrArg ((g41 1100007)) (la_row_155 h1078_)
    have e1351_ : g41 1100007 (g58 1046 0) = g41 1100007 (g48 1046 0) := congrArg ((g41 1100007)) (la_row_155 h1078_)
    have e1352_ : g41 1100007 (g58 1046 0) = g41 1100007 (g48 1100023 (g48 1046 0)) := congrArg ((g41 1100007)) (la_row_155 h1078_)
    have e1353_ : g41 1100007 (g58 1046 0) = g41 1100007 (g48 1100025 (g48 1046 0)) := congrArg ((g41 1100007)) (la_row_155 h1078_)
    have e1354_ : g41 1100007 (g58 1100023 (g58 1046 0)) = g41 1100007 (g41 1046 0) := congrArg ((g41 1100007)) (la_row_155 h1078_)
    have e1355_ : g41 1100007 (g58 1100023 (g58 1046 0)) = g41 1100007 (g41 1100023 (g41 1046 0)) := congrArg ((g41 1100007)) (la_row_155 h1078_)
    have e1356_ : g41 1100007 (g58 1100023 (g58 1046 0)) = g41 1100007 (g41 1100023 (g41 1100023 (g41 1046 0))) := congrArg ((g41 1100007)) (la_row_155 h1078_)
    have e1357_ : g41 1100007 (g58 1100023 (g58 1046 0)) = g41 1100007 (g41 1100025 (g41 1046 0)) := congrArg ((g41 1100007)) (la_row_155 h1078_)
    have e1358_ : g41 1100007 (g58 1100023 (g58 1046 0)) = g41 1100007 (g48 1046 0) := congrArg ((g41 1100007)) (la_row_155 h1078_)
    have e1359_ : g41 1100007 (g58 1100023 (g58 1046 0)) = g41 1100007 (g48 1100023 (g48 1046 0)) := congrArg ((g41 1100007)) h1035_
    have e1360_ : g41 1100007 (g58 1100023 (g58 1046 0)) = g41 1100007 (g48 1100025 (g48 1046 0)) := congrArg ((g41 1100007)) (la_row_155 h1078_)
    have e1361_ : g41 1100007 (g58 1100023 (g58 1046 0)) = g41 1100007 (g58 1046 0) := congrArg ((g41 1100007)) (la_row_155 h1078_)
    have e1362_ : g41 1100007 (g58 1100025 (g58 1046 0)) = g41 1100007 (g41 1046 0) := congrArg ((g41 1100007)) (la_row_155 h1078_)
    have e1363_ : g41 1100007 (g58 1100025 (g58 1046 0)) = g41 1100007 (g41 1100023 (g41 1046 0)) := congrArg ((g41 1100007)) (la_row_155 h1078_)
    have e1364_ : g41 1100007 (g58 1100025 (g58 1046 0)) = g41 1100007 (g41 1100023 (g41 1100023 (g41 1046 0))) := congrArg ((g41 1100007)) (la_row_155 h1078_)
    have e1365_ : g41 1100007 (g58 1100025 (g58 1046 0)) = g41 1100007 (g41 1100025 (g41 1046 0)) := congrArg ((g41 1100007)) (la_row_155 h1078_)
    have e1366_ : g41 1100007 (g58 1100025 (g58 1046 0)) = g41 1100007 (g48 1046 0) := congrArg ((g41 1100007)) (la_row_155 h1078_)
    have e1367_ : g41 1100007 (g58 1100025 (g58 1046 0)) = g41 1100007 (g48 1100023 (g48 1046 0)) := congrArg ((g41 1100007)) (la_row_155 h1078_)
    have e1368_ : g41 1100007 (g58 1100025 (g58 1046 0)) = g41 1100007 (g48 1100025 (g48 1046 0)) := congrArg ((g41 1100007)) h1037_
    have e1369_ : g41 1100007 (g58 1100025 (g58 1046 0)) = g41 1100007 (g58 1046 0) := congrArg ((g41 1100007)) (la_row_155 h1078_)
    have e1370_ : g41 1100007 (g58 1100025 (g58 1046 0)) = g41 1100007 (g58 1100023 (g58 1046 0)) := congrArg ((g41 1100007)) (la_row_155 h1078_)
    have e1371_ : g41 1100023 (g41 1100023 (g41 1046 0)) = g41 1100023 (g41 1046 0) := congrArg ((g41 1100023)) (la_row_155 h1078_)
    have e1372_ : g41 1100023 (g48 1046 0) = g41 1100023 (g41 1046 0) := congrArg ((g41 1100023)) (la_row_155 h1078_)
    have e1373_ : g41 1100023 (g48 1046 0) = g41 1100023 (g41 1100023 (g41 1046 0)) := congrArg ((g41 1100023)) (la_row_155 h1078_)
    have e1374_ : g41 1100023 (g58 1046 0) = g41 1100023 (g41 1046 0) := congrArg ((g41 1100023)) (la_row_155 h1078_)
    have e1375_ : g41 1100023 (g58 1046 0) = g41 1100023 (g41 1100023 (g41 1046 0)) := congrArg ((g41 1100023)) (la_row_155 h1078_)
    have e1376_ : g41 1100023 (g58 1046 0) = g41 1100023 (g48 1046 0) := congrArg ((g41 1100023)) (la_row_155 h1078_)
    have e1377_ : g41 1100024 (g48 1046 0) = g41 1100024 (g41 1046 0) := congrArg ((g41 1100024)) (la_row_155 h1078_)
    have e1378_ : g41 1100024 (g58 1046 0) = g41 1100024 (g41 1046 0) := congrArg ((g41 1100024)) (la_row_155 h1078_)
    have e1379_ : g41 1100024 (g58 1046 0) = g41 1100024 (g48 1046 0) := congrArg ((g41 1100024)) (la_row_155 h1078_)
    have e1380_ : g41 1100025 (g41 1100025 (g41 1046 0)) = g41 1100025 (g41 1046 0) := congrArg ((g41 1100025)) (la_row_155 h1078_)
    have e1381_ : g41 1100025 (g48 1046 0) = g41 1100025 (g41 1046 0) := congrArg ((g41 1100025)) (la_row_155 h1078_)
    have e1382_ : g41 1100025 (g48 1046 0) = g41 1100025 (g41 1100025 (g41 1046 0)) := congrArg ((g41 1100025)) (la_row_155 h1078_)
    have e1383_ : g41 1100025 (g58 1046 0) = g41 1100025 (g41 1046 0) := congrArg ((g41 1100025)) (la_row_155 h1078_)
    have e1384_ : g41 1100025 (g58 1046 0) = g41 1100025 (g41 1100025 (g41 1046 0)) := congrArg ((g41 1100025)) (la_row_155 h1078_)
    have e1385_ : g41 1100025 (g58 1046 0) = g41 1100025 (g48 1046 0) := congrArg ((g41 1100025)) (la_row_155 h1078_)
    have e1386_ : g41 26 (g41 1046 0) = g41 26 (g22 1046 0) := congrArg ((g41 26)) (la_row_155 h1078_)
    have e1387_ : g41 29 (g41 1046 0) = g41 29 (g22 1046 0) := congrArg ((g41 29)) (la_row_155 h1078_)
    have e1388_ : g48 1100007 (g48 1100023 (g48 1046 0)) = g48 1100007 (g48 1046 0) := congrArg ((g48 1100007)) (la_row_155 h1078_)
    have e1389_ : g48 1100007 (g48 1100025 (g48 1046 0)) = g48 1100007 (g48 1046 0) := congrArg ((g48 1100007)) (la_row_155 h1078_)
    have e1390_ : g48 1100007 (g48 1100025 (g48 1046 0)) = g48 1100007 (g48 1100023 (g48 1046 0)) := congrArg ((g48 1100007)) (la_row_155 h1078_)
    have e1391_ : g48 1100007 (g58 1046 0) = g48 1100007 (g48 1046 0) := congrArg ((g48 1100007)) (la_row_155 h1078_)
    have e1392_ : g48 1100007 (g58 1046 0) = g48 1100007 (g48 1100023 (g48 1046 0)) := congrArg ((g48 1100007)) (la_row_155 h1078_)
    have e1393_ : g48 1100007 (g58 1046 0) = g48 1100007 (g48 1100025 (g48 1046 0)) := congrArg ((g48 1100007)) (la_row_155 h1078_)
    have e1394_ : g48 1100007 (g58 1100023 (g58 1046 0)) = g48 1100007 (g48 1046 0) := congrArg ((g48 1100007)) (la_row_155 h1078_)
    have e1395_ : g48 1100007 (g58 1100023 (g58 1046 0)) = g48 1100007 (g48 1100023 (g48 1046 0)) := congrArg ((g48 1100007)) h1035_
    have e1396_ : g48 1100007 (g58 1100023 (g58 1046 0)) = g48 1100007 (g48 1100025 (g48 1046 0)) := congrArg ((g48 1100007)) (la_row_155 h1078_)
    have e1397_ : g48 1100007 (g58 1100023 (g58 1046 0)) = g48 1100007 (g58 1046 0) := congrArg ((g48 1100007)) (la_row_155 h1078_)
    have e1398_ : g48 1100007 (g58 1100025 (g58 1046 0)) = g48 1100007 (g48 1046 0) := congrArg ((g48 1100007)) (la_row_155 h1078_)
    have e1399_ : g48 1100007 (g58 1100025 (g58 1046 0)) = g48 1100007 (g48 1100023 (g48 1046 0)) := congrArg ((g48 1100007)) (la_row_155 h1078_)
    have e1400_ : g48 1100007 (g58 1100025 (g58 1046 0)) = g48 1100007 (g48 1100025 (g48 1046 0)) := congrArg ((g48 1100007)) h1037_
    have e1401_ : g48 1100007 (g58 1100025 (g58 1046 0)) = g48 1100007 (g58 1046 0) := congrArg ((g48 1100007)) (la_row_155 h1078_)
    have e1402_ : g48 1100007 (g58 1100025 (g58 1046 0)) = g48 1100007 (g58 1100023 (g58 1046 0)) := congrArg ((g48 1100007)) (la_row_155 h1078_)
    have e1403_ : g48 1100023 (g58 1046 0) = g48 1100023 (g48 1046 0) := congrArg ((g48 1100023)) (la_row_155 h1078_)
    have e1404_ : g48 1100024 (g58 1046 0) = g48 1100024 (g48 1046 0) := congrArg ((g48 1100024)) (la_row_155 h1078_)
    have e1405_ : g48 1100025 (g58 1046 0) = g48 1100025 (g48 1046 0) := congrArg ((g48 1100025)) (la_row_155 h1078_)
    have e1406_ : g58 1100007 (g58 1100023 (g58 1046 0)) = g58 1100007 (g58 1046 0) := congrArg ((g58 1100007)) (la_row_155 h1078_)
    have e1407_ : g58 1100007 (g58 1100025 (g58 1046 0)) = g58 1100007 (g58 1046 0) := congrArg ((g58 1100007)) (la_row_155 h1078_)
    have e1408_ : g58 1100007 (g58 1100025 (g58 1046 0)) = g58 1100007 (g58 1100023 (g58 1046 0)) := congrArg ((g58 1100007)) (la_row_155 h1078_)
    have e1409_ : g58 1100023 (g58 1100023 (g58 1046 0)) = g58 1100023 (g58 1046 0) := congrArg ((g58 1100023)) (la_row_155 h1078_)
    have e1410_ : g58 1100025 (g58 1100025 (g58 1046 0)) = g58 1100025 (g58 1046 0) := congrArg ((g58 1100025)) (la_row_155 h1078_)
    have e1411_ : S 1100023 (g22 1100023 (g22 1046 0)) = S 1100023 (S 1046 0) := congrArg ((S 1100023)) (la_row_155 h1078_)
    have e1412_ : S 1100023 (g22 1100023 (g22 1046 0)) = S 1100023 (g22 1046 0) := congrArg ((S 1100023)) (la_row_155 h1078_)
    have e1413_ : S 1100023 (g41 1046 0) = S 1100023 (g22 1100023 (g22 1046 0)) := congrArg ((S 1100023)) (la_row_155 h1078_)
    have e1414_ : S 1100023 (g41 1100023 (g41 1046 0)) = S 1100023 (S 1046 0) := congrArg ((S 1100023)) (la_row_155 h1078_)
    have e1415_ : S 1100023 (g41 1100023 (g41 1046 0)) = S 1100023 (g22 1046 0) := congrArg ((S 1100023)) (la_row_155 h1078_)
    have e1416_ : S 1100023 (g41 1100023 (g41 1046 0)) = S 1100023 (g22 1100023 (g22 1046 0)) := congrArg ((S 1100023)) (la_row_155 h1078_)
    have e1417_ : S 1100023 (g41 1100023 (g41 1046 0)) = S 1100023 (g41 1046 0) := congrArg ((S 1100023)) (la_row_155 h1078_)
    have e1418_ : S 1100023 (g48 1046 0) = S 1100023 (g22 1100023 (g22 1046 0)) := congrArg ((S 1100023)) (la_row_155 h1078_)
    have e1419_ : S 1100023 (g48 1046 0) = S 1100023 (g41 1100023 (g41 1046 0)) := congrArg ((S 1100023)) (la_row_155 h1078_)
    have e1420_ : S 1100023 (g58 1046 0) = S 1100023 (S 1046 0) := congrArg ((S 1100023)) (la_row_155 h1078_)
    have e1421_ : S 1100023 (g58 1046 0) = S 1100023 (g22 1046 0) := congrArg ((S 1100023)) (la_row_155 h1078_)
    have e1422_ : S 1100023 (g58 1046 0) = S 1100023 (g22 1100023 (g22 1046 0)) := congrArg ((S 1100023)) (la_row_155 h1078_)
    have e1423_ : S 1100023 (g58 1046 0) = S 1100023 (g41 1046 0) := congrArg ((S 1100023)) (la_row_155 h1078_)
    have e1424_ : S 1100023 (g58 1046 0) = S 1100023 (g41 1100023 (g41 1046 0)) := congrArg ((S 1100023)) (la_row_155 h1078_)
    have e1425_ : S 1100023 (g58 1046 0) = S 1100023 (g48 1046 0) := congrArg ((S 1100023)) (la_row_155 h1078_)
    have e1426_ : S 1100024 (g58 1046 0) = S 1100024 (S 1046 0) := congrArg ((S 1100024)) (la_row_155 h1078_)
    have e1427_ : S 1100024 (g58 1046 0) = S 1100024 (g22 1046 0) := congrArg ((S 1100024)) (la_row_155 h1078_)
    have e1428_ : S 1100024 (g58 1046 0) = S 1100024 (g41 1046 0) := congrArg ((S 1100024)) (la_row_155 h1078_)
    have e1429_ : S 1100024 (g58 1046 0) = S 1100024 (g48 1046 0) := congrArg ((S 1100024)) (la_row_155 h1078_)
    have e1430_ : S 1100025 (g22 1100025 (g22 1046 0)) = S 1100025 (S 1046 0) := congrArg ((S 1100025)) (la_row_155 h1078_)
    have e1431_ : S 1100025 (g22 1100025 (g22 1046 0)) = S 1100025 (g22 1046 0) := congrArg ((S 1100025)) (la_row_155 h1078_)
    have e1432_ : S 1100025 (g41 1046 0) = S 1100025 (g22 1100025 (g22 1046 0)) := congrArg ((S 1100025)) (la_row_155 h1078_)
    have e1433_ : S 1100025 (g41 1100025 (g41 1046 0)) = S 1100025 (S 1046 0) := congrArg ((S 1100025)) (la_row_155 h1078_)
    have e1434_ : S 1100025 (g41 1100025 (g41 1046 0)) = S 1100025 (g22 1046 0) := congrArg ((S 1100025)) (la_row_155 h1078_)
    have e1435_ : S 1100025 (g41 1100025 (g41 1046 0)) = S 1100025 (g22 1100025 (g22 1046 0)) := congrArg ((S 1100025)) (la_row_155 h1078_)
    have e1436_ : S 1100025 (g41 1100025 (g41 1046 0)) = S 1100025 (g41 1046 0) := congrArg ((S 1100025)) (la_row_155 h1078_)
    have e1437_ : S 1100025 (g48 1046 0) = S 1100025 (g22 1100025 (g22 1046 0)) := congrArg ((S 1100025)) (la_row_155 h1078_)
    have e1438_ : S 1100025 (g48 1046 0) = S 1100025 (g41 1100025 (g41 1046 0)) := congrArg ((S 1100025)) (la_row_155 h1078_)
    have e1439_ : S 1100025 (g58 1046 0) = S 1100025 (S 1046 0) := congrArg ((S 1100025)) (la_row_155 h1078_)
    have e1440_ : S 1100025 (g58 1046 0) = S 1100025 (g22 1046 0) := congrArg ((S 1100025)) (la_row_155 h1078_)
    have e1441_ : S 1100025 (g58 1046 0) = S 1100025 (g22 1100025 (g22 1046 0)) := congrArg ((S 1100025)) (la_row_155 h1078_)
    have e1442_ : S 1100025 (g58 1046 0) = S 1100025 (g41 1046 0) := congrArg ((S 1100025)) (la_row_155 h1078_)
    have e1443_ : S 1100025 (g58 1046 0) = S 1100025 (g41 1100025 (g41 1046 0)) := congrArg ((S 1100025)) (la_row_155 h1078_)
    have e1444_ : S 1100025 (g58 1046 0) = S 1100025 (g48 1046 0) := congrArg ((S 1100025)) (la_row_155 h1078_)
    have e1445_ : g22 1100007 (g41 1100023 (g41 1100023 (g41 1046 0))) = g22 1100007 (g22 1046 0) := congrArg ((g22 1100007)) (la_row_155 h1078_)
    have e1446_ : g22 1100007 (g41 1100023 (g41 1100023 (g41 1046 0))) = g22 1100007 (g22 1100023 (g22 1046 0)) := congrArg ((g22 1100007)) (la_row_155 h1078_)
    have e1447_ : g22 1100007 (g41 1100023 (g41 1100023 (g41 1046 0))) = g22 1100007 (g22 1100023 (g22 1100023 (g22 1046 0))) := congrArg ((g22 1100007)) (la_row_155 h1078_)
    have e1448_ : g22 1100007 (g41 1100023 (g41 1100023 (g41 1046 0))) = g22 1100007 (g22 1100025 (g22 1046 0)) := congrArg ((g22 1100007)) (la_row_155 h1078_)
    have e1449_ : g22 1100007 (g41 1100023 (g41 1100023 (g41 1046 0))) = g22 1100007 (g41 1046 0) := congrArg ((g22 1100007)) (la_row_155 h1078_)
    have e1450_ : g22 1100007 (g41 1100023 (g41 1100023 (g41 1046 0))) = g22 1100007 (g41 1100023 (g41 1046 0)) := congrArg ((g22 1100007)) e1371_
    have e1451_ : g22 1100007 (g41 1100025 (g41 1046 0)) = g22 1100007 (g41 1100023 (g41 1100023 (g41 1046 0))) := congrArg ((g22 1100007)) (la_row_155 h1078_)
    have e1452_ : g22 1100007 (g48 1046 0) = g22 1100007 (g41 1100023 (g41 1100023 (g41 1046 0))) := congrArg ((g22 1100007)) (la_row_155 h1078_)
    have e1453_ : g22 1100007 (g48 1100023 (g48 1046 0)) = g22 1100007 (g41 1100023 (g41 1100023 (g41 1046 0))) := congrArg ((g22 1100007)) (la_row_155 h1078_)
    have e1454_ : g22 1100007 (g48 1100025 (g48 1046 0)) = g22 1100007 (g41 1100023 (g41 1100023 (g41 1046 0))) := congrArg ((g22 1100007)) (la_row_155 h1078_)
    have e1455_ : g22 1100007 (g58 1046 0) = g22 1100007 (g41 1100023 (g41 1100023 (g41 1046 0))) := congrArg ((g22 1100007)) (la_row_155 h1078_)
    have e1456_ : g22 1100007 (g58 1100023 (g58 1046 0)) = g22 1100007 (g41 1100023 (g41 1100023 (g41 1046 0))) := congrArg ((g22 1100007)) (la_row_155 h1078_)
    have e1457_ : g22 1100007 (g58 1100025 (g58 1046 0)) = g22 1100007 (g41 1100023 (g41 1100023 (g41 1046 0))) := congrArg ((g22 1100007)) (la_row_155 h1078_)
    have e1458_ : g22 1100023 (g41 1100023 (g41 1046 0)) = g22 1100023 (g22 1046 0) := congrArg ((g22 1100023)) (la_row_155 h1078_)
    have e1459_ : g22 1100023 (g41 1100023 (g41 1046 0)) = g22 1100023 (g22 1100023 (g22 1046 0)) := congrArg ((g22 1100023)) (la_row_155 h1078_)
    have e1460_ : g22 1100023 (g41 1100023 (g41 1046 0)) = g22 1100023 (g41 1046 0) := congrArg ((g22 1100023)) (la_row_155 h1078_)
    have e1461_ : g22 1100023 (g48 1046 0) = g22 1100023 (g41 1100023 (g41 1046 0)) := congrArg ((g22 1100023)) (la_row_155 h1078_)
    have e1462_ : g22 1100023 (g58 1046 0) = g22 1100023 (g41 1100023 (g41 1046 0)) := congrArg ((g22 1100023)) (la_row_155 h1078_)
    have e1463_ : g22 1100023 (g58 1100023 (g58 1046 0)) = g22 1100023 (g22 1046 0) := congrArg ((g22 1100023)) (la_row_155 h1078_)
    have e1464_ : g22 1100023 (g58 1100023 (g58 1046 0)) = g22 1100023 (g22 1100023 (g22 1046 0)) := congrArg ((g22 1100023)) (la_row_155 h1078_)
    have e1465_ : g22 1100023 (g58 1100023 (g58 1046 0)) = g22 1100023 (g41 1046 0) := congrArg ((g22 1100023)) (la_row_155 h1078_)
    have e1466_ : g22 1100023 (g58 1100023 (g58 1046 0)) = g22 1100023 (g41 1100023 (g41 1046 0)) := congrArg ((g22 1100023)) (la_row_155 h1078_)
    have e1467_ : g22 1100023 (g58 1100023 (g58 1046 0)) = g22 1100023 (g48 1046 0) := congrArg ((g22 1100023)) (la_row_155 h1078_)
    have e1468_ : g22 1100023 (g58 1100023 (g58 1046 0)) = g22 1100023 (g58 1046 0) := congrArg ((g22 1100023)) (la_row_155 h1078_)
    have e1469_ : g22 1100025 (g41 1100025 (g41 1046 0)) = g22 1100025 (g22 1046 0) := congrArg ((g22 1100025)) (la_row_155 h1078_)
    have e1470_ : g22 1100025 (g41 1100025 (g41 1046 0)) = g22 1100025 (g22 1100025 (g22 1046 0)) := congrArg ((g22 1100025)) (la_row_155 h1078_)
    have e1471_ : g22 1100025 (g41 1100025 (g41 1046 0)) = g22 1100025 (g41 1046 0) := congrArg ((g22 1100025)) (la_row_155 h1078_)
    have e1472_ : g22 1100025 (g48 1046 0) = g22 1100025 (g41 1100025 (g41 1046 0)) := congrArg ((g22 1100025)) (la_row_155 h1078_)
    have e1473_ : g22 1100025 (g58 1046 0) = g22 1100025 (g41 1100025 (g41 1046 0)) := congrArg ((g22 1100025)) (la_row_155 h1078_)
    have e1474_ : g22 1100025 (g58 1100025 (g58 1046 0)) = g22 1100025 (g22 1046 0) := congrArg ((g22 1100025)) (la_row_155 h1078_)
    have e1475_ : g22 1100025 (g58 1100025 (g58 1046 0)) = g22 1100025 (g22 1100025 (g22 1046 0)) := congrArg ((g22 1100025)) (la_row_155 h1078_)
    have e1476_ : g22 1100025 (g58 1100025 (g58 1046 0)) = g22 1100025 (g41 1046 0) := congrArg ((g22 1100025)) (la_row_155 h1078_)
    have e1477_ : g22 1100025 (g58 1100025 (g58 1046 0)) = g22 1100025 (g41 1100025 (g41 1046 0)) := congrArg ((g22 1100025)) (la_row_155 h1078_)
    have e1478_ : g22 1100025 (g58 1100025 (g58 1046 0)) = g22 1100025 (g48 1046 0) := congrArg ((g22 1100025)) (la_row_155 h1078_)
    have e1479_ : g22 1100025 (g58 1100025 (g58 1046 0)) = g22 1100025 (g58 1046 0) := congrArg ((g22 1100025)) (la_row_155 h1078_)
    have e1480_ : g41 1100023 (g58 1100023 (g58 1046 0)) = g41 1100023 (g41 1046 0) := congrArg ((g41 1100023)) (la_row_155 h1078_)
    have e1481_ : g41 1100023 (g58 1100023 (g58 1046 0)) = g41 1100023 (g41 1100023 (g41 1046 0)) := congrArg ((g41 1100023)) (la_row_155 h1078_)
    have e1482_ : g41 1100023 (g58 1100023 (g58 1046 0)) = g41 1100023 (g48 1046 0) := congrArg ((g41 1100023)) (la_row_155 h1078_)
    have e1483_ : g41 1100023 (g58 1100023 (g58 1046 0)) = g41 1100023 (g58 1046 0) := congrArg ((g41 1100023)) (la_row_155 h1078_)
    have e1484_ : g41 1100025 (g58 1100025 (g58 1046 0)) = g41 1100025 (g41 1046 0) := congrArg ((g41 1100025)) (la_row_155 h1078_)
    have e1485_ : g41 1100025 (g58 1100025 (g58 1046 0)) = g41 1100025 (g41 1100025 (g41 1046 0)) := congrArg ((g41 1100025)) (la_row_155 h1078_)
    have e1486_ : g41 1100025 (g58 1100025 (g58 1046 0)) = g41 1100025 (g48 1046 0) := congrArg ((g41 1100025)) (la_row_155 h1078_)
    have e1487_ : g41 1100025 (g58 1100025 (g58 1046 0)) = g41 1100025 (g58 1046 0) := congrArg ((g41 1100025)) (la_row_155 h1078_)
    have e1488_ : g48 1100023 (g58 1100023 (g58 1046 0)) = g48 1100023 (g48 1046 0) := congrArg ((g48 1100023)) (la_row_155 h1078_)
    have e1489_ : g48 1100023 (g58 1100023 (g58 1046 0)) = g48 1100023 (g58 1046 0) := congrArg ((g48 1100023)) (la_row_155 h1078_)
    have e1490_ : g48 1100025 (g58 1100025 (g58 1046 0)) = g48 1100025 (g48 1046 0) := congrArg ((g48 1100025)) (la_row_155 h1078_)
    have e1491_ : g48 1100025 (g58 1100025 (g58 1046 0)) = g48 1100025 (g58 1046 0) := congrArg ((g48 1100025)) (la_row_155 h1078_)
    have e1492_ : S 1100023 (g58 1100023 (g58 1046 0)) = S 1100023 (S 1046 0) := congrArg ((S 1100023)) (la_row_155 h1078_)
    have e1493_ : S 1100023 (g58 1100023 (g58 1046 0)) = S 1100023 (g22 1046 0) := congrArg ((S 1100023)) (la_row_155 h1078_)
    have e1494_ : S 1100023 (g58 1100023 (g58 1046 0)) = S 1100023 (g22 1100023 (g22 1046 0)) := congrArg ((S 1100023)) (la_row_155 h1078_)
    have e1495_ : S 1100023 (g58 1100023 (g58 1046 0)) = S 1100023 (g41 1046 0) := congrArg ((S 1100023)) (la_row_155 h1078_)
    have e1496_ : S 1100023 (g58 1100023 (g58 1046 0)) = S 1100023 (g41 1100023 (g41 1046 0)) := congrArg ((S 1100023)) (la_row_155 h1078_)
    have e1497_ : S 1100023 (g58 1100023 (g58 1046 0)) = S 1100023 (g48 1046 0) := congrArg ((S 1100023)) (la_row_155 h1078_)
    have e1498_ : S 1100023 (g58 1100023 (g58 1046 0)) = S 1100023 (g58 1046 0) := congrArg ((S 1100023)) (la_row_155 h1078_)
    have e1499_ : S 1100025 (g58 1100025 (g58 1046 0)) = S 1100025 (S 1046 0) := congrArg ((S 1100025)) (la_row_155 h1078_)
    have e1500_ : S 1100025 (g58 1100025 (g58 1046 0)) = S 1100025 (g22 1046 0) := congrArg ((S 1100025)) (la_row_155 h1078_)
    have e1501_ : S 1100025 (g58 1100025 (g58 1046 0)) = S 1100025 (g22 1100025 (g22 1046 0)) := congrArg ((S 1100025)) (la_row_155 h1078_)
    have e1502_ : S 1100025 (g58 1100025 (g58 1046 0)) = S 1100025 (g41 1046 0) := congrArg ((S 1100025)) (la_row_155 h1078_)
    have e1503_ : S 1100025 (g58 1100025 (g58 1046 0)) = S 1100025 (g41 1100025 (g41 1046 0)) := congrArg ((S 1100025)) (la_row_155 h1078_)
    have e1504_ : S 1100025 (g58 1100025 (g58 1046 0)) = S 1100025 (g48 1046 0) := congrArg ((S 1100025)) (la_row_155 h1078_)
    have e1505_ : S 1100025 (g58 1100025 (g58 1046 0)) = S 1100025 (g58 1046 0) := congrArg ((S 1100025)) (la_row_155 h1078_)
    exact ((la_row_161 h1078_)).elim
  intro g65
  rintro ⟨h1506_, ⟨h1507_, ⟨h1508_, ⟨h1509_, ⟨h1510_, ⟨h1511_, ⟨h1512_, ⟨h1513_, ⟨h1514_, ⟨h1515_, ⟨h1516_, ⟨h1517_, ⟨h1518_, ⟨h1519_, ⟨h1520_, ⟨h1521_, h1522_⟩⟩⟩⟩⟩⟩⟩⟩⟩⟩⟩⟩⟩⟩⟩⟩
  refine ⟨?_, ?_⟩
  · skip
    refine ⟨(la_row_17 h1508_), ?_⟩
    refine ⟨h1511_, ?_⟩
    refine ⟨h1506_, ?_⟩
    refine ⟨h1507_, ?_⟩
    intro h1523_
    have h1524_ : ¬ (g58 1047 0 = 1) := fun q_ => (la_row_15 h1523_) (h1512_ q_)
    obtain ⟨h1525_, ⟨h1526_, ⟨h1527_, ⟨h1528_, ⟨h1529_, ⟨h1530_, ⟨h1531_, ⟨h1532_, ⟨h1533_, ⟨h1534_, ⟨h1535_, ⟨h1536_, ⟨h1537_, h1538_⟩⟩⟩⟩⟩⟩⟩⟩⟩⟩⟩⟩⟩ := (h1522_ h1523_)
    have h1539_ : ¬ (g48 1047 0 = 1) := fun q_ => h1524_ (h1004_ q_)
    have h1540_ := (h1538_ la_row_162)
    obtain ⟨h1541_, ⟨h1542_, ⟨h1543_, ⟨h1544_, ⟨h1545_, ⟨h1546_, ⟨h1547_, ⟨h1548_, ⟨h1549_, ⟨h1550_, ⟨h1551_, ⟨h1552_, ⟨h1553_, ⟨h1554_, ⟨h1555_, ⟨h1556_, -⟩⟩⟩⟩⟩⟩⟩⟩⟩⟩⟩⟩⟩⟩⟩⟩ := (h1024_ h1525_)
    have h1557_ : ¬ (g41 1047 0 = 1) := fun q_ => h1539_ (h609_ q_)
    have h1558_ := (h1023_ h1541_)
    have h1559_ := (h1540_ la_row_164)
    obtain ⟨h1560_, ⟨h1561_, ⟨h1562_, ⟨h1563_, ⟨h1564_, ⟨h1565_, ⟨h1566_, ⟨h1567_, ⟨h1568_, ⟨h1569_, ⟨h1570_, ⟨h1571_, ⟨h1572_, h1573_⟩⟩⟩⟩⟩⟩⟩⟩⟩⟩⟩⟩⟩ := (h619_ h1541_)
    have h1574_ := (h1573_ la_row_108)
    obtain ⟨h1575_, ⟨h1576_, ⟨h1577_, ⟨h1578_, ⟨h1579_, ⟨h1580_, ⟨h1581_, ⟨h1582_, ⟨h1583_, ⟨h1584_, ⟨h1585_, ⟨h1586_, ⟨h1587_, h1588_⟩⟩⟩⟩⟩⟩⟩⟩⟩⟩⟩⟩⟩ := (h583_ h1560_)
    have h1589_ := (h1574_ la_row_110)
    have h1590_ := (h1588_ la_row_92)
    have h1591_ := (h1590_ la_row_94)
    refine ⟨h1527_, ?_⟩
    refine ⟨la_row_165, ?_⟩
    refine ⟨la_row_166, ?_⟩
    refine ⟨(sm_ci_17 (la_row_167 (sm_KC_n h23_).2.1.1 h27_ h28_ h394_ h395_ h397_ h398_ h399_ h1531_ (sm_dl_11 : sm_dl 11 0 = (-2)) h1532_ (sm_nt_11 : sm_nt 11 (g58 1046 0) (g58 1100023 (g58 1046 0)) (g58 1100023 (g58 1100023 (g58 1046 0))) = g58 1100023 (g58 1046 0)) h1534_ (sm_nl_11 : sm_nl 11 (g58 1046 0) (g58 1100007 (g58 1046 0)) (g58 1100025 (g58 1046 0)) (g58 1100007 (g58 1100025 (g58 1046 0))) (g58 1100025 (g58 1100025 (g58 1046 0))) = g58 1100025 (g58 1046 0)) h1535_ (sm_nt_11 : sm_nt 11 (g58 1100007 (g58 1046 0)) (g58 1100007 (g58 1100023 (g58 1046 0))) (g58 1100007 (g58 1100023 (g58 1100023 (g58 1046 0)))) = g58 1100007 (g58 1100023 (g58 1046 0))) h1548_ h1549_ h1551_ h1552_ h1553_ h1559_ h1566_ (sm_dl_0 : sm_dl 0 5 = 1) h1567_ (sm_nt_0 : sm_nt 0 (g41 1046 0) (g41 1100023 (g41 1046 0)) (g41 1100023 (g41 1100023 (g41 1046 0))) = g41 1100023 (g41 1046 0)) h1569_ (sm_nl_0 : sm_nl 0 (g41 1046 0) (g41 1100007 (g41 1046 0)) (g41 1100025 (g41 1046 0)) (g41 1100007 (g41 1100025 (g41 1046 0))) (g41 1100025 (g41 1100025 (g41 1046 0))) = g41 1100025 (g41 1046 0)) h1570_ (sm_nt_0 : sm_nt 0 (g41 1100007 (g41 1046 0)) (g41 1100007 (g41 1100023 (g41 1046 0))) (g41 1100007 (g41 1100023 (g41 1100023 (g41 1046 0)))) = g41 1100007 (g41 1100023 (g41 1046 0))) h1581_ (sm_dl_18 : sm_dl 18 0 = 1) h1582_ (sm_nt_18 : sm_nt 18 (g22 1046 0) (g22 1100023 (g22 1046 0)) (g22 1100023 (g22 1100023 (g22 1046 0))) = g22 1100023 (g22 1046 0)) h1584_ (sm_nl_18 : sm_nl 18 (g22 1046 0) (g22 1100007 (g22 1046 0)) (g22 1100025 (g22 1046 0)) (g22 1100007 (g22 1100025 (g22 1046 0))) (g22 1100025 (g22 1100025 (g22 1046 0))) = g22 1100025 (g22 1046 0)) h1585_ (sm_nt_18 : sm_nt 18 (g22 1100007 (g22 1046 0)) (g22 1100007 (g22 1100023 (g22 1046 0))) (g22 1100007 (g22 1100023 (g22 1100023 (g22 1046 0)))) = g22 1100007 (g22 1100023 (g22 1046 0))) h1589_ h1591_ (sm_dl_17 : sm_dl 17 0 = (-1)) (sm_nt_17 : sm_nt 17 (g65 1046 0) (g65 1100023 (g65 1046 0)) (g65 1100023 (g65 1100023 (g65 1046 0))) = g65 1100023 (g65 1046 0)) (sm_nl_17b : (0 ≤ g65 1100025 (g65 1046 0) → g65 1100007 (g65 1100025 (g65 1046 0)) < g65 1100007 (g65 1046 0)) → sm_nl 17 (g65 1046 0) (g65 1100007 (g65 1046 0)) (g65 1100025 (g65 1046 0)) (g65 1100007 (g65 1100025 (g65 1046 0))) (g65 1100025 (g65 1100025 (g65 1046 0))) = g65 1100025 (g65 1046 0)))), ?_⟩
    refine ⟨la_row_168, ?_⟩
    intro h1592_
    have h1593_ := (h1592_.resolve_left la_row_169)
    have h1594_ := (h318_ (sm_nm_i (la_row_170 h1593_) (la_row_171 h1593_) (la_row_172 h1593_)))
    obtain ⟨h1595_, h1596_⟩ := (h1594_ h4_)
    have h1597_ := (h27_ (la_row_175 h1593_))
    have h1598_ := (h28_ (la_row_175 h1593_))
    have h1599_ := (h92_ (la_row_176 h1593_))
    obtain ⟨h1600_, ⟨h1601_, ⟨h1602_, ⟨h1603_, ⟨h1604_, ⟨h1605_, ⟨h1606_, ⟨h1607_, h1608_⟩⟩⟩⟩⟩⟩⟩⟩ := (h323_.resolve_left (la_row_177 h1593_))
    have h1609_ := (h332_ (la_row_178 h1593_))
    have h1610_ := (h333_ (la_row_179 h1593_))
    have h1611_ := ((sm_nl_17b : (0 ≤ g65 1100025 (g65 1046 0) → g65 1100007 (g65 1100025 (g65 1046 0)) < g65 1100007 (g65 1046 0)) → sm_nl 17 (g65 1046 0) (g65 1100007 (g65 1046 0)) (g65 1100025 (g65 1046 0)) (g65 1100007 (g65 1100025 (g65 1046 0))) (g65 1100025 (g65 1100025 (g65 1046 0))) = g65 1100025 (g65 1046 0)) (la_row_180 h1593_))
    have h1612_ := (h1599_.resolve_left (la_row_181 h1593_))
    have h1613_ := (h1607_ (la_row_182 h1593_))
    have h1614_ := (h1608_ (la_row_183 h1593_))
    have h1615_ := (h1614_ (la_row_184 h1593_))
    have e1616_ : S 1100001 (S 13 l3_24) = S 1100001 (S 12 (5 * l3_24)) := congrArg ((S 1100001)) (la_row_185 h1593_)
    have e1617_ : S 1100001 l3_24 = S 1100001 (S 12 (5 * l3_24)) := congrArg ((S 1100001)) (la_row_185 h1593_)
    have e1618_ : S 1100001 l3_24 = S 1100001 (S 13 l3_24) := congrArg ((S 1100001)) (la_row_185 h1593_)
    have e1619_ : S 1100001 p1 = S 1100001 (S 12 (5 * l3_24)) := congrArg ((S 1100001)) (la_row_185 h1593_)
    have e1620_ : S 1100001 p1 = S 1100001 (S 13 l3_24) := congrArg ((S 1100001)) (la_row_185 h1593_)
    have e1621_ : S 1100001 p1 = S 1100001 l3_24 := congrArg ((S 1100001)) (la_row_185 h1593_)
    have e1622_ : S 1100002 (S 12 (5 * l3_24 + 0)) = S 1100002 (S 12 (5 * l3_24)) := congrArg ((S 1100002)) (la_row_185 h1593_)
    have e1623_ : S 1100002 (S 13 l3_24) = S 1100002 (S 12 (5 * l3_24)) := congrArg ((S 1100002)) (la_row_185 h1593_)
    have e1624_ : S 1100002 (S 13 l3_24) = S 1100002 (S 12 (5 * l3_24 + 0)) := congrArg ((S 1100002)) (la_row_185 h1593_)
    have e1625_ : S 1100002 l3_24 = S 1100002 (S 12 (5 * l3_24)) := congrArg ((S 1100002)) (la_row_185 h1593_)
    have e1626_ : S 1100002 l3_24 = S 1100002 (S 12 (5 * l3_24 + 0)) := congrArg ((S 1100002)) (la_row_185 h1593_)
    have e1627_ : S 1100002 l3_24 = S 1100002 (S 13 l3_24) := congrArg ((S 1100002)) (la_row_185 h1593_)
    have e1628_ : S 1100002 p1 = S 1100002 (S 12 (5 * l3_24)) := congrArg ((S 1100002)) (la_row_185 h1593_)
    have e1629_ : S 1100002 p1 = S 1100002 (S 12 (5 * l3_24 + 0)) := congrArg ((S 1100002)) (la_row_185 h1593_)
    have e1630_ : S 1100002 p1 = S 1100002 (S 13 l3_24) := congrArg ((S 1100002)) (la_row_185 h1593_)
    have e1631_ : S 1100002 p1 = S 1100002 l3_24 := congrArg ((S 1100002)) (la_row_185 h1593_)
    have e1632_ : S 1100003 l3_24 = S 1100003 (S 13 l3_24) := congrArg ((S 1100003)) (la_row_185 h1593_)
    have e1633_ : S 1100004 l3_24 = S 1100004 (S 13 l3_24) := congrArg ((S 1100004)) (la_row_185 h1593_)
    have e1634_ : S 1100005 (S 12 (5 * l3_24 + 0)) = S 1100005 (S 12 (5 * l3_24)) := congrArg ((S 1100005)) (la_row_185 h1593_)
    have e1635_ : S 1100005 (S 13 l3_24) = S 1100005 (S 12 (5 * l3_24)) := congrArg ((S 1100005)) (la_row_185 h1593_)
    have e1636_ : S 1100005 (S 13 l3_24) = S 1100005 (S 12 (5 * l3_24 + 0)) := congrArg ((S 1100005)) (la_row_185 h1593_)
    have e1637_ : S 1100005 l3_24 = S 1100005 (S 12 (5 * l3_24)) := congrArg ((S 1100005)) (la_row_185 h1593_)
    have e1638_ : S 1100005 l3_24 = S 1100005 (S 12 (5 * l3_24 + 0)) := congrArg ((S 1100005)) (la_row_185 h1593_)
    have e1639_ : S 1100005 l3_24 = S 1100005 (S 13 l3_24) := congrArg ((S 1100005)) (la_row_185 h1593_)
    have e1640_ : S 1100005 p1 = S 1100005 (S 12 (5 * l3_24)) := congrArg ((S 1100005)) (la_row_185 h1593_)
    have e1641_ : S 1100005 p1 = S 1100005 (S 12 (5 * l3_24 + 0)) := congrArg ((S 1100005)) (la_row_185 h1593_)
    have e1642_ : S 1100005 p1 = S 1100005 (S 13 l3_24) := congrArg ((S 1100005)) (la_row_185 h1593_)
    have e1643_ : S 1100005 p1 = S 1100005 l3_24 := congrArg ((S 1100005)) (la_row_185 h1593_)
    have e1644_ : S 1100007 (S 1100023 (S 1046 0)) = S 1100007 (S 1046 0) := congrArg ((S 1100007)) (la_row_185 h1593_)
    have e1645_ : S 1100007 (S 1100025 (S 1046 0)) = S 1100007 (S 1046 0) := congrArg ((S 1100007)) (la_row_185 h1593_)
    have e1646_ : S 1100007 (S 1100025 (S 1046 0)) = S 1100007 (S 1100023 (S 1046 0)) := congrArg ((S 1100007)) (la_row_185 h1593_)
    have e1647_ : S 1100007 (g22 1046 0) = S 1100007 (S 1046 0) := congrArg ((S 1100007)) (la_row_185 h1593_)
    have e1648_ : S 1100007 (g22 1046 0) = S 1100007 (S 1100023 (S 1046 0)) := congrArg ((S 1100007)) (la_row_185 h1593_)
    have e1649_ : S 1100007 (g22 1046 0) = S 1100007 (S 1100025 (S 1046 0)) := congrArg ((S 1100007)) (la_row_185 h1593_)
    have e1650_ : S 1100007 (g22 1100023 (g22 1046 0)) = S 1100007 (S 1046 0) := congrArg ((S 1100007)) (la_row_185 h1593_)
    have e1651_ : S 1100007 (g22 1100023 (g22 1046 0)) = S 1100007 (S 1100023 (S 1046 0)) := congrArg ((S 1100007)) h395_
    have e1652_ : S 1100007 (g22 1100023 (g22 1046 0)) = S 1100007 (S 1100025 (S 1046 0)) := congrArg ((S 1100007)) (la_row_185 h1593_)
    have e1653_ : S 1100007 (g22 1100023 (g22 1046 0)) = S 1100007 (g22 1046 0) := congrArg ((S 1100007)) (la_row_185 h1593_)
    have e1654_ : S 1100007 (g22 1100025 (g22 1046 0)) = S 1100007 (S 1046 0) := congrArg ((S 1100007)) (la_row_185 h1593_)
    have e1655_ : S 1100007 (g22 1100025 (g22 1046 0)) = S 1100007 (S 1100023 (S 1046 0)) := congrArg ((S 1100007)) (la_row_185 h1593_)
    have e1656_ : S 1100007 (g22 1100025 (g22 1046 0)) = S 1100007 (S 1100025 (S 1046 0)) := congrArg ((S 1100007)) h397_
    have e1657_ : S 1100007 (g22 1100025 (g22 1046 0)) = S 1100007 (g22 1046 0) := congrArg ((S 1100007)) (la_row_185 h1593_)
    have e1658_ : S 1100007 (g22 1100025 (g22 1046 0)) = S 1100007 (g22 1100023 (g22 1046 0)) := congrArg ((S 1100007)) (la_row_185 h1593_)
    have e1659_ : S 1100007 (g41 1046 0) = S 1100007 (S 1046 0) := congrArg ((S 1100007)) (la_row_185 h1593_)
    have e1660_ : S 1100007 (g41 1046 0) = S 1100007 (S 1100023 (S 1046 0)) := congrArg ((S 1100007)) (la_row_185 h1593_)
    have e1661_ : S 1100007 (g41 1046 0) = S 1100007 (S 1100025 (S 1046 0)) := congrArg ((S 1100007)) (la_row_185 h1593_)
    have e1662_ : S 1100007 (g41 1046 0) = S 1100007 (g22 1046 0) := congrArg ((S 1100007)) (la_row_185 h1593_)
    have e1663_ : S 1100007 (g41 1046 0) = S 1100007 (g22 1100023 (g22 1046 0)) := congrArg ((S 1100007)) (la_row_185 h1593_)
    have e1664_ : S 1100007 (g41 1046 0) = S 1100007 (g22 1100025 (g22 1046 0)) := congrArg ((S 1100007)) (la_row_185 h1593_)
    have e1665_ : S 1100007 (g41 1100023 (g41 1046 0)) = S 1100007 (S 1046 0) := congrArg ((S 1100007)) (la_row_185 h1593_)
    have e1666_ : S 1100007 (g41 1100023 (g41 1046 0)) = S 1100007 (S 1100023 (S 1046 0)) := congrArg ((S 1100007)) (la_row_185 h1593_)
    have e1667_ : S 1100007 (g41 1100023 (g41 1046 0)) = S 1100007 (S 1100025 (S 1046 0)) := congrArg ((S 1100007)) (la_row_185 h1593_)
    have e1668_ : S 1100007 (g41 1100023 (g41 1046 0)) = S 1100007 (g22 1046 0) := congrArg ((S 1100007)) (la_row_185 h1593_)
    have e1669_ : S 1100007 (g41 1100023 (g41 1046 0)) = S 1100007 (g22 1100023 (g22 1046 0)) := congrArg ((S 1100007)) (la_row_185 h1593_)
    have e1670_ : S 1100007 (g41 1100023 (g41 1046 0)) = S 1100007 (g22 1100025 (g22 1046 0)) := congrArg ((S 1100007)) (la_row_185 h1593_)
    have e1671_ : S 1100007 (g41 1100023 (g41 1046 0)) = S 1100007 (g41 1046 0) := congrArg ((S 1100007)) (la_row_185 h1593_)
    have e1672_ : S 1100007 (g41 1100025 (g41 1046 0)) = S 1100007 (S 1046 0) := congrArg ((S 1100007)) (la_row_185 h1593_)
    have e1673_ : S 1100007 (g41 1100025 (g41 1046 0)) = S 1100007 (S 1100023 (S 1046 0)) := congrArg ((S 1100007)) (la_row_185 h1593_)
    have e1674_ : S 1100007 (g41 1100025 (g41 1046 0)) = S 1100007 (S 1100025 (S 1046 0)) := congrArg ((S 1100007)) (la_row_185 h1593_)
    have e1675_ : S 1100007 (g41 1100025 (g41 1046 0)) = S 1100007 (g22 1046 0) := congrArg ((S 1100007)) (la_row_185 h1593_)
    have e1676_ : S 1100007 (g41 1100025 (g41 1046 0)) = S 1100007 (g22 1100023 (g22 1046 0)) := congrArg ((S 1100007)) (la_row_185 h1593_)
    have e1677_ : S 1100007 (g41 1100025 (g41 1046 0)) = S 1100007 (g22 1100025 (g22 1046 0)) := congrArg ((S 1100007)) (la_row_185 h1593_)
    have e1678_ : S 1100007 (g41 1100025 (g41 1046 0)) = S 1100007 (g41 1046 0) := congrArg ((S 1100007)) (la_row_185 h1593_)
    have e1679_ : S 1100007 (g41 1100025 (g41 1046 0)) = S 1100007 (g41 1100023 (g41 1046 0)) := congrArg ((S 1100007)) (la_row_185 h1593_)
    have e1680_ : S 1100007 (g48 1046 0) = S 1100007 (S 1046 0) := congrArg ((S 1100007)) (la_row_185 h1593_)
    have e1681_ : S 1100007 (g48 1046 0) = S 1100007 (S 1100023 (S 1046 0)) := congrArg ((S 1100007)) (la_row_185 h1593_)
    have e1682_ : S 1100007 (g48 1046 0) = S 1100007 (S 1100025 (S 1046 0)) := congrArg ((S 1100007)) (la_row_185 h1593_)
    have e1683_ : S 1100007 (g48 1046 0) = S 1100007 (g22 1046 0) := congrArg ((S 1100007)) (la_row_185 h1593_)
    have e1684_ : S 1100007 (g48 1046 0) = S 1100007 (g22 1100023 (g22 1046 0)) := congrArg ((S 1100007)) (la_row_185 h1593_)
    have e1685_ : S 1100007 (g48 1046 0) = S 1100007 (g22 1100025 (g22 1046 0)) := congrArg ((S 1100007)) (la_row_185 h1593_)
    have e1686_ : S 1100007 (g48 1046 0) = S 1100007 (g41 1046 0) := congrArg ((S 1100007)) (la_row_185 h1593_)
    have e1687_ : S 1100007 (g48 1046 0) = S 1100007 (g41 1100023 (g41 1046 0)) := congrArg ((S 1100007)) (la_row_185 h1593_)
    have e1688_ : S 1100007 (g48 1046 0) = S 1100007 (g41 1100025 (g41 1046 0)) := congrArg ((S 1100007)) (la_row_185 h1593_)
    have e1689_ : S 1100007 (g48 1100023 (g48 1046 0)) = S 1100007 (S 1046 0) := congrArg ((S 1100007)) (la_row_185 h1593_)
    have e1690_ : S 1100007 (g48 1100023 (g48 1046 0)) = S 1100007 (S 1100023 (S 1046 0)) := congrArg ((S 1100007)) (la_row_185 h1593_)
    have e1691_ : S 1100007 (g48 1100023 (g48 1046 0)) = S 1100007 (S 1100025 (S 1046 0)) := congrArg ((S 1100007)) (la_row_185 h1593_)
    have e1692_ : S 1100007 (g48 1100023 (g48 1046 0)) = S 1100007 (g22 1046 0) := congrArg ((S 1100007)) (la_row_185 h1593_)
    have e1693_ : S 1100007 (g48 1100023 (g48 1046 0)) = S 1100007 (g22 1100023 (g22 1046 0)) := congrArg ((S 1100007)) (la_row_185 h1593_)
    have e1694_ : S 1100007 (g48 1100023 (g48 1046 0)) = S 1100007 (g22 1100025 (g22 1046 0)) := congrArg ((S 1100007)) (la_row_185 h1593_)
    have e1695_ : S 1100007 (g48 1100023 (g48 1046 0)) = S 1100007 (g41 1046 0) := congrArg ((S 1100007)) (la_row_185 h1593_)
    have e1696_ : S 1100007 (g48 1100023 (g48 1046 0)) = S 1100007 (g41 1100023 (g41 1046 0)) := congrArg ((S 1100007)) (la_row_185 h1593_)
    have e1697_ : S 1100007 (g48 1100023 (g48 1046 0)) = S 1100007 (g41 1100025 (g41 1046 0)) := congrArg ((S 1100007)) (la_row_185 h1593_)
    have e1698_ : S 1100007 (g48 1100023 (g48 1046 0)) = S 1100007 (g48 1046 0) := congrArg ((S 1100007)) (la_row_185 h1593_)
    have e1699_ : S 1100007 (g48 1100025 (g48 1046 0)) = S 1100007 (S 1046 0) := congrArg ((S 1100007)) (la_row_185 h1593_)
    have e1700_ : S 1100007 (g48 1100025 (g48 1046 0)) = S 1100007 (S 1100023 (S 1046 0)) := congrArg ((S 1100007)) (la_row_185 h1593_)
    have e1701_ : S 1100007 (g48 1100025 (g48 1046 0)) = S 1100007 (S 1100025 (S 1046 0)) := congrArg ((S 1100007)) (la_row_185 h1593_)
    have e1702_ : S 1100007 (g48 1100025 (g48 1046 0)) = S 1100007 (g22 1046 0) := congrArg ((S 1100007)) (la_row_185 h1593_)
    have e1703_ : S 1100007 (g48 1100025 (g48 1046 0)) = S 1100007 (g22 1100023 (g22 1046 0)) := congrArg ((S 1100007)) (la_row_185 h1593_)
    have e1704_ : S 1100007 (g48 1100025 (g48 1046 0)) = S 1100007 (g22 1100025 (g22 1046 0)) := congrArg ((S 1100007)) (la_row_185 h1593_)
    have e1705_ : S 1100007 (g48 1100025 (g48 1046 0)) = S 1100007 (g41 1046 0) := congrArg ((S 1100007)) (la_row_185 h1593_)
    have e1706_ : S 1100007 (g48 1100025 (g48 1046 0)) = S 1100007 (g41 1100023 (g41 1046 0)) := congrArg ((S 1100007)) (la_row_185 h1593_)
    have e1707_ : S 1100007 (g48 1100025 (g48 1046 0)) = S 1100007 (g41 1100025 (g41 1046 0)) := congrArg ((S 1100007)) (la_row_185 h1593_)
    have e1708_ : S 1100007 (g48 1100025 (g48 1046 0)) = S 1100007 (g48 1046 0) := congrArg ((S 1100007)) (la_row_185 h1593_)
    have e1709_ : S 1100007 (g48 1100025 (g48 1046 0)) = S 1100007 (g48 1100023 (g48 1046 0)) := congrArg ((S 1100007)) (la_row_185 h1593_)
    have e1710_ : S 1100023 (g22 1046 0) = S 1100023 (S 1046 0) := congrArg ((S 1100023)) (la_row_185 h1593_)
    have e1711_ : S 1100023 (g41 1046 0) = S 1100023 (S 1046 0) := congrArg ((S 1100023)) (la_row_185 h1593_)
    have e1712_ : S 1100023 (g41 1046 0) = S 1100023 (g22 1046 0) := congrArg ((S 1100023)) (la_row_185 h1593_)
    have e1713_ : S 1100023 (g48 1046 0) = S 1100023 (S 1046 0) := congrArg ((S 1100023)) (la_row_185 h1593_)
    have e1714_ : S 1100023 (g48 1046 0) = S 1100023 (g22 1046 0) := congrArg ((S 1100023)) (la_row_185 h1593_)
    have e1715_ : S 1100023 (g48 1046 0) = S 1100023 (g41 1046 0) := congrArg ((S 1100023)) (la_row_185 h1593_)
    have e1716_ : S 1100024 (g22 1046 0) = S 1100024 (S 1046 0) := congrArg ((S 1100024)) (la_row_185 h1593_)
    have e1717_ : S 1100024 (g41 1046 0) = S 1100024 (S 1046 0) := congrArg ((S 1100024)) (la_row_185 h1593_)
    have e1718_ : S 1100024 (g41 1046 0) = S 1100024 (g22 1046 0) := congrArg ((S 1100024)) (la_row_185 h1593_)
    have e1719_ : S 1100024 (g48 1046 0) = S 1100024 (S 1046 0) := congrArg ((S 1100024)) (la_row_185 h1593_)
    have e1720_ : S 1100024 (g48 1046 0) = S 1100024 (g22 1046 0) := congrArg ((S 1100024)) (la_row_185 h1593_)
    have e1721_ : S 1100024 (g48 1046 0) = S 1100024 (g41 1046 0) := congrArg ((S 1100024)) (la_row_185 h1593_)
    have e1722_ : S 1100025 (g22 1046 0) = S 1100025 (S 1046 0) := congrArg ((S 1100025)) (la_row_185 h1593_)
    have e1723_ : S 1100025 (g41 1046 0) = S 1100025 (S 1046 0) := congrArg ((S 1100025)) (la_row_185 h1593_)
    have e1724_ : S 1100025 (g41 1046 0) = S 1100025 (g22 1046 0) := congrArg ((S 1100025)) (la_row_185 h1593_)
    have e1725_ : S 1100025 (g48 1046 0) = S 1100025 (S 1046 0) := congrArg ((S 1100025)) (la_row_185 h1593_)
    have e1726_ : S 1100025 (g48 1046 0) = S 1100025 (g22 1046 0) := congrArg ((S 1100025)) (la_row_185 h1593_)
    have e1727_ : S 1100025 (g48 1046 0) = S 1100025 (g41 1046 0) := congrArg ((S 1100025)) (la_row_185 h1593_)
    have e1728_ : S 12 (5 * S 12 (5 * l3_24) + 1) = S 12 (5 * l3_24) := congrArg ((S 12)) (la_row_186 h1593_)
    have e1729_ : S 12 (5 * l3_24 + 0) = S 12 (5 * l3_24) := congrArg ((S 12)) la_row_57
    have e1730_ : S 12 (5 * l3_24 + 0) = S 12 (5 * S 12 (5 * l3_24) + 1) := congrArg ((S 12)) (la_row_187 h1593_)
    have e1731_ : S 12 (5 * l3_24 + 1) = S 12 (5 * l3_24) := congrArg ((S 12)) (la_row_188 h1593_)
    have e1732_ : S 12 (5 * l3_24 + 1) = S 12 (5 * S 12 (5 * l3_24) + 1) := congrArg ((S 12)) (la_row_189 h1593_)
    have e1733_ : S 12 (5 * l3_24 + 1) = S 12 (5 * l3_24 + 0) := congrArg ((S 12)) (la_row_190 h1593_)
    have e1734_ : S 26 (g41 1046 0) = S 26 (g22 1046 0) := congrArg ((S 26)) (la_row_185 h1593_)
    have e1735_ : S 29 (g41 1046 0) = S 29 (g22 1046 0) := congrArg ((S 29)) (la_row_185 h1593_)
    have e1736_ : g22 1100007 (g22 1100023 (g22 1046 0)) = g22 1100007 (g22 1046 0) := congrArg ((g22 1100007)) (la_row_185 h1593_)
    have e1737_ : g22 1100007 (g22 1100023 (g22 1100023 (g22 1046 0))) = g22 1100007 (g22 1046 0) := congrArg ((g22 1100007)) (la_row_185 h1593_)
    have e1738_ : g22 1100007 (g22 1100023 (g22 1100023 (g22 1046 0))) = g22 1100007 (g22 1100023 (g22 1046 0)) := congrArg ((g22 1100007)) (la_row_185 h1593_)
    have e1739_ : g22 1100007 (g22 1100025 (g22 1046 0)) = g22 1100007 (g22 1046 0) := congrArg ((g22 1100007)) (la_row_185 h1593_)
    have e1740_ : g22 1100007 (g22 1100025 (g22 1046 0)) = g22 1100007 (g22 1100023 (g22 1046 0)) := congrArg ((g22 1100007)) (la_row_185 h1593_)
    have e1741_ : g22 1100007 (g22 1100025 (g22 1046 0)) = g22 1100007 (g22 1100023 (g22 1100023 (g22 1046 0))) := congrArg ((g22 1100007)) (la_row_185 h1593_)
    have e1742_ : g22 1100007 (g41 1046 0) = g22 1100007 (g22 1046 0) := congrArg ((g22 1100007)) (la_row_185 h1593_)
    have e1743_ : g22 1100007 (g41 1046 0) = g22 1100007 (g22 1100023 (g22 1046 0)) := congrArg ((g22 1100007)) (la_row_185 h1593_)
    have e1744_ : g22 1100007 (g41 1046 0) = g22 1100007 (g22 1100023 (g22 1100023 (g22 1046 0))) := congrArg ((g22 1100007)) (la_row_185 h1593_)
    have e1745_ : g22 1100007 (g41 1046 0) = g22 1100007 (g22 1100025 (g22 1046 0)) := congrArg ((g22 1100007)) (la_row_185 h1593_)
    have e1746_ : g22 1100007 (g41 1100023 (g41 1046 0)) = g22 1100007 (g22 1046 0) := congrArg ((g22 1100007)) (la_row_185 h1593_)
    have e1747_ : g22 1100007 (g41 1100023 (g41 1046 0)) = g22 1100007 (g22 1100023 (g22 1046 0)) := congrArg ((g22 1100007)) (la_row_185 h1593_)
    have e1748_ : g22 1100007 (g41 1100023 (g41 1046 0)) = g22 1100007 (g22 1100023 (g22 1100023 (g22 1046 0))) := congrArg ((g22 1100007)) (la_row_185 h1593_)
    have e1749_ : g22 1100007 (g41 1100023 (g41 1046 0)) = g22 1100007 (g22 1100025 (g22 1046 0)) := congrArg ((g22 1100007)) (la_row_185 h1593_)
    have e1750_ : g22 1100007 (g41 1100023 (g41 1046 0)) = g22 1100007 (g41 1046 0) := congrArg ((g22 1100007)) (la_row_185 h1593_)
    have e1751_ : g22 1100007 (g41 1100025 (g41 1046 0)) = g22 1100007 (g22 1046 0) := congrArg ((g22 1100007)) (la_row_185 h1593_)
    have e1752_ : g22 1100007 (g41 1100025 (g41 1046 0)) = g22 1100007 (g22 1100023 (g22 1046 0)) := congrArg ((g22 1100007)) (la_row_185 h1593_)
    have e1753_ : g22 1100007 (g41 1100025 (g41 1046 0)) = g22 1100007 (g22 1100023 (g22 1100023 (g22 1046 0))) := congrArg ((g22 1100007)) (la_row_185 h1593_)
    have e1754_ : g22 1100007 (g41 1100025 (g41 1046 0)) = g22 1100007 (g22 1100025 (g22 1046 0)) := congrArg ((g22 1100007)) (la_row_185 h1593_)
    have e1755_ : g22 1100007 (g41 1100025 (g41 1046 0)) = g22 1100007 (g41 1046 0) := congrArg ((g22 1100007)) (la_row_185 h1593_)
    have e1756_ : g22 1100007 (g41 1100025 (g41 1046 0)) = g22 1100007 (g41 1100023 (g41 1046 0)) := congrArg ((g22 1100007)) (la_row_185 h1593_)
    have e1757_ : g22 1100007 (g48 1046 0) = g22 1100007 (g22 1046 0) := congrArg ((g22 1100007)) (la_row_185 h1593_)
    have e1758_ : g22 1100007 (g48 1046 0) = g22 1100007 (g22 1100023 (g22 1046 0)) := congrArg ((g22 1100007)) (la_row_185 h1593_)
    have e1759_ : g22 1100007 (g48 1046 0) = g22 1100007 (g22 1100023 (g22 1100023 (g22 1046 0))) := congrArg ((g22 1100007)) (la_row_185 h1593_)
    have e1760_ : g22 1100007 (g48 1046 0) = g22 1100007 (g22 1100025 (g22 1046 0)) := congrArg ((g22 1100007)) (la_row_185 h1593_)
    have e1761_ : g22 1100007 (g48 1046 0) = g22 1100007 (g41 1046 0) := congrArg ((g22 1100007)) (la_row_185 h1593_)
    have e1762_ : g22 1100007 (g48 1046 0) = g22 1100007 (g41 1100023 (g41 1046 0)) := congrArg ((g22 1100007)) (la_row_185 h1593_)
    have e1763_ : g22 1100007 (g48 1046 0) = g22 1100007 (g41 1100025 (g41 1046 0)) := congrArg ((g22 1100007)) (la_row_185 h1593_)
    have e1764_ : g22 1100007 (g48 1100023 (g48 1046 0)) = g22 1100007 (g22 1046 0) := congrArg ((g22 1100007)) (la_row_185 h1593_)
    have e1765_ : g22 1100007 (g48 1100023 (g48 1046 0)) = g22 1100007 (g22 1100023 (g22 1046 0)) := congrArg ((g22 1100007)) (la_row_185 h1593_)
    have e1766_ : g22 1100007 (g48 1100023 (g48 1046 0)) = g22 1100007 (g22 1100023 (g22 1100023 (g22 1046 0))) := congrArg ((g22 1100007)) (la_row_185 h1593_)
    have e1767_ : g22 1100007 (g48 1100023 (g48 1046 0)) = g22 1100007 (g22 1100025 (g22 1046 0)) := congrArg ((g22 1100007)) (la_row_185 h1593_)
    have e1768_ : g22 1100007 (g48 1100023 (g48 1046 0)) = g22 1100007 (g41 1046 0) := congrArg ((g22 1100007)) (la_row_185 h1593_)
    have e1769_ : g22 1100007 (g48 1100023 (g48 1046 0)) = g22 1100007 (g41 1100023 (g41 1046 0)) := congrArg ((g22 1100007)) (la_row_185 h1593_)
    have e1770_ : g22 1100007 (g48 1100023 (g48 1046 0)) = g22 1100007 (g41 1100025 (g41 1046 0)) := congrArg ((g22 1100007)) (la_row_185 h1593_)
    have e1771_ : g22 1100007 (g48 1100023 (g48 1046 0)) = g22 1100007 (g48 1046 0) := congrArg ((g22 1100007)) (la_row_185 h1593_)
    have e1772_ : g22 1100007 (g48 1100025 (g48 1046 0)) = g22 1100007 (g22 1046 0) := congrArg ((g22 1100007)) (la_row_185 h1593_)
    have e1773_ : g22 1100007 (g48 1100025 (g48 1046 0)) = g22 1100007 (g22 1100023 (g22 1046 0)) := congrArg ((g22 1100007)) (la_row_185 h1593_)
    have e1774_ : g22 1100007 (g48 1100025 (g48 1046 0)) = g22 1100007 (g22 1100023 (g22 1100023 (g22 1046 0))) := congrArg ((g22 1100007)) (la_row_185 h1593_)
    have e1775_ : g22 1100007 (g48 1100025 (g48 1046 0)) = g22 1100007 (g22 1100025 (g22 1046 0)) := congrArg ((g22 1100007)) (la_row_185 h1593_)
    have e1776_ : g22 1100007 (g48 1100025 (g48 1046 0)) = g22 1100007 (g41 1046 0) := congrArg ((g22 1100007)) (la_row_185 h1593_)
    have e1777_ : g22 1100007 (g48 1100025 (g48 1046 0)) = g22 1100007 (g41 1100023 (g41 1046 0)) := congrArg ((g22 1100007)) (la_row_185 h1593_)
    have e1778_ : g22 1100007 (g48 1100025 (g48 1046 0)) = g22 1100007 (g41 1100025 (g41 1046 0)) := congrArg ((g22 1100007)) (la_row_185 h1593_)
    have e1779_ : g22 1100007 (g48 1100025 (g48 1046 0)) = g22 1100007 (g48 1046 0) := congrArg ((g22 1100007)) (la_row_185 h1593_)
    have e1780_ : g22 1100007 (g48 1100025 (g48 1046 0)) = g22 1100007 (g48 1100023 (g48 1046 0)) := congrArg ((g22 1100007)) (la_row_185 h1593_)
    have e1781_ : g22 1100007 (g58 1046 0) = g22 1100007 (g22 1046 0) := congrArg ((g22 1100007)) (la_row_185 h1593_)
    have e1782_ : g22 1100007 (g58 1046 0) = g22 1100007 (g22 1100023 (g22 1046 0)) := congrArg ((g22 1100007)) (la_row_185 h1593_)
    have e1783_ : g22 1100007 (g58 1046 0) = g22 1100007 (g22 1100023 (g22 1100023 (g22 1046 0))) := congrArg ((g22 1100007)) (la_row_185 h1593_)
    have e1784_ : g22 1100007 (g58 1046 0) = g22 1100007 (g22 1100025 (g22 1046 0)) := congrArg ((g22 1100007)) (la_row_185 h1593_)
    have e1785_ : g22 1100007 (g58 1046 0) = g22 1100007 (g41 1046 0) := congrArg ((g22 1100007)) (la_row_185 h1593_)
    have e1786_ : g22 1100007 (g58 1046 0) = g22 1100007 (g41 1100023 (g41 1046 0)) := congrArg ((g22 1100007)) (la_row_185 h1593_)
    have e1787_ : g22 1100007 (g58 1046 0) = g22 1100007 (g41 1100025 (g41 1046 0)) := congrArg ((g22 1100007)) (la_row_185 h1593_)
    have e1788_ : g22 1100007 (g58 1046 0) = g22 1100007 (g48 1046 0) := congrArg ((g22 1100007)) (la_row_185 h1593_)
    have e1789_ : g22 1100007 (g58 1046 0) = g22 1100007 (g48 1100023 (g48 1046 0)) := congrArg ((g22 1100007)) (la_row_185 h1593_)
    have e1790_ : g22 1100007 (g58 1046 0) = g22 1100007 (g48 1100025 (g48 1046 0)) := congrArg ((g22 1100007)) (la_row_185 h1593_)
    have e1791_ : g22 1100007 (g58 1100023 (g58 1046 0)) = g22 1100007 (g22 1046 0) := congrArg ((g22 1100007)) (la_row_185 h1593_)
    have e1792_ : g22 1100007 (g58 1100023 (g58 1046 0)) = g22 1100007 (g22 1100023 (g22 1046 0)) := congrArg ((g22 1100007)) (la_row_185 h1593_)
    have e1793_ : g22 1100007 (g58 1100023 (g58 1046 0)) = g22 1100007 (g22 1100023 (g22 1100023 (g22 1046 0))) := congrArg ((g22 1100007)) (la_row_185 h1593_)
    have e1794_ : g22 1100007 (g58 1100023 (g58 1046 0)) = g22 1100007 (g22 1100025 (g22 1046 0)) := congrArg ((g22 1100007)) (la_row_185 h1593_)
    have e1795_ : g22 1100007 (g58 1100023 (g58 1046 0)) = g22 1100007 (g41 1046 0) := congrArg ((g22 1100007)) (la_row_185 h1593_)
    have e1796_ : g22 1100007 (g58 1100023 (g58 1046 0)) = g22 1100007 (g41 1100023 (g41 1046 0)) := congrArg ((g22 1100007)) (la_row_185 h1593_)
    have e1797_ : g22 1100007 (g58 1100023 (g58 1046 0)) = g22 1100007 (g41 1100025 (g41 1046 0)) := congrArg ((g22 1100007)) (la_row_185 h1593_)
    have e1798_ : g22 1100007 (g58 1100023 (g58 1046 0)) = g22 1100007 (g48 1046 0) := congrArg ((g22 1100007)) (la_row_185 h1593_)
    have e1799_ : g22 1100007 (g58 1100023 (g58 1046 0)) = g22 1100007 (g48 1100023 (g48 1046 0)) := congrArg ((g22 1100007)) h1549_
    have e1800_ : g22 1100007 (g58 1100023 (g58 1046 0)) = g22 1100007 (g48 1100025 (g48 1046 0)) := congrArg ((g22 1100007)) (la_row_185 h1593_)
    have e1801_ : g22 1100007 (g58 1100023 (g58 1046 0)) = g22 1100007 (g58 1046 0) := congrArg ((g22 1100007)) (la_row_185 h1593_)
    have e1802_ : g22 1100007 (g58 1100025 (g58 1046 0)) = g22 1100007 (g22 1046 0) := congrArg ((g22 1100007)) (la_row_185 h1593_)
    have e1803_ : g22 1100007 (g58 1100025 (g58 1046 0)) = g22 1100007 (g22 1100023 (g22 1046 0)) := congrArg ((g22 1100007)) (la_row_185 h1593_)
    have e1804_ : g22 1100007 (g58 1100025 (g58 1046 0)) = g22 1100007 (g22 1100023 (g22 1100023 (g22 1046 0))) := congrArg ((g22 1100007)) (la_row_185 h1593_)
    have e1805_ : g22 1100007 (g58 1100025 (g58 1046 0)) = g22 1100007 (g22 1100025 (g22 1046 0)) := congrArg ((g22 1100007)) (la_row_185 h1593_)
    have e1806_ : g22 1100007 (g58 1100025 (g58 1046 0)) = g22 1100007 (g41 1046 0) := congrArg ((g22 1100007)) (la_row_185 h1593_)
    have e1807_ : g22 1100007 (g58 1100025 (g58 1046 0)) = g22 1100007 (g41 1100023 (g41 1046 0)) := congrArg ((g22 1100007)) (la_row_185 h1593_)
    have e1808_ : g22 1100007 (g58 1100025 (g58 1046 0)) = g22 1100007 (g41 1100025 (g41 1046 0)) := congrArg ((g22 1100007)) (la_row_185 h1593_)
    have e1809_ : g22 1100007 (g58 1100025 (g58 1046 0)) = g22 1100007 (g48 1046 0) := congrArg ((g22 1100007)) (la_row_185 h1593_)
    have e1810_ : g22 1100007 (g58 1100025 (g58 1046 0)) = g22 1100007 (g48 1100023 (g48 1046 0)) := congrArg ((g22 1100007)) (la_row_185 h1593_)
    have e1811_ : g22 1100007 (g58 1100025 (g58 1046 0)) = g22 1100007 (g48 1100025 (g48 1046 0)) := congrArg ((g22 1100007)) h1551_
    have e1812_ : g22 1100007 (g58 1100025 (g58 1046 0)) = g22 1100007 (g58 1046 0) := congrArg ((g22 1100007)) (la_row_185 h1593_)
    have e1813_ : g22 1100007 (g58 1100025 (g58 1046 0)) = g22 1100007 (g58 1100023 (g58 1046 0)) := congrArg ((g22 1100007)) (la_row_185 h1593_)
    have e1814_ : g22 1100023 (g22 1100023 (g22 1046 0)) = g22 1100023 (g22 1046 0) := congrArg ((g22 1100023)) (la_row_185 h1593_)
    have e1815_ : g22 1100023 (g41 1046 0) = g22 1100023 (g22 1046 0) := congrArg ((g22 1100023)) (la_row_185 h1593_)
    have e1816_ : g22 1100023 (g41 1046 0) = g22 1100023 (g22 1100023 (g22 1046 0)) := congrArg ((g22 1100023)) (la_row_185 h1593_)
    have e1817_ : g22 1100023 (g48 1046 0) = g22 1100023 (g22 1046 0) := congrArg ((g22 1100023)) (la_row_185 h1593_)
    have e1818_ : g22 1100023 (g48 1046 0) = g22 1100023 (g22 1100023 (g22 1046 0)) := congrArg ((g22 1100023)) (la_row_185 h1593_)
    have e1819_ : g22 1100023 (g48 1046 0) = g22 1100023 (g41 1046 0) := congrArg ((g22 1100023)) (la_row_185 h1593_)
    have e1820_ : g22 1100023 (g58 1046 0) = g22 1100023 (g22 1046 0) := congrArg ((g22 1100023)) (la_row_185 h1593_)
    have e1821_ : g22 1100023 (g58 1046 0) = g22 1100023 (g22 1100023 (g22 1046 0)) := congrArg ((g22 1100023)) (la_row_185 h1593_)
    have e1822_ : g22 1100023 (g58 1046 0) = g22 1100023 (g41 1046 0) := congrArg ((g22 1100023)) (la_row_185 h1593_)
    have e1823_ : g22 1100023 (g58 1046 0) = g22 1100023 (g48 1046 0) := congrArg ((g22 1100023)) (la_row_185 h1593_)
    have e1824_ : g22 1100024 (g41 1046 0) = g22 1100024 (g22 1046 0) := congrArg ((g22 1100024)) (la_row_185 h1593_)
    have e1825_ : g22 1100024 (g48 1046 0) = g22 1100024 (g22 1046 0) := congrArg ((g22 1100024)) (la_row_185 h1593_)
    have e1826_ : g22 1100024 (g48 1046 0) = g22 1100024 (g41 1046 0) := congrArg ((g22 1100024)) (la_row_185 h1593_)
    have e1827_ : g22 1100024 (g58 1046 0) = g22 1100024 (g22 1046 0) := congrArg ((g22 1100024)) (la_row_185 h1593_)
    have e1828_ : g22 1100024 (g58 1046 0) = g22 1100024 (g41 1046 0) := congrArg ((g22 1100024)) (la_row_185 h1593_)
    have e1829_ : g22 1100024 (g58 1046 0) = g22 1100024 (g48 1046 0) := congrArg ((g22 1100024)) (la_row_185 h1593_)
    have e1830_ : g22 1100025 (g22 1100025 (g22 1046 0)) = g22 1100025 (g22 1046 0) := congrArg ((g22 1100025)) (la_row_185 h1593_)
    have e1831_ : g22 1100025 (g41 1046 0) = g22 1100025 (g22 1046 0) := congrArg ((g22 1100025)) (la_row_185 h1593_)
    have e1832_ : g22 1100025 (g41 1046 0) = g22 1100025 (g22 1100025 (g22 1046 0)) := congrArg ((g22 1100025)) (la_row_185 h1593_)
    have e1833_ : g22 1100025 (g48 1046 0) = g22 1100025 (g22 1046 0) := congrArg ((g22 1100025)) (la_row_185 h1593_)
    have e1834_ : g22 1100025 (g48 1046 0) = g22 1100025 (g22 1100025 (g22 1046 0)) := congrArg ((g22 1100025)) (la_row_185 h1593_)
    have e1835_ : g22 1100025 (g48 1046 0) = g22 1100025 (g41 1046 0) := congrArg ((g22 1100025)) (la_row_185 h1593_)
    have e1836_ : g22 1100025 (g58 1046 0) = g22 1100025 (g22 1046 0) := congrArg ((g22 1100025)) (la_row_185 h1593_)
    have e1837_ : g22 1100025 (g58 1046 0) = g22 1100025 (g22 1100025 (g22 1046 0)) := congrArg ((g22 1100025)) (la_row_185 h1593_)
    have e1838_ : g22 1100025 (g58 1046 0) = g22 1100025 (g41 1046 0) := congrArg ((g22 1100025)) (la_row_185 h1593_)
    have e1839_ : g22 1100025 (g58 1046 0) = g22 1100025 (g48 1046 0) := congrArg ((g22 1100025)) (la_row_185 h1593_)
    have e1840_ : g22 26 (g41 1046 0) = g22 26 (g22 1046 0) := congrArg ((g22 26)) (la_row_185 h1593_)
    have e1841_ : g22 29 (g41 1046 0) = g22 29 (g22 1046 0) := congrArg ((g22 29)) (la_row_185 h1593_)
    have e1842_ : g41 1100007 (g41 1100023 (g41 1046 0)) = g41 1100007 (g41 1046 0) := congrArg ((g41 1100007)) (la_row_185 h1593_)
    have e1843_ : g41 1100007 (g41 1100023 (g41 1100023 (g41 1046 0))) = g41 1100007 (g41 1046 0) := congrArg ((g41 1100007)) (la_row_185 h1593_)
    have e1844_ : g41 1100007 (g41 1100023 (g41 1100023 (g41 1046 0))) = g41 1100007 (g41 1100023 (g41 1046 0)) := congrArg ((g41 1100007)) (la_row_185 h1593_)
    have e1845_ : g41 1100007 (g41 1100025 (g41 1046 0)) = g41 1100007 (g41 1046 0) := congrArg ((g41 1100007)) (la_row_185 h1593_)
    have e1846_ : g41 1100007 (g41 1100025 (g41 1046 0)) = g41 1100007 (g41 1100023 (g41 1046 0)) := congrArg ((g41 1100007)) (la_row_185 h1593_)
    have e1847_ : g41 1100007 (g41 1100025 (g41 1046 0)) = g41 1100007 (g41 1100023 (g41 1100023 (g41 1046 0))) := congrArg ((g41 1100007)) (la_row_185 h1593_)
    have e1848_ : g41 1100007 (g48 1046 0) = g41 1100007 (g41 1046 0) := congrArg ((g41 1100007)) (la_row_185 h1593_)
    have e1849_ : g41 1100007 (g48 1046 0) = g41 1100007 (g41 1100023 (g41 1046 0)) := congrArg ((g41 1100007)) (la_row_185 h1593_)
    have e1850_ : g41 1100007 (g48 1046 0) = g41 1100007 (g41 1100023 (g41 1100023 (g41 1046 0))) := congrArg ((g41 1100007)) (la_row_185 h1593_)
    have e1851_ : g41 1100007 (g48 1046 0) = g41 1100007 (g41 1100025 (g41 1046 0)) := congrArg ((g41 1100007)) (la_row_185 h1593_)
    have e1852_ : g41 1100007 (g48 1100023 (g48 1046 0)) = g41 1100007 (g41 1046 0) := congrArg ((g41 1100007)) (la_row_185 h1593_)
    have e1853_ : g41 1100007 (g48 1100023 (g48 1046 0)) = g41 1100007 (g41 1100023 (g41 1046 0)) := congrArg ((g41 1100007)) (la_row_185 h1593_)
    have e1854_ : g41 1100007 (g48 1100023 (g48 1046 0)) = g41 1100007 (g41 1100023 (g41 1100023 (g41 1046 0))) := congrArg ((g41 1100007)) (la_row_185 h1593_)
    have e1855_ : g41 1100007 (g48 1100023 (g48 1046 0)) = g41 1100007 (g41 1100025 (g41 1046 0)) := congrArg ((g41 1100007)) (la_row_185 h1593_)
    have e1856_ : g41 1100007 (g48 1100023 (g48 1046 0)) = g41 1100007 (g48 1046 0) := congrArg ((g41 1100007)) (la_row_185 h1593_)
    have e1857_ : g41 1100007 (g48 1100025 (g48 1046 0)) = g41 1100007 (g41 1046 0) := congrArg ((g41 1100007)) (la_row_185 h1593_)
    have e1858_ : g41 1100007 (g48 1100025 (g48 1046 0)) = g41 1100007 (g41 1100023 (g41 1046 0)) := congrArg ((g41 1100007)) (la_row_185 h1593_)
    have e1859_ : g41 1100007 (g48 1100025 (g48 1046 0)) = g41 1100007 (g41 1100023 (g41 1100023 (g41 1046 0))) := congrArg ((g41 1100007)) (la_row_185 h1593_)
    have e1860_ : g41 1100007 (g48 1100025 (g48 1046 0)) = g41 1100007 (g41 1100025 (g41 1046 0)) := congrArg ((g41 1100007)) (la_row_185 h1593_)
    have e1861_ : g41 1100007 (g48 1100025 (g48 1046 0)) = g41 1100007 (g48 1046 0) := congrArg ((g41 1100007)) (la_row_185 h1593_)
    have e1862_ : g41 1100007 (g48 1100025 (g48 1046 0)) = g41 1100007 (g48 1100023 (g48 1046 0)) := congrArg ((g41 1100007)) (la_row_185 h1593_)
    have e1863_ : g41 1100007 (g58 1046 0) = g41 1100007 (g41 1046 0) := congrArg ((g41 1100007)) (la_row_185 h1593_)
    have e1864_ : g41 1100007 (g58 1046 0) = g41 1100007 (g41 1100023 (g41 1046 0)) := congrArg ((g41 1100007)) (la_row_185 h1593_)
    have e1865_ : g41 1100007 (g58 1046 0) = g41 1100007 (g41 1100023 (g41 1100023 (g41 1046 0))) := congrArg ((g41 1100007)) (la_row_185 h1593_)
    have e1866_ : g41 1100007 (g58 1046 0) = g41 1100007 (g41 1100025 (g41 1046 0)) := congrArg ((g41 1100007)) (la_row_185 h1593_)
    have e1867_ : g41 1100007 (g58 1046 0) = g41 1100007 (g48 1046 0) := congrArg ((g41 1100007)) (la_row_185 h1593_)
    have e1868_ : g41 1100007 (g58 1046 0) = g41 1100007 (g48 1100023 (g48 1046 0)) := congrArg ((g41 1100007)) (la_row_185 h1593_)
    have e1869_ : g41 1100007 (g58 1046 0) = g41 1100007 (g48 1100025 (g48 1046 0)) := congrArg ((g41 1100007)) (la_row_185 h1593_)
    have e1870_ : g41 1100007 (g58 1100023 (g58 1046 0)) = g41 1100007 (g41 1046 0) := congrArg ((g41 1100007)) (la_row_185 h1593_)
    have e1871_ : g41 1100007 (g58 1100023 (g58 1046 0)) = g41 1100007 (g41 1100023 (g41 1046 0)) := congrArg ((g41 1100007)) (la_row_185 h1593_)
    have e1872_ : g41 1100007 (g58 1100023 (g58 1046 0)) = g41 1100007 (g41 1100023 (g41 1100023 (g41 1046 0))) := congrArg ((g41 1100007)) (la_row_185 h1593_)
    have e1873_ : g41 1100007 (g58 1100023 (g58 1046 0)) = g41 1100007 (g41 1100025 (g41 1046 0)) := congrArg ((g41 1100007)) (la_row_185 h1593_)
    have e1874_ : g41 1100007 (g58 1100023 (g58 1046 0)) = g41 1100007 (g48 1046 0) := congrArg ((g41 1100007)) (la_row_185 h1593_)
    have e1875_ : g41 1100007 (g58 1100023 (g58 1046 0)) = g41 1100007 (g48 1100023 (g48 1046 0)) := congrArg ((g41 1100007)) h1549_
    have e1876_ : g41 1100007 (g58 1100023 (g58 1046 0)) = g41 1100007 (g48 1100025 (g48 1046 0)) := congrArg ((g41 1100007)) (la_row_185 h1593_)
    have e1877_ : g41 1100007 (g58 1100023 (g58 1046 0)) = g41 1100007 (g58 1046 0) := congrArg ((g41 1100007)) (la_row_185 h1593_)
    have e1878_ : g41 1100007 (g58 1100025 (g58 1046 0)) = g41 1100007 (g41 1046 0) := congrArg ((g41 1100007)) (la_row_185 h1593_)
    have e1879_ : g41 1100007 (g58 1100025 (g58 1046 0)) = g41 1100007 (g41 1100023 (g41 1046 0)) := congrArg ((g41 1100007)) (la_row_185 h1593_)
    have e1880_ : g41 1100007 (g58 1100025 (g58 1046 0)) = g41 1100007 (g41 1100023 (g41 1100023 (g41 1046 0))) := congrArg ((g41 1100007)) (la_row_185 h1593_)
    have e1881_ : g41 1100007 (g58 1100025 (g58 1046 0)) = g41 1100007 (g41 1100025 (g41 1046 0)) := congrArg ((g41 1100007)) (la_row_185 h1593_)
    have e1882_ : g41 1100007 (g58 1100025 (g58 1046 0)) = g41 1100007 (g48 1046 0) := congrArg ((g41 1100007)) (la_row_185 h1593_)
    have e1883_ : g41 1100007 (g58 1100025 (g58 1046 0)) = g41 1100007 (g48 1100023 (g48 1046 0)) := congrArg ((g41 1100007)) (la_row_185 h1593_)
    have e1884_ : g41 1100007 (g58 1100025 (g58 1046 0)) = g41 1100007 (g48 1100025 (g48 1046 0)) := congrArg ((g41 1100007)) h1551_
    have e1885_ : g41 1100007 (g58 1100025 (g58 1046 0)) = g41 1100007 (g58 1046 0) := congrArg ((g41 1100007)) (la_row_185 h1593_)
    have e1886_ : g41 1100007 (g58 1100025 (g58 1046 0)) = g41 1100007 (g58 1100023 (g58 1046 0)) := congrArg ((g41 1100007)) (la_row_185 h1593_)
    have e1887_ : g41 1100007 (g65 1046 0) = g41 1100007 (g41 1046 0) := congrArg ((g41 1100007)) (la_row_185 h1593_)
    have e1888_ : g41 1100007 (g65 1046 0) = g41 1100007 (g41 1100023 (g41 1046 0)) := congrArg ((g41 1100007)) (la_row_185 h1593_)
    have e1889_ : g41 1100007 (g65 1046 0) = g41 1100007 (g41 1100023 (g41 1100023 (g41 1046 0))) := congrArg ((g41 1100007)) (la_row_185 h1593_)
    have e1890_ : g41 1100007 (g65 1046 0) = g41 1100007 (g41 1100025 (g41 1046 0)) := congrArg ((g41 1100007)) (la_row_185 h1593_)
    have e1891_ : g41 1100007 (g65 1046 0) = g41 1100007 (g48 1046 0) := congrArg ((g41 1100007)) (la_row_185 h1593_)
    have e1892_ : g41 1100007 (g65 1046 0) = g41 1100007 (g48 1100023 (g48 1046 0)) := congrArg ((g41 1100007)) (la_row_185 h1593_)
    have e1893_ : g41 1100007 (g65 1046 0) = g41 1100007 (g48 1100025 (g48 1046 0)) := congrArg ((g41 1100007)) (la_row_185 h1593_)
    have e1894_ : g41 1100007 (g65 1046 0) = g41 1100007 (g58 1046 0) := congrArg ((g41 1100007)) (la_row_185 h1593_)
    have e1895_ : g41 1100007 (g65 1046 0) = g41 1100007 (g58 1100023 (g58 1046 0)) := congrArg ((g41 1100007)) (la_row_185 h1593_)
    have e1896_ : g41 1100007 (g65 1046 0) = g41 1100007 (g58 1100025 (g58 1046 0)) := congrArg ((g41 1100007)) (la_row_185 h1593_)
    have e1897_ : g41 1100007 (g65 1100023 (g65 1046 0)) = g41 1100007 (g41 1046 0) := congrArg ((g41 1100007)) (la_row_185 h1593_)
    have e1898_ : g41 1100007 (g65 1100023 (g65 1046 0)) = g41 1100007 (g41 1100023 (g41 1046 0)) := congrArg ((g41 1100007)) (la_row_185 h1593_)
    have e1899_ : g41 1100007 (g65 1100023 (g65 1046 0)) = g41 1100007 (g41 1100023 (g41 1100023 (g41 1046 0))) := congrArg ((g41 1100007)) (la_row_185 h1593_)
    have e1900_ : g41 1100007 (g65 1100023 (g65 1046 0)) = g41 1100007 (g41 1100025 (g41 1046 0)) := congrArg ((g41 1100007)) (la_row_185 h1593_)
    have e1901_ : g41 1100007 (g65 1100023 (g65 1046 0)) = g41 1100007 (g48 1046 0) := congrArg ((g41 1100007)) (la_row_185 h1593_)
    have e1902_ : g41 1100007 (g65 1100023 (g65 1046 0)) = g41 1100007 (g48 1100023 (g48 1046 0)) := congrArg ((g41 1100007)) (la_row_185 h1593_)
    have e1903_ : g41 1100007 (g65 1100023 (g65 1046 0)) = g41 1100007 (g48 1100025 (g48 1046 0)) := congrArg ((g41 1100007)) (la_row_185 h1593_)
    have e1904_ : g41 1100007 (g65 1100023 (g65 1046 0)) = g41 1100007 (g58 1046 0) := congrArg ((g41 1100007)) (la_row_185 h1593_)
    have e1905_ : g41 1100007 (g65 1100023 (g65 1046 0)) = g41 1100007 (g58 1100023 (g58 1046 0)) := congrArg ((g41 1100007)) (la_row_185 h1593_)
    have e1906_ : g41 1100007 (g65 1100023 (g65 1046 0)) = g41 1100007 (g58 1100025 (g58 1046 0)) := congrArg ((g41 1100007)) (la_row_185 h1593_)
    have e1907_ : g41 1100007 (g65 1100023 (g65 1046 0)) = g41 1100007 (g65 1046 0) := congrArg ((g41 1100007)) (la_row_185 h1593_)
    have e1908_ : g41 1100007 (g65 1100025 (g65 1046 0)) = g41 1100007 (g41 1046 0) := congrArg ((g41 1100007)) (la_row_185 h1593_)
    have e1909_ : g41 1100007 (g65 1100025 (g65 1046 0)) = g41 1100007 (g41 1100023 (g41 1046 0)) := congrArg ((g41 1100007)) (la_row_185 h1593_)
    have e1910_ : g41 1100007 (g65 1100025 (g65 1046 0)) = g41 1100007 (g41 1100023 (g41 1100023 (g41 1046 0))) := congrArg ((g41 1100007)) (la_row_185 h1593_)
    have e1911_ : g41 1100007 (g65 1100025 (g65 1046 0)) = g41 1100007 (g41 1100025 (g41 1046 0)) := congrArg ((g41 1100007)) (la_row_185 h1593_)
    have e1912_ : g41 1100007 (g65 1100025 (g65 1046 0)) = g41 1100007 (g48 1046 0) := congrArg ((g41 1100007)) (la_row_185 h1593_)
    have e1913_ : g41 1100007 (g65 1100025 (g65 1046 0)) = g41 1100007 (g48 1100023 (g48 1046 0)) := congrArg ((g41 1100007)) (la_row_185 h1593_)
    have e1914_ : g41 1100007 (g65 1100025 (g65 1046 0)) = g41 1100007 (g48 1100025 (g48 1046 0)) := congrArg ((g41 1100007)) (la_row_185 h1593_)
    have e1915_ : g41 1100007 (g65 1100025 (g65 1046 0)) = g41 1100007 (g58 1046 0) := congrArg ((g41 1100007)) (la_row_185 h1593_)
    have e1916_ : g41 1100007 (g65 1100025 (g65 1046 0)) = g41 1100007 (g58 1100023 (g58 1046 0)) := congrArg ((g41 1100007)) (la_row_185 h1593_)
    have e1917_ : g41 1100007 (g65 1100025 (g65 1046 0)) = g41 1100007 (g58 1100025 (g58 1046 0)) := congrArg ((g41 1100007)) (la_row_185 h1593_)
    have e1918_ : g41 1100007 (g65 1100025 (g65 1046 0)) = g41 1100007 (g65 1046 0) := congrArg ((g41 1100007)) (la_row_185 h1593_)
    have e1919_ : g41 1100007 (g65 1100025 (g65 1046 0)) = g41 1100007 (g65 1100023 (g65 1046 0)) := congrArg ((g41 1100007)) (la_row_185 h1593_)
    have e1920_ : g41 1100023 (g41 1100023 (g41 1046 0)) = g41 1100023 (g41 1046 0) := congrArg ((g41 1100023)) (la_row_185 h1593_)
    have e1921_ : g41 1100023 (g48 1046 0) = g41 1100023 (g41 1046 0) := congrArg ((g41 1100023)) (la_row_185 h1593_)
    have e1922_ : g41 1100023 (g48 1046 0) = g41 1100023 (g41 1100023 (g41 1046 0)) := congrArg ((g41 1100023)) (la_row_185 h1593_)
    have e1923_ : g41 1100023 (g58 1046 0) = g41 1100023 (g41 1046 0) := congrArg ((g41 1100023)) (la_row_185 h1593_)
    have e1924_ : g41 1100023 (g58 1046 0) = g41 1100023 (g41 1100023 (g41 1046 0)) := congrArg ((g41 1100023)) (la_row_185 h1593_)
    have e1925_ : g41 1100023 (g58 1046 0) = g41 1100023 (g48 1046 0) := congrArg ((g41 1100023)) (la_row_185 h1593_)
    have e1926_ : g41 1100023 (g65 1046 0) = g41 1100023 (g41 1046 0) := congrArg ((g41 1100023)) (la_row_185 h1593_)
    have e1927_ : g41 1100023 (g65 1046 0) = g41 1100023 (g41 1100023 (g41 1046 0)) := congrArg ((g41 1100023)) (la_row_185 h1593_)
    have e1928_ : g41 1100023 (g65 1046 0) = g41 1100023 (g48 1046 0) := congrArg ((g41 1100023)) (la_row_185 h1593_)
    have e1929_ : g41 1100023 (g65 1046 0) = g41 1100023 (g58 1046 0) := congrArg ((g41 1100023)) (la_row_185 h1593_)
    have e1930_ : g41 1100024 (g48 1046 0) = g41 1100024 (g41 1046 0) := congrArg ((g41 1100024)) (la_row_185 h1593_)
    have e1931_ : g41 1100024 (g58 1046 0) = g41 1100024 (g41 1046 0) := congrArg ((g41 1100024)) (la_row_185 h1593_)
    have e1932_ : g41 1100024 (g58 1046 0) = g41 1100024 (g48 1046 0) := congrArg ((g41 1100024)) (la_row_185 h1593_)
    have e1933_ : g41 1100024 (g65 1046 0) = g41 1100024 (g41 1046 0) := congrArg ((g41 1100024)) (la_row_185 h1593_)
    have e1934_ : g41 1100024 (g65 1046 0) = g41 1100024 (g48 1046 0) := congrArg ((g41 1100024)) (la_row_185 h1593_)
    have e1935_ : g41 1100024 (g65 1046 0) = g41 1100024 (g58 1046 0) := congrArg ((g41 1100024)) (la_row_185 h1593_)
    have e1936_ : g41 1100025 (g41 1100025 (g41 1046 0)) = g41 1100025 (g41 1046 0) := congrArg ((g41 1100025)) (la_row_185 h1593_)
    have e1937_ : g41 1100025 (g48 1046 0) = g41 1100025 (g41 1046 0) := congrArg ((g41 1100025)) (la_row_185 h1593_)
    have e1938_ : g41 1100025 (g48 1046 0) = g41 1100025 (g41 1100025 (g41 1046 0)) := congrArg ((g41 1100025)) (la_row_185 h1593_)
    have e1939_ : g41 1100025 (g58 1046 0) = g41 1100025 (g41 1046 0) := congrArg ((g41 1100025)) (la_row_185 h1593_)
    have e1940_ : g41 1100025 (g58 1046 0) = g41 1100025 (g41 1100025 (g41 1046 0)) := congrArg ((g41 1100025)) (la_row_185 h1593_)
    have e1941_ : g41 1100025 (g58 1046 0) = g41 1100025 (g48 1046 0) := congrArg ((g41 1100025)) (la_row_185 h1593_)
    have e1942_ : g41 1100025 (g65 1046 0) = g41 1100025 (g41 1046 0) := congrArg ((g41 1100025)) (la_row_185 h1593_)
    have e1943_ : g41 1100025 (g65 1046 0) = g41 1100025 (g41 1100025 (g41 1046 0)) := congrArg ((g41 1100025)) (la_row_185 h1593_)
    have e1944_ : g41 1100025 (g65 1046 0) = g41 1100025 (g48 1046 0) := congrArg ((g41 1100025)) (la_row_185 h1593_)
    have e1945_ : g41 1100025 (g65 1046 0) = g41 1100025 (g58 1046 0) := congrArg ((g41 1100025)) (la_row_185 h1593_)
    have e1946_ : g41 26 (g41 1046 0) = g41 26 (g22 1046 0) := congrArg ((g41 26)) (la_row_185 h1593_)
    have e1947_ : g41 26 (g58 1046 0) = g41 26 (g22 1046 0) := congrArg ((g41 26)) (la_row_185 h1593_)
    have e1948_ : g41 26 (g58 1046 0) = g41 26 (g41 1046 0) := congrArg ((g41 26)) (la_row_185 h1593_)
    have e1949_ : g41 29 (g41 1046 0) = g41 29 (g22 1046 0) := congrArg ((g41 29)) (la_row_185 h1593_)
    have e1950_ : g41 29 (g58 1046 0) = g41 29 (g22 1046 0) := congrArg ((g41 29)) (la_row_185 h1593_)
    have e1951_ : g41 29 (g58 1046 0) = g41 29 (g41 1046 0) := congrArg ((g41 29)) (la_row_185 h1593_)
    have e1952_ : g48 1100007 (g48 1100023 (g48 1046 0)) = g48 1100007 (g48 1046 0) := congrArg ((g48 1100007)) (la_row_185 h1593_)
    have e1953_ : g48 1100007 (g48 1100025 (g48 1046 0)) = g48 1100007 (g48 1046 0) := congrArg ((g48 1100007)) (la_row_185 h1593_)
    have e1954_ : g48 1100007 (g48 1100025 (g48 1046 0)) = g48 1100007 (g48 1100023 (g48 1046 0)) := congrArg ((g48 1100007)) (la_row_185 h1593_)
    have e1955_ : g48 1100007 (g58 1046 0) = g48 1100007 (g48 1046 0) := congrArg ((g48 1100007)) (la_row_185 h1593_)
    have e1956_ : g48 1100007 (g58 1046 0) = g48 1100007 (g48 1100023 (g48 1046 0)) := congrArg ((g48 1100007)) (la_row_185 h1593_)
    have e1957_ : g48 1100007 (g58 1046 0) = g48 1100007 (g48 1100025 (g48 1046 0)) := congrArg ((g48 1100007)) (la_row_185 h1593_)
    have e1958_ : g48 1100007 (g58 1100023 (g58 1046 0)) = g48 1100007 (g48 1046 0) := congrArg ((g48 1100007)) (la_row_185 h1593_)
    have e1959_ : g48 1100007 (g58 1100023 (g58 1046 0)) = g48 1100007 (g48 1100023 (g48 1046 0)) := congrArg ((g48 1100007)) h1549_
    have e1960_ : g48 1100007 (g58 1100023 (g58 1046 0)) = g48 1100007 (g48 1100025 (g48 1046 0)) := congrArg ((g48 1100007)) (la_row_185 h1593_)
    have e1961_ : g48 1100007 (g58 1100023 (g58 1046 0)) = g48 1100007 (g58 1046 0) := congrArg ((g48 1100007)) (la_row_185 h1593_)
    have e1962_ : g48 1100007 (g58 1100025 (g58 1046 0)) = g48 1100007 (g48 1046 0) := congrArg ((g48 1100007)) (la_row_185 h1593_)
    have e1963_ : g48 1100007 (g58 1100025 (g58 1046 0)) = g48 1100007 (g48 1100023 (g48 1046 0)) := congrArg ((g48 1100007)) (la_row_185 h1593_)
    have e1964_ : g48 1100007 (g58 1100025 (g58 1046 0)) = g48 1100007 (g48 1100025 (g48 1046 0)) := congrArg ((g48 1100007)) h1551_
    have e1965_ : g48 1100007 (g58 1100025 (g58 1046 0)) = g48 1100007 (g58 1046 0) := congrArg ((g48 1100007)) (la_row_185 h1593_)
    have e1966_ : g48 1100007 (g58 1100025 (g58 1046 0)) = g48 1100007 (g58 1100023 (g58 1046 0)) := congrArg ((g48 1100007)) (la_row_185 h1593_)
    have e1967_ : g48 1100007 (g65 1046 0) = g48 1100007 (g48 1046 0) := congrArg ((g48 1100007)) (la_row_185 h1593_)
    have e1968_ : g48 1100007 (g65 1046 0) = g48 1100007 (g48 1100023 (g48 1046 0)) := congrArg ((g48 1100007)) (la_row_185 h1593_)
    have e1969_ : g48 1100007 (g65 1046 0) = g48 1100007 (g48 1100025 (g48 1046 0)) := congrArg ((g48 1100007)) (la_row_185 h1593_)
    have e1970_ : g48 1100007 (g65 1046 0) = g48 1100007 (g58 1046 0) := congrArg ((g48 1100007)) (la_row_185 h1593_)
    have e1971_ : g48 1100007 (g65 1046 0) = g48 1100007 (g58 1100023 (g58 1046 0)) := congrArg ((g48 1100007)) (la_row_185 h1593_)
    have e1972_ : g48 1100007 (g65 1046 0) = g48 1100007 (g58 1100025 (g58 1046 0)) := congrArg ((g48 1100007)) (la_row_185 h1593_)
    have e1973_ : g48 1100007 (g65 1100023 (g65 1046 0)) = g48 1100007 (g48 1046 0) := congrArg ((g48 1100007)) (la_row_185 h1593_)
    have e1974_ : g48 1100007 (g65 1100023 (g65 1046 0)) = g48 1100007 (g48 1100023 (g48 1046 0)) := congrArg ((g48 1100007)) (la_row_185 h1593_)
    have e1975_ : g48 1100007 (g65 1100023 (g65 1046 0)) = g48 1100007 (g48 1100025 (g48 1046 0)) := congrArg ((g48 1100007)) (la_row_185 h1593_)
    have e1976_ : g48 1100007 (g65 1100023 (g65 1046 0)) = g48 1100007 (g58 1046 0) := congrArg ((g48 1100007)) (la_row_185 h1593_)
    have e1977_ : g48 1100007 (g65 1100023 (g65 1046 0)) = g48 1100007 (g58 1100023 (g58 1046 0)) := congrArg ((g48 1100007)) (la_row_185 h1593_)
    have e1978_ : g48 1100007 (g65 1100023 (g65 1046 0)) = g48 1100007 (g58 1100025 (g58 1046 0)) := congrArg ((g48 1100007)) (la_row_185 h1593_)
    have e1979_ : g48 1100007 (g65 1100023 (g65 1046 0)) = g48 1100007 (g65 1046 0) := congrArg ((g48 1100007)) (la_row_185 h1593_)
    have e1980_ : g48 1100007 (g65 1100025 (g65 1046 0)) = g48 1100007 (g48 1046 0) := congrArg ((g48 1100007)) (la_row_185 h1593_)
    have e1981_ : g48 1100007 (g65 1100025 (g65 1046 0)) = g48 1100007 (g48 1100023 (g48 1046 0)) := congrArg ((g48 1100007)) (la_row_185 h1593_)
    have e1982_ : g48 1100007 (g65 1100025 (g65 1046 0)) = g48 1100007 (g48 1100025 (g48 1046 0)) := congrArg ((g48 1100007)) (la_row_185 h1593_)
    have e1983_ : g48 1100007 (g65 1100025 (g65 1046 0)) = g48 1100007 (g58 1046 0) := congrArg ((g48 1100007)) (la_row_185 h1593_)
    have e1984_ : g48 1100007 (g65 1100025 (g65 1046 0)) = g48 1100007 (g58 1100023 (g58 1046 0)) := congrArg ((g48 1100007)) (la_row_185 h1593_)
    have e1985_ : g48 1100007 (g65 1100025 (g65 1046 0)) = g48 1100007 (g58 1100025 (g58 1046 0)) := congrArg ((g48 1100007)) (la_row_185 h1593_)
    have e1986_ : g48 1100007 (g65 1100025 (g65 1046 0)) = g48 1100007 (g65 1046 0) := congrArg ((g48 1100007)) (la_row_185 h1593_)
    have e1987_ : g48 1100007 (g65 1100025 (g65 1046 0)) = g48 1100007 (g65 1100023 (g65 1046 0)) := congrArg ((g48 1100007)) (la_row_185 h1593_)
    have e1988_ : g48 1100023 (g58 1046 0) = g48 1100023 (g48 1046 0) := congrArg ((g48 1100023)) (la_row_185 h1593_)
    have e1989_ : g48 1100023 (g65 1046 0) = g48 1100023 (g48 1046 0) := congrArg ((g48 1100023)) (la_row_185 h1593_)
    have e1990_ : g48 1100023 (g65 1046 0) = g48 1100023 (g58 1046 0) := congrArg ((g48 1100023)) (la_row_185 h1593_)
    have e1991_ : g48 1100024 (g58 1046 0) = g48 1100024 (g48 1046 0) := congrArg ((g48 1100024)) (la_row_185 h1593_)
    have e1992_ : g48 1100024 (g65 1046 0) = g48 1100024 (g48 1046 0) := congrArg ((g48 1100024)) (la_row_185 h1593_)
    have e1993_ : g48 1100024 (g65 1046 0) = g48 1100024 (g58 1046 0) := congrArg ((g48 1100024)) (la_row_185 h1593_)
    have e1994_ : g48 1100025 (g58 1046 0) = g48 1100025 (g48 1046 0) := congrArg ((g48 1100025)) (la_row_185 h1593_)
    have e1995_ : g48 1100025 (g65 1046 0) = g48 1100025 (g48 1046 0) := congrArg ((g48 1100025)) (la_row_185 h1593_)
    have e1996_ : g48 1100025 (g65 1046 0) = g48 1100025 (g58 1046 0) := congrArg ((g48 1100025)) (la_row_185 h1593_)
    have e1997_ : g48 26 (g58 1046 0) = g48 26 (g41 1046 0) := congrArg ((g48 26)) (la_row_185 h1593_)
    have e1998_ : g48 29 (g58 1046 0) = g48 29 (g41 1046 0) := congrArg ((g48 29)) (la_row_185 h1593_)
    have e1999_ : g58 1100007 (g58 1100023 (g58 1046 0)) = g58 1100007 (g58 1046 0) := congrArg ((g58 1100007)) (la_row_185 h1593_)
    have e2000_ : g58 1100007 (g58 1100023 (g58 1100023 (g58 1046 0))) = g58 1100007 (g58 1046 0) := congrArg ((g58 1100007)) (la_row_185 h1593_)
    have e2001_ : g58 1100007 (g58 1100023 (g58 1100023 (g58 1046 0))) = g58 1100007 (g58 1100023 (g58 1046 0)) := congrArg ((g58 1100007)) (la_row_185 h1593_)
    have e2002_ : g58 1100007 (g58 1100025 (g58 1046 0)) = g58 1100007 (g58 1046 0) := congrArg ((g58 1100007)) (la_row_185 h1593_)
    have e2003_ : g58 1100007 (g58 1100025 (g58 1046 0)) = g58 1100007 (g58 1100023 (g58 1046 0)) := congrArg ((g58 1100007)) (la_row_185 h1593_)
    have e2004_ : g58 1100007 (g58 1100025 (g58 1046 0)) = g58 1100007 (g58 1100023 (g58 1100023 (g58 1046 0))) := congrArg ((g58 1100007)) (la_row_185 h1593_)
    have e2005_ : g58 1100007 (g65 1046 0) = g58 1100007 (g58 1046 0) := congrArg ((g58 1100007)) (la_row_185 h1593_)
    have e2006_ : g58 1100007 (g65 1046 0) = g58 1100007 (g58 1100023 (g58 1046 0)) := congrArg ((g58 1100007)) (la_row_185 h1593_)
    have e2007_ : g58 1100007 (g65 1046 0) = g58 1100007 (g58 1100023 (g58 1100023 (g58 1046 0))) := congrArg ((g58 1100007)) (la_row_185 h1593_)
    have e2008_ : g58 1100007 (g65 1046 0) = g58 1100007 (g58 1100025 (g58 1046 0)) := congrArg ((g58 1100007)) (la_row_185 h1593_)
    have e2009_ : g58 1100007 (g65 1100023 (g65 1046 0)) = g58 1100007 (g58 1046 0) := congrArg ((g58 1100007)) (la_row_185 h1593_)
    have e2010_ : g58 1100007 (g65 1100023 (g65 1046 0)) = g58 1100007 (g58 1100023 (g58 1046 0)) := congrArg ((g58 1100007)) (la_row_185 h1593_)
    have e2011_ : g58 1100007 (g65 1100023 (g65 1046 0)) = g58 1100007 (g58 1100023 (g58 1100023 (g58 1046 0))) := congrArg ((g58 1100007)) (la_row_185 h1593_)
    have e2012_ : g58 1100007 (g65 1100023 (g65 1046 0)) = g58 1100007 (g58 1100025 (g58 1046 0)) := congrArg ((g58 1100007)) (la_row_185 h1593_)
    have e2013_ : g58 1100007 (g65 1100023 (g65 1046 0)) = g58 1100007 (g65 1046 0) := congrArg ((g58 1100007)) (la_row_185 h1593_)
    have e2014_ : g58 1100007 (g65 1100025 (g65 1046 0)) = g58 1100007 (g58 1046 0) := congrArg ((g58 1100007)) (la_row_185 h1593_)
    have e2015_ : g58 1100007 (g65 1100025 (g65 1046 0)) = g58 1100007 (g58 1100023 (g58 1046 0)) := congrArg ((g58 1100007)) (la_row_185 h1593_)
    have e2016_ : g58 1100007 (g65 1100025 (g65 1046 0)) = g58 1100007 (g58 1100023 (g58 1100023 (g58 1046 0))) := congrArg ((g58 1100007)) (la_row_185 h1593_)
    have e2017_ : g58 1100007 (g65 1100025 (g65 1046 0)) = g58 1100007 (g58 1100025 (g58 1046 0)) := congrArg ((g58 1100007)) (la_row_185 h1593_)
    have e2018_ : g58 1100007 (g65 1100025 (g65 1046 0)) = g58 1100007 (g65 1046 0) := congrArg ((g58 1100007)) (la_row_185 h1593_)
    have e2019_ : g58 1100007 (g65 1100025 (g65 1046 0)) = g58 1100007 (g65 1100023 (g65 1046 0)) := congrArg ((g58 1100007)) (la_row_185 h1593_)
    have e2020_ : g58 1100023 (g58 1100023 (g58 1046 0)) = g58 1100023 (g58 1046 0) := congrArg ((g58 1100023)) (la_row_185 h1593_)
    have e2021_ : g58 1100023 (g65 1046 0) = g58 1100023 (g58 1046 0) := congrArg ((g58 1100023)) (la_row_185 h1593_)
    have e2022_ : g58 1100023 (g65 1046 0) = g58 1100023 (g58 1100023 (g58 1046 0)) := congrArg ((g58 1100023)) (la_row_185 h1593_)
    have e2023_ : g58 1100024 (g65 1046 0) = g58 1100024 (g58 1046 0) := congrArg ((g58 1100024)) (la_row_185 h1593_)
    have e2024_ : g58 1100025 (g58 1100025 (g58 1046 0)) = g58 1100025 (g58 1046 0) := congrArg ((g58 1100025)) (la_row_185 h1593_)
    have e2025_ : g58 1100025 (g65 1046 0) = g58 1100025 (g58 1046 0) := congrArg ((g58 1100025)) (la_row_185 h1593_)
    have e2026_ : g58 1100025 (g65 1046 0) = g58 1100025 (g58 1100025 (g58 1046 0)) := congrArg ((g58 1100025)) (la_row_185 h1593_)
    have e2027_ : g65 1100007 (g65 1100023 (g65 1046 0)) = g65 1100007 (g65 1046 0) := congrArg ((g65 1100007)) (la_row_185 h1593_)
    have e2028_ : g65 1100007 (g65 1100025 (g65 1046 0)) = g65 1100007 (g65 1046 0) := congrArg ((g65 1100007)) (la_row_185 h1593_)
    have e2029_ : g65 1100007 (g65 1100025 (g65 1046 0)) = g65 1100007 (g65 1100023 (g65 1046 0)) := congrArg ((g65 1100007)) (la_row_185 h1593_)
    have e2030_ : g65 1100023 (g65 1100023 (g65 1046 0)) = g65 1100023 (g65 1046 0) := congrArg ((g65 1100023)) (la_row_185 h1593_)
    have e2031_ : g65 1100025 (g65 1100025 (g65 1046 0)) = g65 1100025 (g65 1046 0) := congrArg ((g65 1100025)) (la_row_185 h1593_)
    have e2032_ : S 1100023 (g22 1100023 (g22 1046 0)) = S 1100023 (S 1046 0) := congrArg ((S 1100023)) (la_row_185 h1593_)
    have e2033_ : S 1100023 (g22 1100023 (g22 1046 0)) = S 1100023 (g22 1046 0) := congrArg ((S 1100023)) (la_row_185 h1593_)
    have e2034_ : S 1100023 (g41 1046 0) = S 1100023 (g22 1100023 (g22 1046 0)) := congrArg ((S 1100023)) (la_row_185 h1593_)
    have e2035_ : S 1100023 (g41 1100023 (g41 1046 0)) = S 1100023 (S 1046 0) := congrArg ((S 1100023)) (la_row_185 h1593_)
    have e2036_ : S 1100023 (g41 1100023 (g41 1046 0)) = S 1100023 (g22 1046 0) := congrArg ((S 1100023)) (la_row_185 h1593_)
    have e2037_ : S 1100023 (g41 1100023 (g41 1046 0)) = S 1100023 (g22 1100023 (g22 1046 0)) := congrArg ((S 1100023)) (la_row_185 h1593_)
    have e2038_ : S 1100023 (g41 1100023 (g41 1046 0)) = S 1100023 (g41 1046 0) := congrArg ((S 1100023)) (la_row_185 h1593_)
    have e2039_ : S 1100023 (g48 1046 0) = S 1100023 (g22 1100023 (g22 1046 0)) := congrArg ((S 1100023)) (la_row_185 h1593_)
    have e2040_ : S 1100023 (g48 1046 0) = S 1100023 (g41 1100023 (g41 1046 0)) := congrArg ((S 1100023)) (la_row_185 h1593_)
    have e2041_ : S 1100023 (g58 1046 0) = S 1100023 (S 1046 0) := congrArg ((S 1100023)) (la_row_185 h1593_)
    have e2042_ : S 1100023 (g58 1046 0) = S 1100023 (g22 1046 0) := congrArg ((S 1100023)) (la_row_185 h1593_)
    have e2043_ : S 1100023 (g58 1046 0) = S 1100023 (g22 1100023 (g22 1046 0)) := congrArg ((S 1100023)) (la_row_185 h1593_)
    have e2044_ : S 1100023 (g58 1046 0) = S 1100023 (g41 1046 0) := congrArg ((S 1100023)) (la_row_185 h1593_)
    have e2045_ : S 1100023 (g58 1046 0) = S 1100023 (g41 1100023 (g41 1046 0)) := congrArg ((S 1100023)) (la_row_185 h1593_)
    have e2046_ : S 1100023 (g58 1046 0) = S 1100023 (g48 1046 0) := congrArg ((S 1100023)) (la_row_185 h1593_)
    have e2047_ : S 1100023 (g65 1046 0) = S 1100023 (S 1046 0) := congrArg ((S 1100023)) (la_row_185 h1593_)
    have e2048_ : S 1100023 (g65 1046 0) = S 1100023 (g22 1046 0) := congrArg ((S 1100023)) (la_row_185 h1593_)
    have e2049_ : S 1100023 (g65 1046 0) = S 1100023 (g22 1100023 (g22 1046 0)) := congrArg ((S 1100023)) (la_row_185 h1593_)
    have e2050_ : S 1100023 (g65 1046 0) = S 1100023 (g41 1046 0) := congrArg ((S 1100023)) (la_row_185 h1593_)
    have e2051_ : S 1100023 (g65 1046 0) = S 1100023 (g41 1100023 (g41 1046 0)) := congrArg ((S 1100023)) (la_row_185 h1593_)
    have e2052_ : S 1100023 (g65 1046 0) = S 1100023 (g48 1046 0) := congrArg ((S 1100023)) (la_row_185 h1593_)
    have e2053_ : S 1100023 (g65 1046 0) = S 1100023 (g58 1046 0) := congrArg ((S 1100023)) (la_row_185 h1593_)
    have e2054_ : S 1100024 (g58 1046 0) = S 1100024 (S 1046 0) := congrArg ((S 1100024)) (la_row_185 h1593_)
    have e2055_ : S 1100024 (g58 1046 0) = S 1100024 (g22 1046 0) := congrArg ((S 1100024)) (la_row_185 h1593_)
    have e2056_ : S 1100024 (g58 1046 0) = S 1100024 (g41 1046 0) := congrArg ((S 1100024)) (la_row_185 h1593_)
    have e2057_ : S 1100024 (g58 1046 0) = S 1100024 (g48 1046 0) := congrArg ((S 1100024)) (la_row_185 h1593_)
    have e2058_ : S 1100024 (g65 1046 0) = S 1100024 (S 1046 0) := congrArg ((S 1100024)) (la_row_185 h1593_)
    have e2059_ : S 1100024 (g65 1046 0) = S 1100024 (g22 1046 0) := congrArg ((S 1100024)) (la_row_185 h1593_)
    have e2060_ : S 1100024 (g65 1046 0) = S 1100024 (g41 1046 0) := congrArg ((S 1100024)) (la_row_185 h1593_)
    have e2061_ : S 1100024 (g65 1046 0) = S 1100024 (g48 1046 0) := congrArg ((S 1100024)) (la_row_185 h1593_)
    have e2062_ : S 1100024 (g65 1046 0) = S 1100024 (g58 1046 0) := congrArg ((S 1100024)) (la_row_185 h1593_)
    have e2063_ : S 1100025 (g22 1100025 (g22 1046 0)) = S 1100025 (S 1046 0) := congrArg ((S 1100025)) (la_row_185 h1593_)
    have e2064_ : S 1100025 (g22 1100025 (g22 1046 0)) = S 1100025 (g22 1046 0) := congrArg ((S 1100025)) (la_row_185 h1593_)
    have e2065_ : S 1100025 (g41 1046 0) = S 1100025 (g22 1100025 (g22 1046 0)) := congrArg ((S 1100025)) (la_row_185 h1593_)
    have e2066_ : S 1100025 (g41 1100025 (g41 1046 0)) = S 1100025 (S 1046 0) := congrArg ((S 1100025)) (la_row_185 h1593_)
    have e2067_ : S 1100025 (g41 1100025 (g41 1046 0)) = S 1100025 (g22 1046 0) := congrArg ((S 1100025)) (la_row_185 h1593_)
    have e2068_ : S 1100025 (g41 1100025 (g41 1046 0)) = S 1100025 (g22 1100025 (g22 1046 0)) := congrArg ((S 1100025)) (la_row_185 h1593_)
    have e2069_ : S 1100025 (g41 1100025 (g41 1046 0)) = S 1100025 (g41 1046 0) := congrArg ((S 1100025)) (la_row_185 h1593_)
    have e2070_ : S 1100025 (g48 1046 0) = S 1100025 (g22 1100025 (g22 1046 0)) := congrArg ((S 1100025)) (la_row_185 h1593_)
    have e2071_ : S 1100025 (g48 1046 0) = S 1100025 (g41 1100025 (g41 1046 0)) := congrArg ((S 1100025)) (la_row_185 h1593_)
    have e2072_ : S 1100025 (g58 1046 0) = S 1100025 (S 1046 0) := congrArg ((S 1100025)) (la_row_185 h1593_)
    have e2073_ : S 1100025 (g58 1046 0) = S 1100025 (g22 1046 0) := congrArg ((S 1100025)) (la_row_185 h1593_)
    have e2074_ : S 1100025 (g58 1046 0) = S 1100025 (g22 1100025 (g22 1046 0)) := congrArg ((S 1100025)) (la_row_185 h1593_)
    have e2075_ : S 1100025 (g58 1046 0) = S 1100025 (g41 1046 0) := congrArg ((S 1100025)) (la_row_185 h1593_)
    have e2076_ : S 1100025 (g58 1046 0) = S 1100025 (g41 1100025 (g41 1046 0)) := congrArg ((S 1100025)) (la_row_185 h1593_)
    have e2077_ : S 1100025 (g58 1046 0) = S 1100025 (g48 1046 0) := congrArg ((S 1100025)) (la_row_185 h1593_)
    have e2078_ : S 1100025 (g65 1046 0) = S 1100025 (S 1046 0) := congrArg ((S 1100025)) (la_row_185 h1593_)
    have e2079_ : S 1100025 (g65 1046 0) = S 1100025 (g22 1046 0) := congrArg ((S 1100025)) (la_row_185 h1593_)
    have e2080_ : S 1100025 (g65 1046 0) = S 1100025 (g22 1100025 (g22 1046 0)) := congrArg ((S 1100025)) (la_row_185 h1593_)
    have e2081_ : S 1100025 (g65 1046 0) = S 1100025 (g41 1046 0) := congrArg ((S 1100025)) (la_row_185 h1593_)
    have e2082_ : S 1100025 (g65 1046 0) = S 1100025 (g41 1100025 (g41 1046 0)) := congrArg ((S 1100025)) (la_row_185 h1593_)
    have e2083_ : S 1100025 (g65 1046 0) = S 1100025 (g48 1046 0) := congrArg ((S 1100025)) (la_row_185 h1593_)
    have e2084_ : S 1100025 (g65 1046 0) = S 1100025 (g58 1046 0) := congrArg ((S 1100025)) (la_row_185 h1593_)
    have e2085_ : S 26 (g58 1046 0) = S 26 (g22 1046 0) := congrArg ((S 26)) (la_row_185 h1593_)
    have e2086_ : S 26 (g58 1046 0) = S 26 (g41 1046 0) := congrArg ((S 26)) (la_row_185 h1593_)
    have e2087_ : S 29 (g58 1046 0) = S 29 (g22 1046 0) := congrArg ((S 29)) (la_row_185 h1593_)
    have e2088_ : S 29 (g58 1046 0) = S 29 (g41 1046 0) := congrArg ((S 29)) (la_row_185 h1593_)
    have e2089_ : g22 1100023 (g41 1100023 (g41 1046 0)) = g22 1100023 (g22 1046 0) := congrArg ((g22 1100023)) (la_row_185 h1593_)
    have e2090_ : g22 1100023 (g41 1100023 (g41 1046 0)) = g22 1100023 (g22 1100023 (g22 1046 0)) := congrArg ((g22 1100023)) (la_row_185 h1593_)
    have e2091_ : g22 1100023 (g41 1100023 (g41 1046 0)) = g22 1100023 (g41 1046 0) := congrArg ((g22 1100023)) (la_row_185 h1593_)
    have e2092_ : g22 1100023 (g48 1046 0) = g22 1100023 (g41 1100023 (g41 1046 0)) := congrArg ((g22 1100023)) (la_row_185 h1593_)
    have e2093_ : g22 1100023 (g58 1046 0) = g22 1100023 (g41 1100023 (g41 1046 0)) := congrArg ((g22 1100023)) (la_row_185 h1593_)
    have e2094_ : g22 1100023 (g58 1100023 (g58 1046 0)) = g22 1100023 (g22 1046 0) := congrArg ((g22 1100023)) (la_row_185 h1593_)
    have e2095_ : g22 1100023 (g58 1100023 (g58 1046 0)) = g22 1100023 (g22 1100023 (g22 1046 0)) := congrArg ((g22 1100023)) (la_row_185 h1593_)
    have e2096_ : g22 1100023 (g58 1100023 (g58 1046 0)) = g22 1100023 (g41 1046 0) := congrArg ((g22 1100023)) (la_row_185 h1593_)
    have e2097_ : g22 1100023 (g58 1100023 (g58 1046 0)) = g22 1100023 (g41 1100023 (g41 1046 0)) := congrArg ((g22 1100023)) (la_row_185 h1593_)
    have e2098_ : g22 1100023 (g58 1100023 (g58 1046 0)) = g22 1100023 (g48 1046 0) := congrArg ((g22 1100023)) (la_row_185 h1593_)
    have e2099_ : g22 1100023 (g58 1100023 (g58 1046 0)) = g22 1100023 (g58 1046 0) := congrArg ((g22 1100023)) (la_row_185 h1593_)
    have e2100_ : g22 1100023 (g65 1046 0) = g22 1100023 (g22 1046 0) := congrArg ((g22 1100023)) (la_row_185 h1593_)
    have e2101_ : g22 1100023 (g65 1046 0) = g22 1100023 (g22 1100023 (g22 1046 0)) := congrArg ((g22 1100023)) (la_row_185 h1593_)
    have e2102_ : g22 1100023 (g65 1046 0) = g22 1100023 (g41 1046 0) := congrArg ((g22 1100023)) (la_row_185 h1593_)
    have e2103_ : g22 1100023 (g65 1046 0) = g22 1100023 (g41 1100023 (g41 1046 0)) := congrArg ((g22 1100023)) (la_row_185 h1593_)
    have e2104_ : g22 1100023 (g65 1046 0) = g22 1100023 (g48 1046 0) := congrArg ((g22 1100023)) (la_row_185 h1593_)
    have e2105_ : g22 1100023 (g65 1046 0) = g22 1100023 (g58 1046 0) := congrArg ((g22 1100023)) (la_row_185 h1593_)
    have e2106_ : g22 1100023 (g65 1046 0) = g22 1100023 (g58 1100023 (g58 1046 0)) := congrArg ((g22 1100023)) (la_row_185 h1593_)
    have e2107_ : g22 1100024 (g65 1046 0) = g22 1100024 (g22 1046 0) := congrArg ((g22 1100024)) (la_row_185 h1593_)
    have e2108_ : g22 1100024 (g65 1046 0) = g22 1100024 (g41 1046 0) := congrArg ((g22 1100024)) (la_row_185 h1593_)
    have e2109_ : g22 1100024 (g65 1046 0) = g22 1100024 (g48 1046 0) := congrArg ((g22 1100024)) (la_row_185 h1593_)
    have e2110_ : g22 1100024 (g65 1046 0) = g22 1100024 (g58 1046 0) := congrArg ((g22 1100024)) (la_row_185 h1593_)
    have e2111_ : g22 1100025 (g41 1100025 (g41 1046 0)) = g22 1100025 (g22 1046 0) := congrArg ((g22 1100025)) (la_row_185 h1593_)
    have e2112_ : g22 1100025 (g41 1100025 (g41 1046 0)) = g22 1100025 (g22 1100025 (g22 1046 0)) := congrArg ((g22 1100025)) (la_row_185 h1593_)
    have e2113_ : g22 1100025 (g41 1100025 (g41 1046 0)) = g22 1100025 (g41 1046 0) := congrArg ((g22 1100025)) (la_row_185 h1593_)
    have e2114_ : g22 1100025 (g48 1046 0) = g22 1100025 (g41 1100025 (g41 1046 0)) := congrArg ((g22 1100025)) (la_row_185 h1593_)
    have e2115_ : g22 1100025 (g58 1046 0) = g22 1100025 (g41 1100025 (g41 1046 0)) := congrArg ((g22 1100025)) (la_row_185 h1593_)
    have e2116_ : g22 1100025 (g58 1100025 (g58 1046 0)) = g22 1100025 (g22 1046 0) := congrArg ((g22 1100025)) (la_row_185 h1593_)
    have e2117_ : g22 1100025 (g58 1100025 (g58 1046 0)) = g22 1100025 (g22 1100025 (g22 1046 0)) := congrArg ((g22 1100025)) (la_row_185 h1593_)
    have e2118_ : g22 1100025 (g58 1100025 (g58 1046 0)) = g22 1100025 (g41 1046 0) := congrArg ((g22 1100025)) (la_row_185 h1593_)
    have e2119_ : g22 1100025 (g58 1100025 (g58 1046 0)) = g22 1100025 (g41 1100025 (g41 1046 0)) := congrArg ((g22 1100025)) (la_row_185 h1593_)
    have e2120_ : g22 1100025 (g58 1100025 (g58 1046 0)) = g22 1100025 (g48 1046 0) := congrArg ((g22 1100025)) (la_row_185 h1593_)
    have e2121_ : g22 1100025 (g58 1100025 (g58 1046 0)) = g22 1100025 (g58 1046 0) := congrArg ((g22 1100025)) (la_row_185 h1593_)
    have e2122_ : g22 1100025 (g65 1046 0) = g22 1100025 (g22 1046 0) := congrArg ((g22 1100025)) (la_row_185 h1593_)
    have e2123_ : g22 1100025 (g65 1046 0) = g22 1100025 (g22 1100025 (g22 1046 0)) := congrArg ((g22 1100025)) (la_row_185 h1593_)
    have e2124_ : g22 1100025 (g65 1046 0) = g22 1100025 (g41 1046 0) := congrArg ((g22 1100025)) (la_row_185 h1593_)
    have e2125_ : g22 1100025 (g65 1046 0) = g22 1100025 (g41 1100025 (g41 1046 0)) := congrArg ((g22 1100025)) (la_row_185 h1593_)
    have e2126_ : g22 1100025 (g65 1046 0) = g22 1100025 (g48 1046 0) := congrArg ((g22 1100025)) (la_row_185 h1593_)
    have e2127_ : g22 1100025 (g65 1046 0) = g22 1100025 (g58 1046 0) := congrArg ((g22 1100025)) (la_row_185 h1593_)
    have e2128_ : g22 1100025 (g65 1046 0) = g22 1100025 (g58 1100025 (g58 1046 0)) := congrArg ((g22 1100025)) (la_row_185 h1593_)
    have e2129_ : g22 26 (g58 1046 0) = g22 26 (g22 1046 0) := congrArg ((g22 26)) (la_row_185 h1593_)
    have e2130_ : g22 26 (g58 1046 0) = g22 26 (g41 1046 0) := congrArg ((g22 26)) (la_row_185 h1593_)
    have e2131_ : g22 29 (g58 1046 0) = g22 29 (g22 1046 0) := congrArg ((g22 29)) (la_row_185 h1593_)
    have e2132_ : g22 29 (g58 1046 0) = g22 29 (g41 1046 0) := congrArg ((g22 29)) (la_row_185 h1593_)
    have e2133_ : g41 1100007 (g58 1100023 (g58 1100023 (g58 1046 0))) = g41 1100007 (g41 1046 0) := congrArg ((g41 1100007)) (la_row_185 h1593_)
    have e2134_ : g41 1100007 (g58 1100023 (g58 1100023 (g58 1046 0))) = g41 1100007 (g41 1100023 (g41 1046 0)) := congrArg ((g41 1100007)) (la_row_185 h1593_)
    have e2135_ : g41 1100007 (g58 1100023 (g58 1100023 (g58 1046 0))) = g41 1100007 (g41 1100023 (g41 1100023 (g41 1046 0))) := congrArg ((g41 1100007)) (la_row_185 h1593_)
    have e2136_ : g41 1100007 (g58 1100023 (g58 1100023 (g58 1046 0))) = g41 1100007 (g41 1100025 (g41 1046 0)) := congrArg ((g41 1100007)) (la_row_185 h1593_)
    have e2137_ : g41 1100007 (g58 1100023 (g58 1100023 (g58 1046 0))) = g41 1100007 (g48 1046 0) := congrArg ((g41 1100007)) (la_row_185 h1593_)
    have e2138_ : g41 1100007 (g58 1100023 (g58 1100023 (g58 1046 0))) = g41 1100007 (g48 1100023 (g48 1046 0)) := congrArg ((g41 1100007)) (la_row_185 h1593_)
    have e2139_ : g41 1100007 (g58 1100023 (g58 1100023 (g58 1046 0))) = g41 1100007 (g48 1100025 (g48 1046 0)) := congrArg ((g41 1100007)) (la_row_185 h1593_)
    have e2140_ : g41 1100007 (g58 1100023 (g58 1100023 (g58 1046 0))) = g41 1100007 (g58 1046 0) := congrArg ((g41 1100007)) (la_row_185 h1593_)
    have e2141_ : g41 1100007 (g58 1100023 (g58 1100023 (g58 1046 0))) = g41 1100007 (g58 1100023 (g58 1046 0)) := congrArg ((g41 1100007)) e2020_
    have e2142_ : g41 1100007 (g58 1100025 (g58 1046 0)) = g41 1100007 (g58 1100023 (g58 1100023 (g58 1046 0))) := congrArg ((g41 1100007)) (la_row_185 h1593_)
    have e2143_ : g41 1100007 (g65 1046 0) = g41 1100007 (g58 1100023 (g58 1100023 (g58 1046 0))) := congrArg ((g41 1100007)) (la_row_185 h1593_)
    have e2144_ : g41 1100007 (g65 1100023 (g65 1046 0)) = g41 1100007 (g58 1100023 (g58 1100023 (g58 1046 0))) := congrArg ((g41 1100007)) (la_row_185 h1593_)
    have e2145_ : g41 1100007 (g65 1100025 (g65 1046 0)) = g41 1100007 (g58 1100023 (g58 1100023 (g58 1046 0))) := congrArg ((g41 1100007)) (la_row_185 h1593_)
    have e2146_ : g41 1100023 (g58 1100023 (g58 1046 0)) = g41 1100023 (g41 1046 0) := congrArg ((g41 1100023)) (la_row_185 h1593_)
    have e2147_ : g41 1100023 (g58 1100023 (g58 1046 0)) = g41 1100023 (g41 1100023 (g41 1046 0)) := congrArg ((g41 1100023)) (la_row_185 h1593_)
    have e2148_ : g41 1100023 (g58 1100023 (g58 1046 0)) = g41 1100023 (g48 1046 0) := congrArg ((g41 1100023)) (la_row_185 h1593_)
    have e2149_ : g41 1100023 (g58 1100023 (g58 1046 0)) = g41 1100023 (g58 1046 0) := congrArg ((g41 1100023)) (la_row_185 h1593_)
    have e2150_ : g41 1100023 (g65 1046 0) = g41 1100023 (g58 1100023 (g58 1046 0)) := congrArg ((g41 1100023)) (la_row_185 h1593_)
    have e2151_ : g41 1100023 (g65 1100023 (g65 1046 0)) = g41 1100023 (g41 1046 0) := congrArg ((g41 1100023)) (la_row_185 h1593_)
    have e2152_ : g41 1100023 (g65 1100023 (g65 1046 0)) = g41 1100023 (g41 1100023 (g41 1046 0)) := congrArg ((g41 1100023)) (la_row_185 h1593_)
    have e2153_ : g41 1100023 (g65 1100023 (g65 1046 0)) = g41 1100023 (g48 1046 0) := congrArg ((g41 1100023)) (la_row_185 h1593_)
    have e2154_ : g41 1100023 (g65 1100023 (g65 1046 0)) = g41 1100023 (g58 1046 0) := congrArg ((g41 1100023)) (la_row_185 h1593_)
    have e2155_ : g41 1100023 (g65 1100023 (g65 1046 0)) = g41 1100023 (g58 1100023 (g58 1046 0)) := congrArg ((g41 1100023)) (la_row_185 h1593_)
    have e2156_ : g41 1100023 (g65 1100023 (g65 1046 0)) = g41 1100023 (g65 1046 0) := congrArg ((g41 1100023)) (la_row_185 h1593_)
    have e2157_ : g41 1100025 (g58 1100025 (g58 1046 0)) = g41 1100025 (g41 1046 0) := congrArg ((g41 1100025)) (la_row_185 h1593_)
    have e2158_ : g41 1100025 (g58 1100025 (g58 1046 0)) = g41 1100025 (g41 1100025 (g41 1046 0)) := congrArg ((g41 1100025)) (la_row_185 h1593_)
    have e2159_ : g41 1100025 (g58 1100025 (g58 1046 0)) = g41 1100025 (g48 1046 0) := congrArg ((g41 1100025)) (la_row_185 h1593_)
    have e2160_ : g41 1100025 (g58 1100025 (g58 1046 0)) = g41 1100025 (g58 1046 0) := congrArg ((g41 1100025)) (la_row_185 h1593_)
    have e2161_ : g41 1100025 (g65 1046 0) = g41 1100025 (g58 1100025 (g58 1046 0)) := congrArg ((g41 1100025)) (la_row_185 h1593_)
    have e2162_ : g41 1100025 (g65 1100025 (g65 1046 0)) = g41 1100025 (g41 1046 0) := congrArg ((g41 1100025)) (la_row_185 h1593_)
    have e2163_ : g41 1100025 (g65 1100025 (g65 1046 0)) = g41 1100025 (g41 1100025 (g41 1046 0)) := congrArg ((g41 1100025)) (la_row_185 h1593_)
    have e2164_ : g41 1100025 (g65 1100025 (g65 1046 0)) = g41 1100025 (g48 1046 0) := congrArg ((g41 1100025)) (la_row_185 h1593_)
    have e2165_ : g41 1100025 (g65 1100025 (g65 1046 0)) = g41 1100025 (g58 1046 0) := congrArg ((g41 1100025)) (la_row_185 h1593_)
    have e2166_ : g41 1100025 (g65 1100025 (g65 1046 0)) = g41 1100025 (g58 1100025 (g58 1046 0)) := congrArg ((g41 1100025)) (la_row_185 h1593_)
    have e2167_ : g41 1100025 (g65 1100025 (g65 1046 0)) = g41 1100025 (g65 1046 0) := congrArg ((g41 1100025)) (la_row_185 h1593_)
    have e2168_ : g48 1100007 (g58 1100023 (g58 1100023 (g58 1046 0))) = g48 1100007 (g48 1046 0) := congrArg ((g48 1100007)) (la_row_185 h1593_)
    have e2169_ : g48 1100007 (g58 1100023 (g58 1100023 (g58 1046 0))) = g48 1100007 (g48 1100023 (g48 1046 0)) := congrArg ((g48 1100007)) (la_row_185 h1593_)
    have e2170_ : g48 1100007 (g58 1100023 (g58 1100023 (g58 1046 0))) = g48 1100007 (g48 1100025 (g48 1046 0)) := congrArg ((g48 1100007)) (la_row_185 h1593_)
    have e2171_ : g48 1100007 (g58 1100023 (g58 1100023 (g58 1046 0))) = g48 1100007 (g58 1046 0) := congrArg ((g48 1100007)) (la_row_185 h1593_)
    have e2172_ : g48 1100007 (g58 1100023 (g58 1100023 (g58 1046 0))) = g48 1100007 (g58 1100023 (g58 1046 0)) := congrArg ((g48 1100007)) e2020_
    have e2173_ : g48 1100007 (g58 1100025 (g58 1046 0)) = g48 1100007 (g58 1100023 (g58 1100023 (g58 1046 0))) := congrArg ((g48 1100007)) (la_row_185 h1593_)
    have e2174_ : g48 1100007 (g65 1046 0) = g48 1100007 (g58 1100023 (g58 1100023 (g58 1046 0))) := congrArg ((g48 1100007)) (la_row_185 h1593_)
    have e2175_ : g48 1100007 (g65 1100023 (g65 1046 0)) = g48 1100007 (g58 1100023 (g58 1100023 (g58 1046 0))) := congrArg ((g48 1100007)) (la_row_185 h1593_)
    have e2176_ : g48 1100007 (g65 1100025 (g65 1046 0)) = g48 1100007 (g58 1100023 (g58 1100023 (g58 1046 0))) := congrArg ((g48 1100007)) (la_row_185 h1593_)
    have e2177_ : g48 1100023 (g58 1100023 (g58 1046 0)) = g48 1100023 (g48 1046 0) := congrArg ((g48 1100023)) (la_row_185 h1593_)
    have e2178_ : g48 1100023 (g58 1100023 (g58 1046 0)) = g48 1100023 (g58 1046 0) := congrArg ((g48 1100023)) (la_row_185 h1593_)
    have e2179_ : g48 1100023 (g65 1046 0) = g48 1100023 (g58 1100023 (g58 1046 0)) := congrArg ((g48 1100023)) (la_row_185 h1593_)
    have e2180_ : g48 1100023 (g65 1100023 (g65 1046 0)) = g48 1100023 (g48 1046 0) := congrArg ((g48 1100023)) (la_row_185 h1593_)
    have e2181_ : g48 1100023 (g65 1100023 (g65 1046 0)) = g48 1100023 (g58 1046 0) := congrArg ((g48 1100023)) (la_row_185 h1593_)
    have e2182_ : g48 1100023 (g65 1100023 (g65 1046 0)) = g48 1100023 (g58 1100023 (g58 1046 0)) := congrArg ((g48 1100023)) (la_row_185 h1593_)
    have e2183_ : g48 1100023 (g65 1100023 (g65 1046 0)) = g48 1100023 (g65 1046 0) := congrArg ((g48 1100023)) (la_row_185 h1593_)
    have e2184_ : g48 1100025 (g58 1100025 (g58 1046 0)) = g48 1100025 (g48 1046 0) := congrArg ((g48 1100025)) (la_row_185 h1593_)
    have e2185_ : g48 1100025 (g58 1100025 (g58 1046 0)) = g48 1100025 (g58 1046 0) := congrArg ((g48 1100025)) (la_row_185 h1593_)
    have e2186_ : g48 1100025 (g65 1046 0) = g48 1100025 (g58 1100025 (g58 1046 0)) := congrArg ((g48 1100025)) (la_row_185 h1593_)
    have e2187_ : g48 1100025 (g65 1100025 (g65 1046 0)) = g48 1100025 (g48 1046 0) := congrArg ((g48 1100025)) (la_row_185 h1593_)
    have e2188_ : g48 1100025 (g65 1100025 (g65 1046 0)) = g48 1100025 (g58 1046 0) := congrArg ((g48 1100025)) (la_row_185 h1593_)
    have e2189_ : g48 1100025 (g65 1100025 (g65 1046 0)) = g48 1100025 (g58 1100025 (g58 1046 0)) := congrArg ((g48 1100025)) (la_row_185 h1593_)
    have e2190_ : g48 1100025 (g65 1100025 (g65 1046 0)) = g48 1100025 (g65 1046 0) := congrArg ((g48 1100025)) (la_row_185 h1593_)
    have e2191_ : g58 1100023 (g65 1100023 (g65 1046 0)) = g58 1100023 (g58 1046 0) := congrArg ((g58 1100023)) (la_row_185 h1593_)
    have e2192_ : g58 1100023 (g65 1100023 (g65 1046 0)) = g58 1100023 (g58 1100023 (g58 1046 0)) := congrArg ((g58 1100023)) (la_row_185 h1593_)
    have e2193_ : g58 1100023 (g65 1100023 (g65 1046 0)) = g58 1100023 (g65 1046 0) := congrArg ((g58 1100023)) (la_row_185 h1593_)
    have e2194_ : g58 1100025 (g65 1100025 (g65 1046 0)) = g58 1100025 (g58 1046 0) := congrArg ((g58 1100025)) (la_row_185 h1593_)
    have e2195_ : g58 1100025 (g65 1100025 (g65 1046 0)) = g58 1100025 (g58 1100025 (g58 1046 0)) := congrArg ((g58 1100025)) (la_row_185 h1593_)
    have e2196_ : g58 1100025 (g65 1100025 (g65 1046 0)) = g58 1100025 (g65 1046 0) := congrArg ((g58 1100025)) (la_row_185 h1593_)
    have e2197_ : S 1100023 (g58 1100023 (g58 1046 0)) = S 1100023 (S 1046 0) := congrArg ((S 1100023)) (la_row_185 h1593_)
    have e2198_ : S 1100023 (g58 1100023 (g58 1046 0)) = S 1100023 (g22 1046 0) := congrArg ((S 1100023)) (la_row_185 h1593_)
    have e2199_ : S 1100023 (g58 1100023 (g58 1046 0)) = S 1100023 (g22 1100023 (g22 1046 0)) := congrArg ((S 1100023)) (la_row_185 h1593_)
    have e2200_ : S 1100023 (g58 1100023 (g58 1046 0)) = S 1100023 (g41 1046 0) := congrArg ((S 1100023)) (la_row_185 h1593_)
    have e2201_ : S 1100023 (g58 1100023 (g58 1046 0)) = S 1100023 (g41 1100023 (g41 1046 0)) := congrArg ((S 1100023)) (la_row_185 h1593_)
    have e2202_ : S 1100023 (g58 1100023 (g58 1046 0)) = S 1100023 (g48 1046 0) := congrArg ((S 1100023)) (la_row_185 h1593_)
    have e2203_ : S 1100023 (g58 1100023 (g58 1046 0)) = S 1100023 (g58 1046 0) := congrArg ((S 1100023)) (la_row_185 h1593_)
    have e2204_ : S 1100023 (g65 1046 0) = S 1100023 (g58 1100023 (g58 1046 0)) := congrArg ((S 1100023)) (la_row_185 h1593_)
    have e2205_ : S 1100023 (g65 1100023 (g65 1046 0)) = S 1100023 (S 1046 0) := congrArg ((S 1100023)) (la_row_185 h1593_)
    have e2206_ : S 1100023 (g65 1100023 (g65 1046 0)) = S 1100023 (g22 1046 0) := congrArg ((S 1100023)) (la_row_185 h1593_)
    have e2207_ : S 1100023 (g65 1100023 (g65 1046 0)) = S 1100023 (g22 1100023 (g22 1046 0)) := congrArg ((S 1100023)) (la_row_185 h1593_)
    have e2208_ : S 1100023 (g65 1100023 (g65 1046 0)) = S 1100023 (g41 1046 0) := congrArg ((S 1100023)) (la_row_185 h1593_)
    have e2209_ : S 1100023 (g65 1100023 (g65 1046 0)) = S 1100023 (g41 1100023 (g41 1046 0)) := congrArg ((S 1100023)) (la_row_185 h1593_)
    have e2210_ : S 1100023 (g65 1100023 (g65 1046 0)) = S 1100023 (g48 1046 0) := congrArg ((S 1100023)) (la_row_185 h1593_)
    have e2211_ : S 1100023 (g65 1100023 (g65 1046 0)) = S 1100023 (g58 1046 0) := congrArg ((S 1100023)) (la_row_185 h1593_)
    have e2212_ : S 1100023 (g65 1100023 (g65 1046 0)) = S 1100023 (g58 1100023 (g58 1046 0)) := congrArg ((S 1100023)) (la_row_185 h1593_)
    have e2213_ : S 1100023 (g65 1100023 (g65 1046 0)) = S 1100023 (g65 1046 0) := congrArg ((S 1100023)) (la_row_185 h1593_)
    have e2214_ : S 1100025 (g58 1100025 (g58 1046 0)) = S 1100025 (S 1046 0) := congrArg ((S 1100025)) (la_row_185 h1593_)
    have e2215_ : S 1100025 (g58 1100025 (g58 1046 0)) = S 1100025 (g22 1046 0) := congrArg ((S 1100025)) (la_row_185 h1593_)
    have e2216_ : S 1100025 (g58 1100025 (g58 1046 0)) = S 1100025 (g22 1100025 (g22 1046 0)) := congrArg ((S 1100025)) (la_row_185 h1593_)
    have e2217_ : S 1100025 (g58 1100025 (g58 1046 0)) = S 1100025 (g41 1046 0) := congrArg ((S 1100025)) (la_row_185 h1593_)
    have e2218_ : S 1100025 (g58 1100025 (g58 1046 0)) = S 1100025 (g41 1100025 (g41 1046 0)) := congrArg ((S 1100025)) (la_row_185 h1593_)
    have e2219_ : S 1100025 (g58 1100025 (g58 1046 0)) = S 1100025 (g48 1046 0) := congrArg ((S 1100025)) (la_row_185 h1593_)
    have e2220_ : S 1100025 (g58 1100025 (g58 1046 0)) = S 1100025 (g58 1046 0) := congrArg ((S 1100025)) (la_row_185 h1593_)
    have e2221_ : S 1100025 (g65 1046 0) = S 1100025 (g58 1100025 (g58 1046 0)) := congrArg ((S 1100025)) (la_row_185 h1593_)
    have e2222_ : S 1100025 (g65 1100025 (g65 1046 0)) = S 1100025 (S 1046 0) := congrArg ((S 1100025)) (la_row_185 h1593_)
    have e2223_ : S 1100025 (g65 1100025 (g65 1046 0)) = S 1100025 (g22 1046 0) := congrArg ((S 1100025)) (la_row_185 h1593_)
    have e2224_ : S 1100025 (g65 1100025 (g65 1046 0)) = S 1100025 (g22 1100025 (g22 1046 0)) := congrArg ((S 1100025)) (la_row_185 h1593_)
    have e2225_ : S 1100025 (g65 1100025 (g65 1046 0)) = S 1100025 (g41 1046 0) := congrArg ((S 1100025)) (la_row_185 h1593_)
    have e2226_ : S 1100025 (g65 1100025 (g65 1046 0)) = S 1100025 (g41 1100025 (g41 1046 0)) := congrArg ((S 1100025)) (la_row_185 h1593_)
    have e2227_ : S 1100025 (g65 1100025 (g65 1046 0)) = S 1100025 (g48 1046 0) := congrArg ((S 1100025)) (la_row_185 h1593_)
    have e2228_ : S 1100025 (g65 1100025 (g65 1046 0)) = S 1100025 (g58 1046 0) := congrArg ((S 1100025)) (la_row_185 h1593_)
    have e2229_ : S 1100025 (g65 1100025 (g65 1046 0)) = S 1100025 (g58 1100025 (g58 1046 0)) := congrArg ((S 1100025)) (la_row_185 h1593_)
    have e2230_ : S 1100025 (g65 1100025 (g65 1046 0)) = S 1100025 (g65 1046 0) := congrArg ((S 1100025)) (la_row_185 h1593_)
    have e2231_ : g22 1100023 (g65 1100023 (g65 1046 0)) = g22 1100023 (g22 1046 0) := congrArg ((g22 1100023)) (la_row_185 h1593_)
    have e2232_ : g22 1100023 (g65 1100023 (g65 1046 0)) = g22 1100023 (g22 1100023 (g22 1046 0)) := congrArg ((g22 1100023)) (la_row_185 h1593_)
    have e2233_ : g22 1100023 (g65 1100023 (g65 1046 0)) = g22 1100023 (g41 1046 0) := congrArg ((g22 1100023)) (la_row_185 h1593_)
    have e2234_ : g22 1100023 (g65 1100023 (g65 1046 0)) = g22 1100023 (g41 1100023 (g41 1046 0)) := congrArg ((g22 1100023)) (la_row_185 h1593_)
    have e2235_ : g22 1100023 (g65 1100023 (g65 1046 0)) = g22 1100023 (g48 1046 0) := congrArg ((g22 1100023)) (la_row_185 h1593_)
    have e2236_ : g22 1100023 (g65 1100023 (g65 1046 0)) = g22 1100023 (g58 1046 0) := congrArg ((g22 1100023)) (la_row_185 h1593_)
    have e2237_ : g22 1100023 (g65 1100023 (g65 1046 0)) = g22 1100023 (g58 1100023 (g58 1046 0)) := congrArg ((g22 1100023)) (la_row_185 h1593_)
    have e2238_ : g22 1100023 (g65 1100023 (g65 1046 0)) = g22 1100023 (g65 1046 0) := congrArg ((g22 1100023)) (la_row_185 h1593_)
    have e2239_ : g22 1100025 (g65 1100025 (g65 1046 0)) = g22 1100025 (g22 1046 0) := congrArg ((g22 1100025)) (la_row_185 h1593_)
    have e2240_ : g22 1100025 (g65 1100025 (g65 1046 0)) = g22 1100025 (g22 1100025 (g22 1046 0)) := congrArg ((g22 1100025)) (la_row_185 h1593_)
    have e2241_ : g22 1100025 (g65 1100025 (g65 1046 0)) = g22 1100025 (g41 1046 0) := congrArg ((g22 1100025)) (la_row_185 h1593_)
    have e2242_ : g22 1100025 (g65 1100025 (g65 1046 0)) = g22 1100025 (g41 1100025 (g41 1046 0)) := congrArg ((g22 1100025)) (la_row_185 h1593_)
    have e2243_ : g22 1100025 (g65 1100025 (g65 1046 0)) = g22 1100025 (g48 1046 0) := congrArg ((g22 1100025)) (la_row_185 h1593_)
    have e2244_ : g22 1100025 (g65 1100025 (g65 1046 0)) = g22 1100025 (g58 1046 0) := congrArg ((g22 1100025)) (la_row_185 h1593_)
    have e2245_ : g22 1100025 (g65 1100025 (g65 1046 0)) = g22 1100025 (g58 1100025 (g58 1046 0)) := congrArg ((g22 1100025)) (la_row_185 h1593_)
    have e2246_ : g22 1100025 (g65 1100025 (g65 1046 0)) = g22 1100025 (g65 1046 0) := congrArg ((g22 1100025)) (la_row_185 h1593_)
    exact ((la_row_191 h1593_)).elim
  intro g72
  rintro ⟨h2247_, ⟨h2248_, ⟨h2249_, ⟨h2250_, ⟨h2251_, ⟨h2252_, ⟨h2253_, ⟨h2254_, ⟨h2255_, ⟨h2256_, ⟨h2257_, ⟨h2258_, ⟨h2259_, ⟨h2260_, ⟨h2261_, ⟨h2262_, h2263_⟩⟩⟩⟩⟩⟩⟩⟩⟩⟩⟩⟩⟩⟩⟩⟩
  refine ⟨(la_row_192 h8_ h297_ h298_), ?_⟩
  intro h2264_
  refine ⟨(la_row_193 h212_ h213_), ?_⟩
  refine ⟨?_, ?_⟩
  · skip
    refine ⟨(la_row_17 h2249_), ?_⟩
    refine ⟨h2252_, ?_⟩
    refine ⟨h2247_, ?_⟩
    refine ⟨h2248_, ?_⟩
    refine ⟨h1001_, ?_⟩
    refine ⟨h1002_, ?_⟩
    refine ⟨(la_row_194 h212_), ?_⟩
    refine ⟨(la_row_195 h292_ h300_ h312_), ?_⟩
    refine ⟨(la_row_196 h287_), ?_⟩
    refine ⟨(la_row_197 h287_ (la_row_13 h20_ h285_) h297_ h298_ h299_ h300_ h301_ (la_row_13 (la_row_47 h297_) h284_) (sm_ex_e h317_).1 (sm_ex_e h317_).2.1 h323_), ?_⟩
    refine ⟨?_, ?_⟩
    · skip
      intro h2265_
      exact (sm_LF_w h294_ (sm_F1_le h1021_ (la_row_106 h1020_)) (Int.le_refl _) (la_row_106 h1020_) h1002_ (Int.le_refl _))
    refine ⟨(la_row_17 h2249_), ?_⟩
    refine ⟨h2252_, ?_⟩
    refine ⟨h2247_, ?_⟩
    refine ⟨h2248_, ?_⟩
    refine ⟨h1001_, ?_⟩
    refine ⟨h1002_, ?_⟩
    refine ⟨(la_row_198 h392_ h570_ h606_ h1003_ h1509_ h2250_), ?_⟩
    refine ⟨(la_row_199 h22_ h2248_), ?_⟩
    refine ⟨(sm_F1_tr (sm_F1_tr (sm_F1_tr (sm_F1_tr (sm_F1_tr (sm_F1_le h225_ (Int.le_refl _)) h575_ h223_) h611_ (la_row_203 h392_ h570_)) h1005_ (la_row_202 h392_ h570_ h606_)) h1514_ (la_row_201 h392_ h570_ h606_ h1003_)) h2255_ (la_row_200 h392_ h570_ h606_ h1003_ h1509_)), ?_⟩
    refine ⟨(sm_F1_tr (sm_F1_tr (sm_F1_tr (sm_F1_tr (sm_F1_tr (sm_F1_le h226_ (Int.le_refl _)) h576_ h223_) h612_ (la_row_203 h392_ h570_)) h1006_ (la_row_202 h392_ h570_ h606_)) h1515_ (la_row_201 h392_ h570_ h606_ h1003_)) h2256_ (la_row_200 h392_ h570_ h606_ h1003_ h1509_)), ?_⟩
    refine ⟨(sm_F1_tr (sm_F1_tr (sm_F1_tr (sm_F1_tr (sm_F1_tr (sm_F1_le h227_ (Int.le_refl _)) h577_ h223_) h613_ (la_row_203 h392_ h570_)) h1007_ (la_row_202 h392_ h570_ h606_)) h1516_ (la_row_201 h392_ h570_ h606_ h1003_)) h2257_ (la_row_200 h392_ h570_ h606_ h1003_ h1509_)), ?_⟩
    refine ⟨(sm_F1_tr (sm_F1_tr (sm_F1_tr (sm_F1_tr (sm_F1_tr (sm_F1_le h228_ (Int.le_refl _)) h578_ h223_) h614_ (la_row_203 h392_ h570_)) h1008_ (la_row_202 h392_ h570_ h606_)) h1517_ (la_row_201 h392_ h570_ h606_ h1003_)) h2258_ (la_row_200 h392_ h570_ h606_ h1003_ h1509_)), ?_⟩
    refine ⟨(sm_F1_tr (sm_F1_tr (sm_F1_tr (sm_F1_tr (sm_F1_tr (sm_F1_le h229_ (Int.le_refl _)) h579_ (la_row_208 h392_)) h615_ (la_row_207 h392_ h570_)) h1009_ (la_row_206 h392_ h570_ h606_)) h1518_ (la_row_205 h392_ h570_ h606_ h1003_)) h2259_ (la_row_204 h392_ h570_ h606_ h1003_ h1509_)), ?_⟩
    refine ⟨(sm_F1_tr (sm_F1_tr (sm_F1_tr (sm_F1_tr (sm_F1_tr (sm_F1_le h230_ (Int.le_refl _)) h580_ (la_row_208 h392_)) h616_ (la_row_207 h392_ h570_)) h1010_ (la_row_206 h392_ h570_ h606_)) h1519_ (la_row_205 h392_ h570_ h606_ h1003_)) h2260_ (la_row_204 h392_ h570_ h606_ h1003_ h1509_)), ?_⟩
    refine ⟨(sm_F1_tr (sm_F1_tr (sm_F1_tr (sm_F1_tr (sm_F1_tr (sm_F1_le h231_ (Int.le_refl _)) h581_ (la_row_208 h392_)) h617_ (la_row_207 h392_ h570_)) h1011_ (la_row_206 h392_ h570_ h606_)) h1520_ (la_row_205 h392_ h570_ h606_ h1003_)) h2261_ (la_row_204 h392_ h570_ h606_ h1003_ h1509_)), ?_⟩
    refine ⟨(sm_F1_tr (sm_F1_tr (sm_F1_tr (sm_F1_tr (sm_F1_tr (sm_F1_le h232_ (Int.le_refl _)) h582_ (la_row_208 h392_)) h618_ (la_row_207 h392_ h570_)) h1012_ (la_row_206 h392_ h570_ h606_)) h1521_ (la_row_205 h392_ h570_ h606_ h1003_)) h2262_ (la_row_204 h392_ h570_ h606_ h1003_ h1509_)), ?_⟩
    refine ⟨(sm_F1_tr (sm_F1_le h233_ (Int.le_refl _)) h1013_ h239_), ?_⟩
    refine ⟨(sm_F1_tr (sm_F1_le h234_ (Int.le_refl _)) h1014_ h239_), ?_⟩
    refine ⟨(sm_F1_tr (sm_F1_le h235_ (Int.le_refl _)) h1015_ h239_), ?_⟩
    refine ⟨(sm_F1_tr (sm_F1_le h236_ (Int.le_refl _)) h1016_ h239_), ?_⟩
    refine ⟨(sm_F1_tr (sm_F1_le h237_ (Int.le_refl _)) h1017_ h239_), ?_⟩
    refine ⟨(sm_F1_tr (sm_F1_le h238_ (Int.le_refl _)) h1018_ h239_), ?_⟩
    refine ⟨(la_row_209 h239_ h1019_), ?_⟩
    refine ⟨(la_row_210 h240_ h1020_), ?_⟩
    refine ⟨(sm_F1_tr (sm_F1_le h241_ (Int.le_refl _)) h1021_ (la_row_211 h240_)), ?_⟩
    refine ⟨(la_row_212 h22_), ?_⟩
    refine ⟨(la_row_213 h207_ h290_ e295_ h301_ (sm_ex_e h317_).2.2.2.1 h336_ h402_ h570_ h603_ h604_ h606_ h1022_ h1023_), ?_⟩
    intro h2266_
    have h2267_ : ¬ (g65 1047 0 = 1) := fun q_ => (la_row_15 h2266_) (h2253_ q_)
    obtain ⟨h2268_, ⟨h2269_, ⟨h2270_, ⟨h2271_, ⟨h2272_, ⟨h2273_, ⟨h2274_, ⟨h2275_, ⟨h2276_, ⟨h2277_, ⟨h2278_, ⟨h2279_, ⟨h2280_, h2281_⟩⟩⟩⟩⟩⟩⟩⟩⟩⟩⟩⟩⟩ := (h2263_ h2266_)
    have h2282_ : ¬ (g58 1047 0 = 1) := fun q_ => h2267_ (h1512_ q_)
    have h2283_ := (h2280_ la_row_215)
    have h2284_ := (h2281_ la_row_214)
    obtain ⟨h2285_, ⟨h2286_, ⟨h2287_, ⟨h2288_, ⟨h2289_, ⟨h2290_, ⟨h2291_, ⟨h2292_, ⟨h2293_, ⟨h2294_, ⟨h2295_, ⟨h2296_, ⟨h2297_, h2298_⟩⟩⟩⟩⟩⟩⟩⟩⟩⟩⟩⟩⟩ := (h1522_ h2268_)
    have h2299_ : ¬ (g48 1047 0 = 1) := fun q_ => h2282_ (h1004_ q_)
    have h2300_ := (h2298_ la_row_162)
    obtain ⟨h2301_, ⟨h2302_, ⟨h2303_, ⟨h2304_, ⟨h2305_, ⟨h2306_, ⟨h2307_, ⟨h2308_, ⟨h2309_, ⟨h2310_, ⟨h2311_, ⟨h2312_, ⟨h2313_, ⟨h2314_, ⟨h2315_, ⟨h2316_, -⟩⟩⟩⟩⟩⟩⟩⟩⟩⟩⟩⟩⟩⟩⟩⟩ := (h1024_ h2285_)
    have h2317_ : ¬ (g41 1047 0 = 1) := fun q_ => h2299_ (h609_ q_)
    have h2318_ := (h1023_ h2301_)
    have h2319_ := (h2300_ la_row_164)
    obtain ⟨h2320_, ⟨h2321_, ⟨h2322_, ⟨h2323_, ⟨h2324_, ⟨h2325_, ⟨h2326_, ⟨h2327_, ⟨h2328_, ⟨h2329_, ⟨h2330_, ⟨h2331_, ⟨h2332_, h2333_⟩⟩⟩⟩⟩⟩⟩⟩⟩⟩⟩⟩⟩ := (h619_ h2301_)
    have h2334_ := (h2333_ la_row_108)
    obtain ⟨h2335_, ⟨h2336_, ⟨h2337_, ⟨h2338_, ⟨h2339_, ⟨h2340_, ⟨h2341_, ⟨h2342_, ⟨h2343_, ⟨h2344_, ⟨h2345_, ⟨h2346_, ⟨h2347_, h2348_⟩⟩⟩⟩⟩⟩⟩⟩⟩⟩⟩⟩⟩ := (h583_ h2320_)
    have h2349_ := (h2334_ la_row_110)
    have h2350_ := (h2348_ la_row_92)
    have h2351_ := (h2350_ la_row_94)
    refine ⟨h22_, ?_⟩
    refine ⟨h2270_, ?_⟩
    refine ⟨h2303_, ?_⟩
    refine ⟨h2304_, ?_⟩
    refine ⟨(la_row_216 h2269_ h2286_ h2305_), ?_⟩
    refine ⟨(la_row_217 h392_ h2269_ h2286_ h2306_ h2321_ h2336_), ?_⟩
    refine ⟨(sm_FC_s (sm_FC_F h393_ (sm_F1_tr (sm_F1_tr (sm_F1_tr (sm_F1_tr (sm_F1_le h578_ (Int.le_refl _)) h614_ h570_) h1008_ (la_row_225 h2321_ h2336_)) h1517_ (la_row_224 h2306_ h2321_ h2336_)) h2258_ (la_row_223 h2286_ h2306_ h2321_ h2336_)) (Int.le_refl _) (Int.le_refl _) (Int.le_refl _) rfl) (sm_FC_1 (((sm_F1_at h2258_ (g22 1046 0) (la_row_226 h2286_ h2306_ h2321_ h2336_)).trans ((sm_F1_at h1517_ (g22 1046 0) (la_row_227 h2306_ h2321_ h2336_)).trans ((sm_F1_at h1008_ (g22 1046 0) (la_row_228 h2321_ h2336_)).trans ((sm_F1_at h614_ (g22 1046 0) (la_row_229 h2336_)).trans rfl)))).trans h2340_) (sm_FC_1 (((sm_F1_at h2258_ (g22 1046 0 + 1) (la_row_230 h2286_ h2306_ h2321_ h2336_)).trans ((sm_F1_at h1517_ (g22 1046 0 + 1) (la_row_231 h2306_ h2321_ h2336_)).trans ((sm_F1_at h1008_ (g22 1046 0 + 1) (la_row_232 h2321_ h2336_)).trans ((congrArg (g48 29) (la_row_233 h2336_)).trans h2325_)))).trans rfl) (sm_FC_s (sm_FC_F h2307_ (sm_F1_tr (sm_F1_le h1517_ (Int.le_refl _)) h2258_ h1509_) (Int.le_refl _) (la_row_236 h2321_ h2336_) (Int.le_refl _) rfl) (sm_FC_1 (((sm_F1_at h2258_ (g58 1046 0) (la_row_229 h2286_)).trans rfl).trans h2290_) (sm_FC_1 (((congrArg (g72 29) (la_row_238 h1510_ h2286_)).trans h2273_).trans rfl) (sm_FC_0 (la_row_239 h1510_ h2251_)))))))), ?_⟩
    refine ⟨(la_row_240 h394_ h2274_ (sm_dl_17 : sm_dl 17 0 = (-1)) h2291_ (sm_dl_11 : sm_dl 11 0 = (-2)) h2308_ h2326_ (sm_dl_0 : sm_dl 0 5 = 1) h2341_ (sm_dl_18 : sm_dl 18 0 = 1)), ?_⟩
    refine ⟨(la_row_241 h395_ h2275_ (sm_nt_17 : sm_nt 17 (g65 1046 0) (g65 1100023 (g65 1046 0)) (g65 1100023 (g65 1100023 (g65 1046 0))) = g65 1100023 (g65 1046 0)) h2292_ (sm_nt_11 : sm_nt 11 (g58 1046 0) (g58 1100023 (g58 1046 0)) (g58 1100023 (g58 1100023 (g58 1046 0))) = g58 1100023 (g58 1046 0)) h2309_ h2327_ (sm_nt_0 : sm_nt 0 (g41 1046 0) (g41 1100023 (g41 1046 0)) (g41 1100023 (g41 1100023 (g41 1046 0))) = g41 1100023 (g41 1046 0)) h2342_ (sm_nt_18 : sm_nt 18 (g22 1046 0) (g22 1100023 (g22 1046 0)) (g22 1100023 (g22 1100023 (g22 1046 0))) = g22 1100023 (g22 1046 0))), ?_⟩
    refine ⟨(la_row_241 h396_ h2276_ (sm_nd_17 : sm_nd 17 (g65 1100024 (g65 1046 0)) = g65 1100024 (g65 1046 0)) h2293_ (sm_nd_11 : sm_nd 11 (g58 1100024 (g58 1046 0)) = g58 1100024 (g58 1046 0)) h2310_ h2328_ (sm_nd_0 : sm_nd 0 (g41 1100024 (g41 1046 0)) = g41 1100024 (g41 1046 0)) h2343_ (sm_nd_18 : sm_nd 18 (g22 1100024 (g22 1046 0)) = g22 1100024 (g22 1046 0))), ?_⟩
    refine ⟨?_, ?_⟩
    · skip
      have e2352_ : S 1100007 (g22 1100023 (g22 1046 0)) = S 1100007 (S 1100023 (S 1046 0)) := congrArg ((S 1100007)) h395_
      have e2353_ : S 1100007 (g22 1100025 (g22 1046 0)) = S 1100007 (S 1100025 (S 1046 0)) := congrArg ((S 1100007)) h397_
      have e2354_ : S 1100007 (g41 1100023 (g41 1046 0)) = S 1100007 (S 1100023 (S 1046 0)) := congrArg ((S 1100007)) (la_row_133 h395_ h2342_ (sm_nt_18 : sm_nt 18 (g22 1046 0) (g22 1100023 (g22 1046 0)) (g22 1100023 (g22 1100023 (g22 1046 0))) = g22 1100023 (g22 1046 0)))
      have e2355_ : S 1100007 (g41 1100023 (g41 1046 0)) = S 1100007 (g22 1100023 (g22 1046 0)) := congrArg ((S 1100007)) (la_row_34 h2342_ (sm_nt_18 : sm_nt 18 (g22 1046 0) (g22 1100023 (g22 1046 0)) (g22 1100023 (g22 1100023 (g22 1046 0))) = g22 1100023 (g22 1046 0)))
      have e2356_ : S 1100007 (g41 1100025 (g41 1046 0)) = S 1100007 (S 1100025 (S 1046 0)) := congrArg ((S 1100007)) (la_row_133 h397_ h2344_ (sm_nl_18 : sm_nl 18 (g22 1046 0) (g22 1100007 (g22 1046 0)) (g22 1100025 (g22 1046 0)) (g22 1100007 (g22 1100025 (g22 1046 0))) (g22 1100025 (g22 1100025 (g22 1046 0))) = g22 1100025 (g22 1046 0)))
      have e2357_ : S 1100007 (g41 1100025 (g41 1046 0)) = S 1100007 (g22 1100025 (g22 1046 0)) := congrArg ((S 1100007)) (la_row_34 h2344_ (sm_nl_18 : sm_nl 18 (g22 1046 0) (g22 1100007 (g22 1046 0)) (g22 1100025 (g22 1046 0)) (g22 1100007 (g22 1100025 (g22 1046 0))) (g22 1100025 (g22 1100025 (g22 1046 0))) = g22 1100025 (g22 1046 0)))
      have e2358_ : S 1100007 (g48 1100023 (g48 1046 0)) = S 1100007 (S 1100023 (S 1046 0)) := congrArg ((S 1100007)) (la_row_254 h395_ h2327_ (sm_nt_0 : sm_nt 0 (g41 1046 0) (g41 1100023 (g41 1046 0)) (g41 1100023 (g41 1100023 (g41 1046 0))) = g41 1100023 (g41 1046 0)) h2342_ (sm_nt_18 : sm_nt 18 (g22 1046 0) (g22 1100023 (g22 1046 0)) (g22 1100023 (g22 1100023 (g22 1046 0))) = g22 1100023 (g22 1046 0)))
      have e2359_ : S 1100007 (g48 1100023 (g48 1046 0)) = S 1100007 (g22 1100023 (g22 1046 0)) := congrArg ((S 1100007)) (la_row_255 h2327_ (sm_nt_0 : sm_nt 0 (g41 1046 0) (g41 1100023 (g41 1046 0)) (g41 1100023 (g41 1100023 (g41 1046 0))) = g41 1100023 (g41 1046 0)) h2342_ (sm_nt_18 : sm_nt 18 (g22 1046 0) (g22 1100023 (g22 1046 0)) (g22 1100023 (g22 1100023 (g22 1046 0))) = g22 1100023 (g22 1046 0)))
      have e2360_ : S 1100007 (g48 1100023 (g48 1046 0)) = S 1100007 (g41 1100023 (g41 1046 0)) := congrArg ((S 1100007)) (la_row_34 h2327_ (sm_nt_0 : sm_nt 0 (g41 1046 0) (g41 1100023 (g41 1046 0)) (g41 1100023 (g41 1100023 (g41 1046 0))) = g41 1100023 (g41 1046 0)))
      have e2361_ : S 1100007 (g48 1100025 (g48 1046 0)) = S 1100007 (S 1100025 (S 1046 0)) := congrArg ((S 1100007)) (la_row_254 h397_ h2329_ (sm_nl_0 : sm_nl 0 (g41 1046 0) (g41 1100007 (g41 1046 0)) (g41 1100025 (g41 1046 0)) (g41 1100007 (g41 1100025 (g41 1046 0))) (g41 1100025 (g41 1100025 (g41 1046 0))) = g41 1100025 (g41 1046 0)) h2344_ (sm_nl_18 : sm_nl 18 (g22 1046 0) (g22 1100007 (g22 1046 0)) (g22 1100025 (g22 1046 0)) (g22 1100007 (g22 1100025 (g22 1046 0))) (g22 1100025 (g22 1100025 (g22 1046 0))) = g22 1100025 (g22 1046 0)))
      have e2362_ : S 1100007 (g48 1100025 (g48 1046 0)) = S 1100007 (g22 1100025 (g22 1046 0)) := congrArg ((S 1100007)) (la_row_255 h2329_ (sm_nl_0 : sm_nl 0 (g41 1046 0) (g41 1100007 (g41 1046 0)) (g41 1100025 (g41 1046 0)) (g41 1100007 (g41 1100025 (g41 1046 0))) (g41 1100025 (g41 1100025 (g41 1046 0))) = g41 1100025 (g41 1046 0)) h2344_ (sm_nl_18 : sm_nl 18 (g22 1046 0) (g22 1100007 (g22 1046 0)) (g22 1100025 (g22 1046 0)) (g22 1100007 (g22 1100025 (g22 1046 0))) (g22 1100025 (g22 1100025 (g22 1046 0))) = g22 1100025 (g22 1046 0)))
      have e2363_ : S 1100007 (g48 1100025 (g48 1046 0)) = S 1100007 (g41 1100025 (g41 1046 0)) := congrArg ((S 1100007)) (la_row_34 h2329_ (sm_nl_0 : sm_nl 0 (g41 1046 0) (g41 1100007 (g41 1046 0)) (g41 1100025 (g41 1046 0)) (g41 1100007 (g41 1100025 (g41 1046 0))) (g41 1100025 (g41 1100025 (g41 1046 0))) = g41 1100025 (g41 1046 0)))
      have e2364_ : S 12 (5 * l3_24 + 0) = S 12 (5 * l3_24) := congrArg ((S 12)) la_row_57
      have e2365_ : g22 1100007 (g41 1100023 (g41 1046 0)) = g22 1100007 (g22 1100023 (g22 1046 0)) := congrArg ((g22 1100007)) (la_row_34 h2342_ (sm_nt_18 : sm_nt 18 (g22 1046 0) (g22 1100023 (g22 1046 0)) (g22 1100023 (g22 1100023 (g22 1046 0))) = g22 1100023 (g22 1046 0)))
      have e2366_ : g22 1100007 (g41 1100025 (g41 1046 0)) = g22 1100007 (g22 1100025 (g22 1046 0)) := congrArg ((g22 1100007)) (la_row_34 h2344_ (sm_nl_18 : sm_nl 18 (g22 1046 0) (g22 1100007 (g22 1046 0)) (g22 1100025 (g22 1046 0)) (g22 1100007 (g22 1100025 (g22 1046 0))) (g22 1100025 (g22 1100025 (g22 1046 0))) = g22 1100025 (g22 1046 0)))
      have e2367_ : g22 1100007 (g48 1100023 (g48 1046 0)) = g22 1100007 (g22 1100023 (g22 1046 0)) := congrArg ((g22 1100007)) (la_row_255 h2327_ (sm_nt_0 : sm_nt 0 (g41 1046 0) (g41 1100023 (g41 1046 0)) (g41 1100023 (g41 1100023 (g41 1046 0))) = g41 1100023 (g41 1046 0)) h2342_ (sm_nt_18 : sm_nt 18 (g22 1046 0) (g22 1100023 (g22 1046 0)) (g22 1100023 (g22 1100023 (g22 1046 0))) = g22 1100023 (g22 1046 0)))
      have e2368_ : g22 1100007 (g48 1100023 (g48 1046 0)) = g22 1100007 (g41 1100023 (g41 1046 0)) := congrArg ((g22 1100007)) (la_row_34 h2327_ (sm_nt_0 : sm_nt 0 (g41 1046 0) (g41 1100023 (g41 1046 0)) (g41 1100023 (g41 1100023 (g41 1046 0))) = g41 1100023 (g41 1046 0)))
      have e2369_ : g22 1100007 (g48 1100025 (g48 1046 0)) = g22 1100007 (g22 1100025 (g22 1046 0)) := congrArg ((g22 1100007)) (la_row_255 h2329_ (sm_nl_0 : sm_nl 0 (g41 1046 0) (g41 1100007 (g41 1046 0)) (g41 1100025 (g41 1046 0)) (g41 1100007 (g41 1100025 (g41 1046 0))) (g41 1100025 (g41 1100025 (g41 1046 0))) = g41 1100025 (g41 1046 0)) h2344_ (sm_nl_18 : sm_nl 18 (g22 1046 0) (g22 1100007 (g22 1046 0)) (g22 1100025 (g22 1046 0)) (g22 1100007 (g22 1100025 (g22 1046 0))) (g22 1100025 (g22 1100025 (g22 1046 0))) = g22 1100025 (g22 1046 0)))
      have e2370_ : g22 1100007 (g48 1100025 (g48 1046 0)) = g22 1100007 (g41 1100025 (g41 1046 0)) := congrArg ((g22 1100007)) (la_row_34 h2329_ (sm_nl_0 : sm_nl 0 (g41 1046 0) (g41 1100007 (g41 1046 0)) (g41 1100025 (g41 1046 0)) (g41 1100007 (g41 1100025 (g41 1046 0))) (g41 1100025 (g41 1100025 (g41 1046 0))) = g41 1100025 (g41 1046 0)))
      have e2371_ : g22 1100007 (g58 1100023 (g58 1046 0)) = g22 1100007 (g22 1100023 (g22 1046 0)) := congrArg ((g22 1100007)) (la_row_256 h2309_ h2327_ (sm_nt_0 : sm_nt 0 (g41 1046 0) (g41 1100023 (g41 1046 0)) (g41 1100023 (g41 1100023 (g41 1046 0))) = g41 1100023 (g41 1046 0)) h2342_ (sm_nt_18 : sm_nt 18 (g22 1046 0) (g22 1100023 (g22 1046 0)) (g22 1100023 (g22 1100023 (g22 1046 0))) = g22 1100023 (g22 1046 0)))
      have e2372_ : g22 1100007 (g58 1100023 (g58 1046 0)) = g22 1100007 (g41 1100023 (g41 1046 0)) := congrArg ((g22 1100007)) (la_row_257 h2309_ h2327_ (sm_nt_0 : sm_nt 0 (g41 1046 0) (g41 1100023 (g41 1046 0)) (g41 1100023 (g41 1100023 (g41 1046 0))) = g41 1100023 (g41 1046 0)))
      have e2373_ : g22 1100007 (g58 1100023 (g58 1046 0)) = g22 1100007 (g48 1100023 (g48 1046 0)) := congrArg ((g22 1100007)) h2309_
      have e2374_ : g22 1100007 (g58 1100025 (g58 1046 0)) = g22 1100007 (g22 1100025 (g22 1046 0)) := congrArg ((g22 1100007)) (la_row_256 h2311_ h2329_ (sm_nl_0 : sm_nl 0 (g41 1046 0) (g41 1100007 (g41 1046 0)) (g41 1100025 (g41 1046 0)) (g41 1100007 (g41 1100025 (g41 1046 0))) (g41 1100025 (g41 1100025 (g41 1046 0))) = g41 1100025 (g41 1046 0)) h2344_ (sm_nl_18 : sm_nl 18 (g22 1046 0) (g22 1100007 (g22 1046 0)) (g22 1100025 (g22 1046 0)) (g22 1100007 (g22 1100025 (g22 1046 0))) (g22 1100025 (g22 1100025 (g22 1046 0))) = g22 1100025 (g22 1046 0)))
      have e2375_ : g22 1100007 (g58 1100025 (g58 1046 0)) = g22 1100007 (g41 1100025 (g41 1046 0)) := congrArg ((g22 1100007)) (la_row_257 h2311_ h2329_ (sm_nl_0 : sm_nl 0 (g41 1046 0) (g41 1100007 (g41 1046 0)) (g41 1100025 (g41 1046 0)) (g41 1100007 (g41 1100025 (g41 1046 0))) (g41 1100025 (g41 1100025 (g41 1046 0))) = g41 1100025 (g41 1046 0)))
      have e2376_ : g22 1100007 (g58 1100025 (g58 1046 0)) = g22 1100007 (g48 1100025 (g48 1046 0)) := congrArg ((g22 1100007)) h2311_
      have e2377_ : g41 1100007 (g48 1100023 (g48 1046 0)) = g41 1100007 (g41 1100023 (g41 1046 0)) := congrArg ((g41 1100007)) (la_row_34 h2327_ (sm_nt_0 : sm_nt 0 (g41 1046 0) (g41 1100023 (g41 1046 0)) (g41 1100023 (g41 1100023 (g41 1046 0))) = g41 1100023 (g41 1046 0)))
      have e2378_ : g41 1100007 (g48 1100025 (g48 1046 0)) = g41 1100007 (g41 1100025 (g41 1046 0)) := congrArg ((g41 1100007)) (la_row_34 h2329_ (sm_nl_0 : sm_nl 0 (g41 1046 0) (g41 1100007 (g41 1046 0)) (g41 1100025 (g41 1046 0)) (g41 1100007 (g41 1100025 (g41 1046 0))) (g41 1100025 (g41 1100025 (g41 1046 0))) = g41 1100025 (g41 1046 0)))
      have e2379_ : g41 1100007 (g58 1100023 (g58 1046 0)) = g41 1100007 (g41 1100023 (g41 1046 0)) := congrArg ((g41 1100007)) (la_row_257 h2309_ h2327_ (sm_nt_0 : sm_nt 0 (g41 1046 0) (g41 1100023 (g41 1046 0)) (g41 1100023 (g41 1100023 (g41 1046 0))) = g41 1100023 (g41 1046 0)))
      have e2380_ : g41 1100007 (g58 1100023 (g58 1046 0)) = g41 1100007 (g48 1100023 (g48 1046 0)) := congrArg ((g41 1100007)) h2309_
      have e2381_ : g41 1100007 (g58 1100025 (g58 1046 0)) = g41 1100007 (g41 1100025 (g41 1046 0)) := congrArg ((g41 1100007)) (la_row_257 h2311_ h2329_ (sm_nl_0 : sm_nl 0 (g41 1046 0) (g41 1100007 (g41 1046 0)) (g41 1100025 (g41 1046 0)) (g41 1100007 (g41 1100025 (g41 1046 0))) (g41 1100025 (g41 1100025 (g41 1046 0))) = g41 1100025 (g41 1046 0)))
      have e2382_ : g41 1100007 (g58 1100025 (g58 1046 0)) = g41 1100007 (g48 1100025 (g48 1046 0)) := congrArg ((g41 1100007)) h2311_
      have e2383_ : g41 1100007 (g65 1100023 (g65 1046 0)) = g41 1100007 (g41 1100023 (g41 1046 0)) := congrArg ((g41 1100007)) (la_row_256 h2292_ (sm_nt_11 : sm_nt 11 (g58 1046 0) (g58 1100023 (g58 1046 0)) (g58 1100023 (g58 1100023 (g58 1046 0))) = g58 1100023 (g58 1046 0)) h2309_ h2327_ (sm_nt_0 : sm_nt 0 (g41 1046 0) (g41 1100023 (g41 1046 0)) (g41 1100023 (g41 1100023 (g41 1046 0))) = g41 1100023 (g41 1046 0)))
      have e2384_ : g41 1100007 (g65 1100023 (g65 1046 0)) = g41 1100007 (g48 1100023 (g48 1046 0)) := congrArg ((g41 1100007)) (la_row_257 h2292_ (sm_nt_11 : sm_nt 11 (g58 1046 0) (g58 1100023 (g58 1046 0)) (g58 1100023 (g58 1100023 (g58 1046 0))) = g58 1100023 (g58 1046 0)) h2309_)
      have e2385_ : g41 1100007 (g65 1100023 (g65 1046 0)) = g41 1100007 (g58 1100023 (g58 1046 0)) := congrArg ((g41 1100007)) (la_row_34 h2292_ (sm_nt_11 : sm_nt 11 (g58 1046 0) (g58 1100023 (g58 1046 0)) (g58 1100023 (g58 1100023 (g58 1046 0))) = g58 1100023 (g58 1046 0)))
      have e2386_ : g41 1100007 (g65 1100025 (g65 1046 0)) = g41 1100007 (g41 1100025 (g41 1046 0)) := congrArg ((g41 1100007)) (la_row_256 h2294_ (sm_nl_11 : sm_nl 11 (g58 1046 0) (g58 1100007 (g58 1046 0)) (g58 1100025 (g58 1046 0)) (g58 1100007 (g58 1100025 (g58 1046 0))) (g58 1100025 (g58 1100025 (g58 1046 0))) = g58 1100025 (g58 1046 0)) h2311_ h2329_ (sm_nl_0 : sm_nl 0 (g41 1046 0) (g41 1100007 (g41 1046 0)) (g41 1100025 (g41 1046 0)) (g41 1100007 (g41 1100025 (g41 1046 0))) (g41 1100025 (g41 1100025 (g41 1046 0))) = g41 1100025 (g41 1046 0)))
      have e2387_ : g41 1100007 (g65 1100025 (g65 1046 0)) = g41 1100007 (g48 1100025 (g48 1046 0)) := congrArg ((g41 1100007)) (la_row_257 h2294_ (sm_nl_11 : sm_nl 11 (g58 1046 0) (g58 1100007 (g58 1046 0)) (g58 1100025 (g58 1046 0)) (g58 1100007 (g58 1100025 (g58 1046 0))) (g58 1100025 (g58 1100025 (g58 1046 0))) = g58 1100025 (g58 1046 0)) h2311_)
      have e2388_ : g41 1100007 (g65 1100025 (g65 1046 0)) = g41 1100007 (g58 1100025 (g58 1046 0)) := congrArg ((g41 1100007)) (la_row_34 h2294_ (sm_nl_11 : sm_nl 11 (g58 1046 0) (g58 1100007 (g58 1046 0)) (g58 1100025 (g58 1046 0)) (g58 1100007 (g58 1100025 (g58 1046 0))) (g58 1100025 (g58 1100025 (g58 1046 0))) = g58 1100025 (g58 1046 0)))
      have e2389_ : g41 1100025 (g65 1100025 (g65 1046 0)) = g41 1100025 (g41 1100025 (g41 1046 0)) := congrArg ((g41 1100025)) (la_row_256 h2294_ (sm_nl_11 : sm_nl 11 (g58 1046 0) (g58 1100007 (g58 1046 0)) (g58 1100025 (g58 1046 0)) (g58 1100007 (g58 1100025 (g58 1046 0))) (g58 1100025 (g58 1100025 (g58 1046 0))) = g58 1100025 (g58 1046 0)) h2311_ h2329_ (sm_nl_0 : sm_nl 0 (g41 1046 0) (g41 1100007 (g41 1046 0)) (g41 1100025 (g41 1046 0)) (g41 1100007 (g41 1100025 (g41 1046 0))) (g41 1100025 (g41 1100025 (g41 1046 0))) = g41 1100025 (g41 1046 0)))
      have e2390_ : g48 1100007 (g58 1100023 (g58 1046 0)) = g48 1100007 (g48 1100023 (g48 1046 0)) := congrArg ((g48 1100007)) h2309_
      have e2391_ : g48 1100007 (g58 1100025 (g58 1046 0)) = g48 1100007 (g48 1100025 (g48 1046 0)) := congrArg ((g48 1100007)) h2311_
      have e2392_ : g48 1100007 (g65 1100023 (g65 1046 0)) = g48 1100007 (g48 1100023 (g48 1046 0)) := congrArg ((g48 1100007)) (la_row_257 h2292_ (sm_nt_11 : sm_nt 11 (g58 1046 0) (g58 1100023 (g58 1046 0)) (g58 1100023 (g58 1100023 (g58 1046 0))) = g58 1100023 (g58 1046 0)) h2309_)
      have e2393_ : g48 1100007 (g65 1100023 (g65 1046 0)) = g48 1100007 (g58 1100023 (g58 1046 0)) := congrArg ((g48 1100007)) (la_row_34 h2292_ (sm_nt_11 : sm_nt 11 (g58 1046 0) (g58 1100023 (g58 1046 0)) (g58 1100023 (g58 1100023 (g58 1046 0))) = g58 1100023 (g58 1046 0)))
      have e2394_ : g48 1100007 (g65 1100025 (g65 1046 0)) = g48 1100007 (g48 1100025 (g48 1046 0)) := congrArg ((g48 1100007)) (la_row_257 h2294_ (sm_nl_11 : sm_nl 11 (g58 1046 0) (g58 1100007 (g58 1046 0)) (g58 1100025 (g58 1046 0)) (g58 1100007 (g58 1100025 (g58 1046 0))) (g58 1100025 (g58 1100025 (g58 1046 0))) = g58 1100025 (g58 1046 0)) h2311_)
      have e2395_ : g48 1100007 (g65 1100025 (g65 1046 0)) = g48 1100007 (g58 1100025 (g58 1046 0)) := congrArg ((g48 1100007)) (la_row_34 h2294_ (sm_nl_11 : sm_nl 11 (g58 1046 0) (g58 1100007 (g58 1046 0)) (g58 1100025 (g58 1046 0)) (g58 1100007 (g58 1100025 (g58 1046 0))) (g58 1100025 (g58 1100025 (g58 1046 0))) = g58 1100025 (g58 1046 0)))
      have e2396_ : g48 1100007 (g72 1100023 (g72 1046 0)) = g48 1100007 (g48 1100023 (g48 1046 0)) := congrArg ((g48 1100007)) (la_row_256 h2275_ (sm_nt_17 : sm_nt 17 (g65 1046 0) (g65 1100023 (g65 1046 0)) (g65 1100023 (g65 1100023 (g65 1046 0))) = g65 1100023 (g65 1046 0)) h2292_ (sm_nt_11 : sm_nt 11 (g58 1046 0) (g58 1100023 (g58 1046 0)) (g58 1100023 (g58 1100023 (g58 1046 0))) = g58 1100023 (g58 1046 0)) h2309_)
      have e2397_ : g48 1100007 (g72 1100023 (g72 1046 0)) = g48 1100007 (g58 1100023 (g58 1046 0)) := congrArg ((g48 1100007)) (la_row_255 h2275_ (sm_nt_17 : sm_nt 17 (g65 1046 0) (g65 1100023 (g65 1046 0)) (g65 1100023 (g65 1100023 (g65 1046 0))) = g65 1100023 (g65 1046 0)) h2292_ (sm_nt_11 : sm_nt 11 (g58 1046 0) (g58 1100023 (g58 1046 0)) (g58 1100023 (g58 1100023 (g58 1046 0))) = g58 1100023 (g58 1046 0)))
      have e2398_ : g48 1100007 (g72 1100023 (g72 1046 0)) = g48 1100007 (g65 1100023 (g65 1046 0)) := congrArg ((g48 1100007)) (la_row_34 h2275_ (sm_nt_17 : sm_nt 17 (g65 1046 0) (g65 1100023 (g65 1046 0)) (g65 1100023 (g65 1100023 (g65 1046 0))) = g65 1100023 (g65 1046 0)))
      have e2399_ : g58 1100007 (g65 1100023 (g65 1046 0)) = g58 1100007 (g58 1100023 (g58 1046 0)) := congrArg ((g58 1100007)) (la_row_34 h2292_ (sm_nt_11 : sm_nt 11 (g58 1046 0) (g58 1100023 (g58 1046 0)) (g58 1100023 (g58 1100023 (g58 1046 0))) = g58 1100023 (g58 1046 0)))
      have e2400_ : g58 1100007 (g65 1100025 (g65 1046 0)) = g58 1100007 (g58 1100025 (g58 1046 0)) := congrArg ((g58 1100007)) (la_row_34 h2294_ (sm_nl_11 : sm_nl 11 (g58 1046 0) (g58 1100007 (g58 1046 0)) (g58 1100025 (g58 1046 0)) (g58 1100007 (g58 1100025 (g58 1046 0))) (g58 1100025 (g58 1100025 (g58 1046 0))) = g58 1100025 (g58 1046 0)))
      have e2401_ : g58 1100007 (g72 1100023 (g72 1046 0)) = g58 1100007 (g58 1100023 (g58 1046 0)) := congrArg ((g58 1100007)) (la_row_255 h2275_ (sm_nt_17 : sm_nt 17 (g65 1046 0) (g65 1100023 (g65 1046 0)) (g65 1100023 (g65 1100023 (g65 1046 0))) = g65 1100023 (g65 1046 0)) h2292_ (sm_nt_11 : sm_nt 11 (g58 1046 0) (g58 1100023 (g58 1046 0)) (g58 1100023 (g58 1100023 (g58 1046 0))) = g58 1100023 (g58 1046 0)))
      have e2402_ : g58 1100007 (g72 1100023 (g72 1046 0)) = g58 1100007 (g65 1100023 (g65 1046 0)) := congrArg ((g58 1100007)) (la_row_34 h2275_ (sm_nt_17 : sm_nt 17 (g65 1046 0) (g65 1100023 (g65 1046 0)) (g65 1100023 (g65 1100023 (g65 1046 0))) = g65 1100023 (g65 1046 0)))
      have e2403_ : g58 1100025 (g65 1100025 (g65 1046 0)) = g58 1100025 (g58 1100025 (g58 1046 0)) := congrArg ((g58 1100025)) (la_row_34 h2294_ (sm_nl_11 : sm_nl 11 (g58 1046 0) (g58 1100007 (g58 1046 0)) (g58 1100025 (g58 1046 0)) (g58 1100007 (g58 1100025 (g58 1046 0))) (g58 1100025 (g58 1100025 (g58 1046 0))) = g58 1100025 (g58 1046 0)))
      have e2404_ : g65 1100007 (g72 1100023 (g72 1046 0)) = g65 1100007 (g65 1100023 (g65 1046 0)) := congrArg ((g65 1100007)) (la_row_34 h2275_ (sm_nt_17 : sm_nt 17 (g65 1046 0) (g65 1100023 (g65 1046 0)) (g65 1100023 (g65 1100023 (g65 1046 0))) = g65 1100023 (g65 1046 0)))
      have e2405_ : g65 1100007 (g72 1100025 (g72 1046 0)) = g65 1100007 (g65 1100025 (g65 1046 0)) := congrArg ((g65 1100007)) (la_row_258 h28_ h394_ h397_ h399_ (sm_KC_n h2270_).2.1.2.2.2.2.2.2.1 h2277_ (sm_nl_17b : (0 ≤ g65 1100025 (g65 1046 0) → g65 1100007 (g65 1100025 (g65 1046 0)) < g65 1100007 (g65 1046 0)) → sm_nl 17 (g65 1046 0) (g65 1100007 (g65 1046 0)) (g65 1100025 (g65 1046 0)) (g65 1100007 (g65 1100025 (g65 1046 0))) (g65 1100025 (g65 1100025 (g65 1046 0))) = g65 1100025 (g65 1046 0)) h2291_ (sm_dl_11 : sm_dl 11 0 = (-2)) h2294_ (sm_nl_11 : sm_nl 11 (g58 1046 0) (g58 1100007 (g58 1046 0)) (g58 1100025 (g58 1046 0)) (g58 1100007 (g58 1100025 (g58 1046 0))) (g58 1100025 (g58 1100025 (g58 1046 0))) = g58 1100025 (g58 1046 0)) h2308_ h2311_ h2313_ h2319_ h2326_ (sm_dl_0 : sm_dl 0 5 = 1) h2329_ (sm_nl_0 : sm_nl 0 (g41 1046 0) (g41 1100007 (g41 1046 0)) (g41 1100025 (g41 1046 0)) (g41 1100007 (g41 1100025 (g41 1046 0))) (g41 1100025 (g41 1100025 (g41 1046 0))) = g41 1100025 (g41 1046 0)) h2341_ (sm_dl_18 : sm_dl 18 0 = 1) h2344_ (sm_nl_18 : sm_nl 18 (g22 1046 0) (g22 1100007 (g22 1046 0)) (g22 1100025 (g22 1046 0)) (g22 1100007 (g22 1100025 (g22 1046 0))) (g22 1100025 (g22 1100025 (g22 1046 0))) = g22 1100025 (g22 1046 0)) h2349_ h2351_)
      exact (la_row_259 h28_ h394_ h397_ h399_ (sm_KC_n h2270_).2.1.2.2.2.2.2.2.1 h2277_ (sm_nl_17b : (0 ≤ g65 1100025 (g65 1046 0) → g65 1100007 (g65 1100025 (g65 1046 0)) < g65 1100007 (g65 1046 0)) → sm_nl 17 (g65 1046 0) (g65 1100007 (g65 1046 0)) (g65 1100025 (g65 1046 0)) (g65 1100007 (g65 1100025 (g65 1046 0))) (g65 1100025 (g65 1100025 (g65 1046 0))) = g65 1100025 (g65 1046 0)) h2291_ (sm_dl_11 : sm_dl 11 0 = (-2)) h2294_ (sm_nl_11 : sm_nl 11 (g58 1046 0) (g58 1100007 (g58 1046 0)) (g58 1100025 (g58 1046 0)) (g58 1100007 (g58 1100025 (g58 1046 0))) (g58 1100025 (g58 1100025 (g58 1046 0))) = g58 1100025 (g58 1046 0)) h2308_ h2311_ h2313_ h2319_ h2326_ (sm_dl_0 : sm_dl 0 5 = 1) h2329_ (sm_nl_0 : sm_nl 0 (g41 1046 0) (g41 1100007 (g41 1046 0)) (g41 1100025 (g41 1046 0)) (g41 1100007 (g41 1100025 (g41 1046 0))) (g41 1100025 (g41 1100025 (g41 1046 0))) = g41 1100025 (g41 1046 0)) h2341_ (sm_dl_18 : sm_dl 18 0 = 1) h2344_ (sm_nl_18 : sm_nl 18 (g22 1046 0) (g22 1100007 (g22 1046 0)) (g22 1100025 (g22 1046 0)) (g22 1100007 (g22 1100025 (g22 1046 0))) (g22 1100025 (g22 1100025 (g22 1046 0))) = g22 1100025 (g22 1046 0)) h2349_ h2351_)
    refine ⟨(la_row_241 h398_ h2278_ (sm_nt_17 : sm_nt 17 (g65 1100007 (g65 1046 0)) (g65 1100007 (g65 1100023 (g65 1046 0))) (g65 1100007 (g65 1100023 (g65 1100023 (g65 1046 0)))) = g65 1100007 (g65 1100023 (g65 1046 0))) h2295_ (sm_nt_11 : sm_nt 11 (g58 1100007 (g58 1046 0)) (g58 1100007 (g58 1100023 (g58 1046 0))) (g58 1100007 (g58 1100023 (g58 1100023 (g58 1046 0)))) = g58 1100007 (g58 1100023 (g58 1046 0))) h2312_ h2330_ (sm_nt_0 : sm_nt 0 (g41 1100007 (g41 1046 0)) (g41 1100007 (g41 1100023 (g41 1046 0))) (g41 1100007 (g41 1100023 (g41 1100023 (g41 1046 0)))) = g41 1100007 (g41 1100023 (g41 1046 0))) h2345_ (sm_nt_18 : sm_nt 18 (g22 1100007 (g22 1046 0)) (g22 1100007 (g22 1100023 (g22 1046 0))) (g22 1100007 (g22 1100023 (g22 1100023 (g22 1046 0)))) = g22 1100007 (g22 1100023 (g22 1046 0)))), ?_⟩
    refine ⟨?_, ?_⟩
    · skip
      have e2406_ : S 1100007 (g22 1100023 (g22 1046 0)) = S 1100007 (S 1100023 (S 1046 0)) := congrArg ((S 1100007)) h395_
      have e2407_ : S 1100007 (g22 1100025 (g22 1046 0)) = S 1100007 (S 1100025 (S 1046 0)) := congrArg ((S 1100007)) h397_
      have e2408_ : S 1100007 (g41 1100023 (g41 1046 0)) = S 1100007 (S 1100023 (S 1046 0)) := congrArg ((S 1100007)) (la_row_133 h395_ h2342_ (sm_nt_18 : sm_nt 18 (g22 1046 0) (g22 1100023 (g22 1046 0)) (g22 1100023 (g22 1100023 (g22 1046 0))) = g22 1100023 (g22 1046 0)))
      have e2409_ : S 1100007 (g41 1100023 (g41 1046 0)) = S 1100007 (g22 1100023 (g22 1046 0)) := congrArg ((S 1100007)) (la_row_34 h2342_ (sm_nt_18 : sm_nt 18 (g22 1046 0) (g22 1100023 (g22 1046 0)) (g22 1100023 (g22 1100023 (g22 1046 0))) = g22 1100023 (g22 1046 0)))
      have e2410_ : S 1100007 (g41 1100025 (g41 1046 0)) = S 1100007 (S 1100025 (S 1046 0)) := congrArg ((S 1100007)) (la_row_133 h397_ h2344_ (sm_nl_18 : sm_nl 18 (g22 1046 0) (g22 1100007 (g22 1046 0)) (g22 1100025 (g22 1046 0)) (g22 1100007 (g22 1100025 (g22 1046 0))) (g22 1100025 (g22 1100025 (g22 1046 0))) = g22 1100025 (g22 1046 0)))
      have e2411_ : S 1100007 (g41 1100025 (g41 1046 0)) = S 1100007 (g22 1100025 (g22 1046 0)) := congrArg ((S 1100007)) (la_row_34 h2344_ (sm_nl_18 : sm_nl 18 (g22 1046 0) (g22 1100007 (g22 1046 0)) (g22 1100025 (g22 1046 0)) (g22 1100007 (g22 1100025 (g22 1046 0))) (g22 1100025 (g22 1100025 (g22 1046 0))) = g22 1100025 (g22 1046 0)))
      have e2412_ : S 1100007 (g48 1100023 (g48 1046 0)) = S 1100007 (S 1100023 (S 1046 0)) := congrArg ((S 1100007)) (la_row_254 h395_ h2327_ (sm_nt_0 : sm_nt 0 (g41 1046 0) (g41 1100023 (g41 1046 0)) (g41 1100023 (g41 1100023 (g41 1046 0))) = g41 1100023 (g41 1046 0)) h2342_ (sm_nt_18 : sm_nt 18 (g22 1046 0) (g22 1100023 (g22 1046 0)) (g22 1100023 (g22 1100023 (g22 1046 0))) = g22 1100023 (g22 1046 0)))
      have e2413_ : S 1100007 (g48 1100023 (g48 1046 0)) = S 1100007 (g22 1100023 (g22 1046 0)) := congrArg ((S 1100007)) (la_row_255 h2327_ (sm_nt_0 : sm_nt 0 (g41 1046 0) (g41 1100023 (g41 1046 0)) (g41 1100023 (g41 1100023 (g41 1046 0))) = g41 1100023 (g41 1046 0)) h2342_ (sm_nt_18 : sm_nt 18 (g22 1046 0) (g22 1100023 (g22 1046 0)) (g22 1100023 (g22 1100023 (g22 1046 0))) = g22 1100023 (g22 1046 0)))
      have e2414_ : S 1100007 (g48 1100023 (g48 1046 0)) = S 1100007 (g41 1100023 (g41 1046 0)) := congrArg ((S 1100007)) (la_row_34 h2327_ (sm_nt_0 : sm_nt 0 (g41 1046 0) (g41 1100023 (g41 1046 0)) (g41 1100023 (g41 1100023 (g41 1046 0))) = g41 1100023 (g41 1046 0)))
      have e2415_ : S 1100007 (g48 1100025 (g48 1046 0)) = S 1100007 (S 1100025 (S 1046 0)) := congrArg ((S 1100007)) (la_row_254 h397_ h2329_ (sm_nl_0 : sm_nl 0 (g41 1046 0) (g41 1100007 (g41 1046 0)) (g41 1100025 (g41 1046 0)) (g41 1100007 (g41 1100025 (g41 1046 0))) (g41 1100025 (g41 1100025 (g41 1046 0))) = g41 1100025 (g41 1046 0)) h2344_ (sm_nl_18 : sm_nl 18 (g22 1046 0) (g22 1100007 (g22 1046 0)) (g22 1100025 (g22 1046 0)) (g22 1100007 (g22 1100025 (g22 1046 0))) (g22 1100025 (g22 1100025 (g22 1046 0))) = g22 1100025 (g22 1046 0)))
      have e2416_ : S 1100007 (g48 1100025 (g48 1046 0)) = S 1100007 (g22 1100025 (g22 1046 0)) := congrArg ((S 1100007)) (la_row_255 h2329_ (sm_nl_0 : sm_nl 0 (g41 1046 0) (g41 1100007 (g41 1046 0)) (g41 1100025 (g41 1046 0)) (g41 1100007 (g41 1100025 (g41 1046 0))) (g41 1100025 (g41 1100025 (g41 1046 0))) = g41 1100025 (g41 1046 0)) h2344_ (sm_nl_18 : sm_nl 18 (g22 1046 0) (g22 1100007 (g22 1046 0)) (g22 1100025 (g22 1046 0)) (g22 1100007 (g22 1100025 (g22 1046 0))) (g22 1100025 (g22 1100025 (g22 1046 0))) = g22 1100025 (g22 1046 0)))
      have e2417_ : S 1100007 (g48 1100025 (g48 1046 0)) = S 1100007 (g41 1100025 (g41 1046 0)) := congrArg ((S 1100007)) (la_row_34 h2329_ (sm_nl_0 : sm_nl 0 (g41 1046 0) (g41 1100007 (g41 1046 0)) (g41 1100025 (g41 1046 0)) (g41 1100007 (g41 1100025 (g41 1046 0))) (g41 1100025 (g41 1100025 (g41 1046 0))) = g41 1100025 (g41 1046 0)))
      have e2418_ : S 12 (5 * l3_24 + 0) = S 12 (5 * l3_24) := congrArg ((S 12)) la_row_57
      have e2419_ : g22 1100007 (g41 1100023 (g41 1046 0)) = g22 1100007 (g22 1100023 (g22 1046 0)) := congrArg ((g22 1100007)) (la_row_34 h2342_ (sm_nt_18 : sm_nt 18 (g22 1046 0) (g22 1100023 (g22 1046 0)) (g22 1100023 (g22 1100023 (g22 1046 0))) = g22 1100023 (g22 1046 0)))
      have e2420_ : g22 1100007 (g41 1100025 (g41 1046 0)) = g22 1100007 (g22 1100025 (g22 1046 0)) := congrArg ((g22 1100007)) (la_row_34 h2344_ (sm_nl_18 : sm_nl 18 (g22 1046 0) (g22 1100007 (g22 1046 0)) (g22 1100025 (g22 1046 0)) (g22 1100007 (g22 1100025 (g22 1046 0))) (g22 1100025 (g22 1100025 (g22 1046 0))) = g22 1100025 (g22 1046 0)))
      have e2421_ : g22 1100007 (g48 1100023 (g48 1046 0)) = g22 1100007 (g22 1100023 (g22 1046 0)) := congrArg ((g22 1100007)) (la_row_255 h2327_ (sm_nt_0 : sm_nt 0 (g41 1046 0) (g41 1100023 (g41 1046 0)) (g41 1100023 (g41 1100023 (g41 1046 0))) = g41 1100023 (g41 1046 0)) h2342_ (sm_nt_18 : sm_nt 18 (g22 1046 0) (g22 1100023 (g22 1046 0)) (g22 1100023 (g22 1100023 (g22 1046 0))) = g22 1100023 (g22 1046 0)))
      have e2422_ : g22 1100007 (g48 1100023 (g48 1046 0)) = g22 1100007 (g41 1100023 (g41 1046 0)) := congrArg ((g22 1100007)) (la_row_34 h2327_ (sm_nt_0 : sm_nt 0 (g41 1046 0) (g41 1100023 (g41 1046 0)) (g41 1100023 (g41 1100023 (g41 1046 0))) = g41 1100023 (g41 1046 0)))
      have e2423_ : g22 1100007 (g48 1100025 (g48 1046 0)) = g22 1100007 (g22 1100025 (g22 1046 0)) := congrArg ((g22 1100007)) (la_row_255 h2329_ (sm_nl_0 : sm_nl 0 (g41 1046 0) (g41 1100007 (g41 1046 0)) (g41 1100025 (g41 1046 0)) (g41 1100007 (g41 1100025 (g41 1046 0))) (g41 1100025 (g41 1100025 (g41 1046 0))) = g41 1100025 (g41 1046 0)) h2344_ (sm_nl_18 : sm_nl 18 (g22 1046 0) (g22 1100007 (g22 1046 0)) (g22 1100025 (g22 1046 0)) (g22 1100007 (g22 1100025 (g22 1046 0))) (g22 1100025 (g22 1100025 (g22 1046 0))) = g22 1100025 (g22 1046 0)))
      have e2424_ : g22 1100007 (g48 1100025 (g48 1046 0)) = g22 1100007 (g41 1100025 (g41 1046 0)) := congrArg ((g22 1100007)) (la_row_34 h2329_ (sm_nl_0 : sm_nl 0 (g41 1046 0) (g41 1100007 (g41 1046 0)) (g41 1100025 (g41 1046 0)) (g41 1100007 (g41 1100025 (g41 1046 0))) (g41 1100025 (g41 1100025 (g41 1046 0))) = g41 1100025 (g41 1046 0)))
      have e2425_ : g22 1100007 (g58 1100023 (g58 1046 0)) = g22 1100007 (g22 1100023 (g22 1046 0)) := congrArg ((g22 1100007)) (la_row_256 h2309_ h2327_ (sm_nt_0 : sm_nt 0 (g41 1046 0) (g41 1100023 (g41 1046 0)) (g41 1100023 (g41 1100023 (g41 1046 0))) = g41 1100023 (g41 1046 0)) h2342_ (sm_nt_18 : sm_nt 18 (g22 1046 0) (g22 1100023 (g22 1046 0)) (g22 1100023 (g22 1100023 (g22 1046 0))) = g22 1100023 (g22 1046 0)))
      have e2426_ : g22 1100007 (g58 1100023 (g58 1046 0)) = g22 1100007 (g41 1100023 (g41 1046 0)) := congrArg ((g22 1100007)) (la_row_257 h2309_ h2327_ (sm_nt_0 : sm_nt 0 (g41 1046 0) (g41 1100023 (g41 1046 0)) (g41 1100023 (g41 1100023 (g41 1046 0))) = g41 1100023 (g41 1046 0)))
      have e2427_ : g22 1100007 (g58 1100023 (g58 1046 0)) = g22 1100007 (g48 1100023 (g48 1046 0)) := congrArg ((g22 1100007)) h2309_
      have e2428_ : g22 1100007 (g58 1100025 (g58 1046 0)) = g22 1100007 (g22 1100025 (g22 1046 0)) := congrArg ((g22 1100007)) (la_row_256 h2311_ h2329_ (sm_nl_0 : sm_nl 0 (g41 1046 0) (g41 1100007 (g41 1046 0)) (g41 1100025 (g41 1046 0)) (g41 1100007 (g41 1100025 (g41 1046 0))) (g41 1100025 (g41 1100025 (g41 1046 0))) = g41 1100025 (g41 1046 0)) h2344_ (sm_nl_18 : sm_nl 18 (g22 1046 0) (g22 1100007 (g22 1046 0)) (g22 1100025 (g22 1046 0)) (g22 1100007 (g22 1100025 (g22 1046 0))) (g22 1100025 (g22 1100025 (g22 1046 0))) = g22 1100025 (g22 1046 0)))
      have e2429_ : g22 1100007 (g58 1100025 (g58 1046 0)) = g22 1100007 (g41 1100025 (g41 1046 0)) := congrArg ((g22 1100007)) (la_row_257 h2311_ h2329_ (sm_nl_0 : sm_nl 0 (g41 1046 0) (g41 1100007 (g41 1046 0)) (g41 1100025 (g41 1046 0)) (g41 1100007 (g41 1100025 (g41 1046 0))) (g41 1100025 (g41 1100025 (g41 1046 0))) = g41 1100025 (g41 1046 0)))
      have e2430_ : g22 1100007 (g58 1100025 (g58 1046 0)) = g22 1100007 (g48 1100025 (g48 1046 0)) := congrArg ((g22 1100007)) h2311_
      have e2431_ : g41 1100007 (g48 1100023 (g48 1046 0)) = g41 1100007 (g41 1100023 (g41 1046 0)) := congrArg ((g41 1100007)) (la_row_34 h2327_ (sm_nt_0 : sm_nt 0 (g41 1046 0) (g41 1100023 (g41 1046 0)) (g41 1100023 (g41 1100023 (g41 1046 0))) = g41 1100023 (g41 1046 0)))
      have e2432_ : g41 1100007 (g48 1100025 (g48 1046 0)) = g41 1100007 (g41 1100025 (g41 1046 0)) := congrArg ((g41 1100007)) (la_row_34 h2329_ (sm_nl_0 : sm_nl 0 (g41 1046 0) (g41 1100007 (g41 1046 0)) (g41 1100025 (g41 1046 0)) (g41 1100007 (g41 1100025 (g41 1046 0))) (g41 1100025 (g41 1100025 (g41 1046 0))) = g41 1100025 (g41 1046 0)))
      have e2433_ : g41 1100007 (g58 1100023 (g58 1046 0)) = g41 1100007 (g41 1100023 (g41 1046 0)) := congrArg ((g41 1100007)) (la_row_257 h2309_ h2327_ (sm_nt_0 : sm_nt 0 (g41 1046 0) (g41 1100023 (g41 1046 0)) (g41 1100023 (g41 1100023 (g41 1046 0))) = g41 1100023 (g41 1046 0)))
      have e2434_ : g41 1100007 (g58 1100023 (g58 1046 0)) = g41 1100007 (g48 1100023 (g48 1046 0)) := congrArg ((g41 1100007)) h2309_
      have e2435_ : g41 1100007 (g58 1100025 (g58 1046 0)) = g41 1100007 (g41 1100025 (g41 1046 0)) := congrArg ((g41 1100007)) (la_row_257 h2311_ h2329_ (sm_nl_0 : sm_nl 0 (g41 1046 0) (g41 1100007 (g41 1046 0)) (g41 1100025 (g41 1046 0)) (g41 1100007 (g41 1100025 (g41 1046 0))) (g41 1100025 (g41 1100025 (g41 1046 0))) = g41 1100025 (g41 1046 0)))
      have e2436_ : g41 1100007 (g58 1100025 (g58 1046 0)) = g41 1100007 (g48 1100025 (g48 1046 0)) := congrArg ((g41 1100007)) h2311_
      have e2437_ : g41 1100007 (g65 1100023 (g65 1046 0)) = g41 1100007 (g41 1100023 (g41 1046 0)) := congrArg ((g41 1100007)) (la_row_256 h2292_ (sm_nt_11 : sm_nt 11 (g58 1046 0) (g58 1100023 (g58 1046 0)) (g58 1100023 (g58 1100023 (g58 1046 0))) = g58 1100023 (g58 1046 0)) h2309_ h2327_ (sm_nt_0 : sm_nt 0 (g41 1046 0) (g41 1100023 (g41 1046 0)) (g41 1100023 (g41 1100023 (g41 1046 0))) = g41 1100023 (g41 1046 0)))
      have e2438_ : g41 1100007 (g65 1100023 (g65 1046 0)) = g41 1100007 (g48 1100023 (g48 1046 0)) := congrArg ((g41 1100007)) (la_row_257 h2292_ (sm_nt_11 : sm_nt 11 (g58 1046 0) (g58 1100023 (g58 1046 0)) (g58 1100023 (g58 1100023 (g58 1046 0))) = g58 1100023 (g58 1046 0)) h2309_)
      have e2439_ : g41 1100007 (g65 1100023 (g65 1046 0)) = g41 1100007 (g58 1100023 (g58 1046 0)) := congrArg ((g41 1100007)) (la_row_34 h2292_ (sm_nt_11 : sm_nt 11 (g58 1046 0) (g58 1100023 (g58 1046 0)) (g58 1100023 (g58 1100023 (g58 1046 0))) = g58 1100023 (g58 1046 0)))
      have e2440_ : g41 1100007 (g65 1100025 (g65 1046 0)) = g41 1100007 (g41 1100025 (g41 1046 0)) := congrArg ((g41 1100007)) (la_row_256 h2294_ (sm_nl_11 : sm_nl 11 (g58 1046 0) (g58 1100007 (g58 1046 0)) (g58 1100025 (g58 1046 0)) (g58 1100007 (g58 1100025 (g58 1046 0))) (g58 1100025 (g58 1100025 (g58 1046 0))) = g58 1100025 (g58 1046 0)) h2311_ h2329_ (sm_nl_0 : sm_nl 0 (g41 1046 0) (g41 1100007 (g41 1046 0)) (g41 1100025 (g41 1046 0)) (g41 1100007 (g41 1100025 (g41 1046 0))) (g41 1100025 (g41 1100025 (g41 1046 0))) = g41 1100025 (g41 1046 0)))
      have e2441_ : g41 1100007 (g65 1100025 (g65 1046 0)) = g41 1100007 (g48 1100025 (g48 1046 0)) := congrArg ((g41 1100007)) (la_row_257 h2294_ (sm_nl_11 : sm_nl 11 (g58 1046 0) (g58 1100007 (g58 1046 0)) (g58 1100025 (g58 1046 0)) (g58 1100007 (g58 1100025 (g58 1046 0))) (g58 1100025 (g58 1100025 (g58 1046 0))) = g58 1100025 (g58 1046 0)) h2311_)
      have e2442_ : g41 1100007 (g65 1100025 (g65 1046 0)) = g41 1100007 (g58 1100025 (g58 1046 0)) := congrArg ((g41 1100007)) (la_row_34 h2294_ (sm_nl_11 : sm_nl 11 (g58 1046 0) (g58 1100007 (g58 1046 0)) (g58 1100025 (g58 1046 0)) (g58 1100007 (g58 1100025 (g58 1046 0))) (g58 1100025 (g58 1100025 (g58 1046 0))) = g58 1100025 (g58 1046 0)))
      have e2443_ : g41 1100025 (g65 1100025 (g65 1046 0)) = g41 1100025 (g41 1100025 (g41 1046 0)) := congrArg ((g41 1100025)) (la_row_256 h2294_ (sm_nl_11 : sm_nl 11 (g58 1046 0) (g58 1100007 (g58 1046 0)) (g58 1100025 (g58 1046 0)) (g58 1100007 (g58 1100025 (g58 1046 0))) (g58 1100025 (g58 1100025 (g58 1046 0))) = g58 1100025 (g58 1046 0)) h2311_ h2329_ (sm_nl_0 : sm_nl 0 (g41 1046 0) (g41 1100007 (g41 1046 0)) (g41 1100025 (g41 1046 0)) (g41 1100007 (g41 1100025 (g41 1046 0))) (g41 1100025 (g41 1100025 (g41 1046 0))) = g41 1100025 (g41 1046 0)))
      have e2444_ : g48 1100007 (g58 1100023 (g58 1046 0)) = g48 1100007 (g48 1100023 (g48 1046 0)) := congrArg ((g48 1100007)) h2309_
      have e2445_ : g48 1100007 (g58 1100025 (g58 1046 0)) = g48 1100007 (g48 1100025 (g48 1046 0)) := congrArg ((g48 1100007)) h2311_
      have e2446_ : g48 1100007 (g65 1100023 (g65 1046 0)) = g48 1100007 (g48 1100023 (g48 1046 0)) := congrArg ((g48 1100007)) (la_row_257 h2292_ (sm_nt_11 : sm_nt 11 (g58 1046 0) (g58 1100023 (g58 1046 0)) (g58 1100023 (g58 1100023 (g58 1046 0))) = g58 1100023 (g58 1046 0)) h2309_)
      have e2447_ : g48 1100007 (g65 1100023 (g65 1046 0)) = g48 1100007 (g58 1100023 (g58 1046 0)) := congrArg ((g48 1100007)) (la_row_34 h2292_ (sm_nt_11 : sm_nt 11 (g58 1046 0) (g58 1100023 (g58 1046 0)) (g58 1100023 (g58 1100023 (g58 1046 0))) = g58 1100023 (g58 1046 0)))
      have e2448_ : g48 1100007 (g65 1100025 (g65 1046 0)) = g48 1100007 (g48 1100025 (g48 1046 0)) := congrArg ((g48 1100007)) (la_row_257 h2294_ (sm_nl_11 : sm_nl 11 (g58 1046 0) (g58 1100007 (g58 1046 0)) (g58 1100025 (g58 1046 0)) (g58 1100007 (g58 1100025 (g58 1046 0))) (g58 1100025 (g58 1100025 (g58 1046 0))) = g58 1100025 (g58 1046 0)) h2311_)
      have e2449_ : g48 1100007 (g65 1100025 (g65 1046 0)) = g48 1100007 (g58 1100025 (g58 1046 0)) := congrArg ((g48 1100007)) (la_row_34 h2294_ (sm_nl_11 : sm_nl 11 (g58 1046 0) (g58 1100007 (g58 1046 0)) (g58 1100025 (g58 1046 0)) (g58 1100007 (g58 1100025 (g58 1046 0))) (g58 1100025 (g58 1100025 (g58 1046 0))) = g58 1100025 (g58 1046 0)))
      have e2450_ : g48 1100007 (g72 1100023 (g72 1046 0)) = g48 1100007 (g48 1100023 (g48 1046 0)) := congrArg ((g48 1100007)) (la_row_256 h2275_ (sm_nt_17 : sm_nt 17 (g65 1046 0) (g65 1100023 (g65 1046 0)) (g65 1100023 (g65 1100023 (g65 1046 0))) = g65 1100023 (g65 1046 0)) h2292_ (sm_nt_11 : sm_nt 11 (g58 1046 0) (g58 1100023 (g58 1046 0)) (g58 1100023 (g58 1100023 (g58 1046 0))) = g58 1100023 (g58 1046 0)) h2309_)
      have e2451_ : g48 1100007 (g72 1100023 (g72 1046 0)) = g48 1100007 (g58 1100023 (g58 1046 0)) := congrArg ((g48 1100007)) (la_row_255 h2275_ (sm_nt_17 : sm_nt 17 (g65 1046 0) (g65 1100023 (g65 1046 0)) (g65 1100023 (g65 1100023 (g65 1046 0))) = g65 1100023 (g65 1046 0)) h2292_ (sm_nt_11 : sm_nt 11 (g58 1046 0) (g58 1100023 (g58 1046 0)) (g58 1100023 (g58 1100023 (g58 1046 0))) = g58 1100023 (g58 1046 0)))
      have e2452_ : g48 1100007 (g72 1100023 (g72 1046 0)) = g48 1100007 (g65 1100023 (g65 1046 0)) := congrArg ((g48 1100007)) (la_row_34 h2275_ (sm_nt_17 : sm_nt 17 (g65 1046 0) (g65 1100023 (g65 1046 0)) (g65 1100023 (g65 1100023 (g65 1046 0))) = g65 1100023 (g65 1046 0)))
      have e2453_ : g58 1100007 (g65 1100023 (g65 1046 0)) = g58 1100007 (g58 1100023 (g58 1046 0)) := congrArg ((g58 1100007)) (la_row_34 h2292_ (sm_nt_11 : sm_nt 11 (g58 1046 0) (g58 1100023 (g58 1046 0)) (g58 1100023 (g58 1100023 (g58 1046 0))) = g58 1100023 (g58 1046 0)))
      have e2454_ : g58 1100007 (g65 1100025 (g65 1046 0)) = g58 1100007 (g58 1100025 (g58 1046 0)) := congrArg ((g58 1100007)) (la_row_34 h2294_ (sm_nl_11 : sm_nl 11 (g58 1046 0) (g58 1100007 (g58 1046 0)) (g58 1100025 (g58 1046 0)) (g58 1100007 (g58 1100025 (g58 1046 0))) (g58 1100025 (g58 1100025 (g58 1046 0))) = g58 1100025 (g58 1046 0)))
      have e2455_ : g58 1100007 (g72 1100023 (g72 1046 0)) = g58 1100007 (g58 1100023 (g58 1046 0)) := congrArg ((g58 1100007)) (la_row_255 h2275_ (sm_nt_17 : sm_nt 17 (g65 1046 0) (g65 1100023 (g65 1046 0)) (g65 1100023 (g65 1100023 (g65 1046 0))) = g65 1100023 (g65 1046 0)) h2292_ (sm_nt_11 : sm_nt 11 (g58 1046 0) (g58 1100023 (g58 1046 0)) (g58 1100023 (g58 1100023 (g58 1046 0))) = g58 1100023 (g58 1046 0)))
      have e2456_ : g58 1100007 (g72 1100023 (g72 1046 0)) = g58 1100007 (g65 1100023 (g65 1046 0)) := congrArg ((g58 1100007)) (la_row_34 h2275_ (sm_nt_17 : sm_nt 17 (g65 1046 0) (g65 1100023 (g65 1046 0)) (g65 1100023 (g65 1100023 (g65 1046 0))) = g65 1100023 (g65 1046 0)))
      have e2457_ : g58 1100025 (g65 1100025 (g65 1046 0)) = g58 1100025 (g58 1100025 (g58 1046 0)) := congrArg ((g58 1100025)) (la_row_34 h2294_ (sm_nl_11 : sm_nl 11 (g58 1046 0) (g58 1100007 (g58 1046 0)) (g58 1100025 (g58 1046 0)) (g58 1100007 (g58 1100025 (g58 1046 0))) (g58 1100025 (g58 1100025 (g58 1046 0))) = g58 1100025 (g58 1046 0)))
      have e2458_ : g65 1100007 (g72 1100023 (g72 1046 0)) = g65 1100007 (g65 1100023 (g65 1046 0)) := congrArg ((g65 1100007)) (la_row_34 h2275_ (sm_nt_17 : sm_nt 17 (g65 1046 0) (g65 1100023 (g65 1046 0)) (g65 1100023 (g65 1100023 (g65 1046 0))) = g65 1100023 (g65 1046 0)))
      have e2459_ : g65 1100007 (g72 1100025 (g72 1046 0)) = g65 1100007 (g65 1100025 (g65 1046 0)) := congrArg ((g65 1100007)) (la_row_258 h28_ h394_ h397_ h399_ (sm_KC_n h2270_).2.1.2.2.2.2.2.2.1 h2277_ (sm_nl_17b : (0 ≤ g65 1100025 (g65 1046 0) → g65 1100007 (g65 1100025 (g65 1046 0)) < g65 1100007 (g65 1046 0)) → sm_nl 17 (g65 1046 0) (g65 1100007 (g65 1046 0)) (g65 1100025 (g65 1046 0)) (g65 1100007 (g65 1100025 (g65 1046 0))) (g65 1100025 (g65 1100025 (g65 1046 0))) = g65 1100025 (g65 1046 0)) h2291_ (sm_dl_11 : sm_dl 11 0 = (-2)) h2294_ (sm_nl_11 : sm_nl 11 (g58 1046 0) (g58 1100007 (g58 1046 0)) (g58 1100025 (g58 1046 0)) (g58 1100007 (g58 1100025 (g58 1046 0))) (g58 1100025 (g58 1100025 (g58 1046 0))) = g58 1100025 (g58 1046 0)) h2308_ h2311_ h2313_ h2319_ h2326_ (sm_dl_0 : sm_dl 0 5 = 1) h2329_ (sm_nl_0 : sm_nl 0 (g41 1046 0) (g41 1100007 (g41 1046 0)) (g41 1100025 (g41 1046 0)) (g41 1100007 (g41 1100025 (g41 1046 0))) (g41 1100025 (g41 1100025 (g41 1046 0))) = g41 1100025 (g41 1046 0)) h2341_ (sm_dl_18 : sm_dl 18 0 = 1) h2344_ (sm_nl_18 : sm_nl 18 (g22 1046 0) (g22 1100007 (g22 1046 0)) (g22 1100025 (g22 1046 0)) (g22 1100007 (g22 1100025 (g22 1046 0))) (g22 1100025 (g22 1100025 (g22 1046 0))) = g22 1100025 (g22 1046 0)) h2349_ h2351_)
      exact (la_row_260 h399_ h2313_ h2319_ h2349_ h2351_ (sm_F1_at h2259_ (g72 1100025 (g72 1046 0)) (la_row_245 h2251_ (sm_KC_n h2270_).2.1.2.2.2.2.2.2.2)) e2459_)
    refine ⟨(sm_AP_s (sm_AP_F h400_ (sm_F1_le h1017_ (Int.le_refl _)) (Int.le_refl _) (Int.le_refl _) (Int.le_refl _)) (sm_AP_F h2314_ sm_F1_rf (Int.le_refl _) (Int.le_refl _) (Int.le_refl _))), ?_⟩
    refine ⟨(sm_HB_1 (by rw [((sm_F1_at h2259_ (S 1046 0) (la_row_261 h392_ h2286_ h2306_ h2321_ h2336_)).trans ((sm_F1_at h1518_ (S 1046 0) (la_row_262 h392_ h2306_ h2321_ h2336_)).trans ((sm_F1_at h1009_ (S 1046 0) (la_row_263 h392_ h2321_ h2336_)).trans ((sm_F1_at h615_ (S 1046 0) (la_row_264 h392_ h2336_)).trans ((sm_F1_at h579_ (S 1046 0) (la_row_265 h392_)).trans ((sm_F1_at h229_ (S 1046 0) la_row_42).trans rfl))))))]; exact (la_row_266 h290_ e296_ h392_ h2269_ h2286_ h2306_ h2321_ h2336_)) (sm_HB_s (sm_HB_F h401_ (sm_F1_tr (sm_F1_tr (sm_F1_tr (sm_F1_tr (sm_F1_le h579_ la_row_272) h615_ (la_row_277 h2336_)) h1009_ (la_row_276 h2321_ h2336_)) h1518_ (la_row_275 h2306_ h2321_ h2336_)) h2259_ (la_row_274 h2286_ h2306_ h2321_ h2336_)) (Int.le_refl _) la_row_272 (Int.le_refl _) (la_row_273 h2269_ h2286_ h2306_ h2321_ h2336_)) (sm_HB_1 (by rw [((sm_F1_at h2259_ (g22 1046 0) (la_row_278 h2286_ h2306_ h2321_ h2336_)).trans ((sm_F1_at h1518_ (g22 1046 0) (la_row_279 h2306_ h2321_ h2336_)).trans ((sm_F1_at h1009_ (g22 1046 0) (la_row_280 h2321_ h2336_)).trans ((sm_F1_at h615_ (g22 1046 0) (la_row_281 h2336_)).trans ((sm_F1_at h579_ (g22 1046 0) la_row_42).trans rfl)))))]; exact (la_row_282 h290_ e296_ h392_ h394_ h2269_ h2286_ h2306_ h2321_ h2336_)) (sm_HB_1 (by rw [((sm_F1_at h2259_ (g22 1046 0 + 1) (la_row_283 h2286_ h2306_ h2321_ h2336_)).trans ((sm_F1_at h1518_ (g22 1046 0 + 1) (la_row_284 h2306_ h2321_ h2336_)).trans ((sm_F1_at h1009_ (g22 1046 0 + 1) (la_row_285 h2321_ h2336_)).trans ((sm_F1_at h615_ (g22 1046 0 + 1) (la_row_286 h2336_)).trans ((congrArg (g41 1100007) (la_row_233 h2336_)).trans h2341_)))))]; exact (la_row_287 h290_ e296_ h392_ h394_ h2269_ h2286_ h2306_ h2321_ h2336_ (sm_dl_18 : sm_dl 18 0 = 1))) (sm_HB_1 (by rw [((sm_F1_at h2259_ (g22 1046 0 + 1 + 1) (la_row_288 h2286_ h2306_ h2321_ h2336_)).trans ((sm_F1_at h1518_ (g22 1046 0 + 1 + 1) (la_row_289 h2306_ h2321_ h2336_)).trans ((sm_F1_at h1009_ (g22 1046 0 + 1 + 1) (la_row_290 h2321_ h2336_)).trans ((congrArg (g48 1100007) (la_row_291 h2321_ h2336_)).trans h2326_))))]; exact (la_row_292 h290_ e296_ h392_ h394_ h2269_ h2286_ h2306_ h2321_ (sm_dl_0 : sm_dl 0 5 = 1) h2336_ h2341_ (sm_dl_18 : sm_dl 18 0 = 1))) (sm_HB_s (sm_HB_F h2315_ (sm_F1_tr (sm_F1_le h1518_ la_row_272) h2259_ (la_row_277 h2286_)) (Int.le_refl _) (la_row_295 h2321_ h2336_) (Int.le_refl _) (la_row_297 e296_ h301_ (sm_ex_e h317_).2.2.2.2 h335_ h392_ h394_ h2269_ h2286_ h2321_ h2326_ (sm_dl_0 : sm_dl 0 5 = 1) h2336_ h2341_ (sm_dl_18 : sm_dl 18 0 = 1))) (sm_HB_1 (by rw [((sm_F1_at h2259_ (g58 1046 0) (la_row_281 h2286_)).trans ((sm_F1_at h1518_ (g58 1046 0) la_row_42).trans rfl))]; exact (la_row_298 h290_ e296_ h392_ h394_ h2269_ h2286_ h2306_ h2308_ h2321_ h2326_ (sm_dl_0 : sm_dl 0 5 = 1) h2336_ h2341_ (sm_dl_18 : sm_dl 18 0 = 1))) (sm_HB_1 (by rw [((sm_F1_at h2259_ (g58 1046 0 + 1) (la_row_286 h2286_)).trans ((congrArg (g65 1100007) (la_row_238 h1510_ h2286_)).trans h2291_))]; exact (la_row_299 h290_ e296_ h392_ h394_ h2269_ h2286_ (sm_dl_11 : sm_dl 11 0 = (-2)) h2306_ h2308_ h2321_ h2326_ (sm_dl_0 : sm_dl 0 5 = 1) h2336_ h2341_ (sm_dl_18 : sm_dl 18 0 = 1))) (sm_HB_0 (la_row_239 h1510_ h2251_)))))))))), ?_⟩
    refine ⟨(la_row_300 h402_ h2269_ h2286_ h2316_ h2321_ h2336_), ?_⟩
    exact trivial
  have e2460_ : (if l3_24 = (-1) then 0 else S 1024 0 - l3_24 : Int) = S 1024 0 - l3_24 := if_neg h284_
  have e2461_ : S 1100007 (g22 1100023 (g22 1046 0)) = S 1100007 (S 1100023 (S 1046 0)) := congrArg ((S 1100007)) h395_
  have e2462_ : S 1100007 (g22 1100025 (g22 1046 0)) = S 1100007 (S 1100025 (S 1046 0)) := congrArg ((S 1100007)) h397_
  have e2463_ : S 12 (5 * l3_24 + 0) = S 12 (5 * l3_24) := congrArg ((S 12)) la_row_57
  have e2464_ : S 1100002 (S 12 (5 * l3_24 + 0)) = S 1100002 (S 12 (5 * l3_24)) := congrArg ((S 1100002)) e2463_
  have e2465_ : S 1100005 (S 12 (5 * l3_24 + 0)) = S 1100005 (S 12 (5 * l3_24)) := congrArg ((S 1100005)) e2463_
  by_cases c2466_ : S 13 l3_24 = (-1)
  · skip
    have e2467_ : (if S 13 l3_24 = (-1) then 0 else S 1024 0 - S 13 l3_24 : Int) = 0 := if_pos c2466_
    have h2468_ := (h323_.resolve_right (la_row_301 h297_ h299_ (la_row_13 (la_row_47 h297_) h284_) c2466_))
    exact (la_row_302 h298_ e2460_ e2467_)
  · skip
    have e2469_ : (if S 13 l3_24 = (-1) then 0 else S 1024 0 - S 13 l3_24 : Int) = S 1024 0 - S 13 l3_24 := if_neg c2466_
    obtain ⟨h2470_, ⟨h2471_, ⟨h2472_, ⟨h2473_, ⟨h2474_, ⟨h2475_, ⟨h2476_, ⟨h2477_, h2478_⟩⟩⟩⟩⟩⟩⟩⟩ := (h323_.resolve_left c2466_)
    have h2479_ := (h2477_ (la_row_304 h299_))
    exact (la_row_305 e2460_ e2469_ h2470_)
set_option maxRecDepth 8000 in
set_option maxHeartbeats 2000000 in
theorem s_row (d : Int) (h0 : 0 ≤ d) (IH : ∀ d' : Int, 0 ≤ d' → d' < d → P_K d') : T_row d := by
  intro p1 S hok hp1 hpre hd
  have h := f_row d p1 S hok hp1 hpre hd
  have hM := sm_h99
  show sv_T sm_XS sm_cs sm_L sm_sh (((if p1 = -1 then 0 else 17 * (S 1100005 p1) + 17)) + (600 - (S 1046 0)) + 8).toNat (q_row p1 S) 99 0 [(0, .ref 0), (1, sv_I p1)] [] S
  obtain ⟨o1, h⟩ := h
  refine sv_ghost sm_X 1100033 0 ((if (S 1047 0) = 0 then (S 1055 0) + 1 else 0)) (by decide) ?_
  have ok2 : sm_ok (sv_up S 1100033 0 ((if (S 1047 0) = 0 then (S 1055 0) + 1 else 0))) := sm_upI hok sm_r1100033 o1
  have md3 : sv_mod [26, 27, 28, 29, 1046, 1047, 1100007, 1100023, 1100024, 1100025, 1053, 31, 1100030, 1100009, 1100027, 1100028, 1100026, 1055, 1100033, 39, 1066] S (sv_up S 1100033 0 ((if (S 1047 0) = 0 then (S 1055 0) + 1 else 0))) := sv_mod.up sv_mod.rf (by decide)
  have k4 : ((S 1047 0) = 0 → (S 1100033 0) = (S 1055 0) → sm_KC (S 26) (S 27) (S 28) (S 29) (S 1100007) (S 1100023) (S 1100024) (S 1100025) (S 31) (S 1100009) (S 1100027) (S 1100028) (S 1100026) (S 1100030) (S 21) (S 32) (S 33) (S 1046 0) (S 1053 0) (S 1056 0) (S 1032 0) (S 1007 0) (S 1100033 0) → sm_KC (S 26) (S 27) (S 28) (S 29) (S 1100007) (S 1100023) (S 1100024) (S 1100025) (S 31) (S 1100009) (S 1100027) (S 1100028) (S 1100026) (S 1100030) (S 21) (S 32) (S 33) (S 1046 0) (S 1053 0) (S 1056 0) (S 1032 0) (S 1007 0) ((if (S 1047 0) = 0 then (S 1055 0) + 1 else 0))) := fun q e h => sm_KC_si h (sm_h_si q e)
  have h := h k4
  have k5 : ((S 1047 0) = 0 → (if (S 1047 0) = 0 then (S 1055 0) + 1 else 0) = (S 1055 0) + 1) := fun q => if_pos q
  have h := h k5
  have k6 : ((S 1047 0) = 0 → 0 ≤ (S 1055 0) → (S 1055 0) ≤ 600 → 0 ≤ (if (S 1047 0) = 0 then (S 1055 0) + 1 else 0) ∧ (if (S 1047 0) = 0 then (S 1055 0) + 1 else 0) ≤ 601) := fun q a b => sm_h_si2 q a b
  have h := h k6
  refine sv_ghost sm_X 1100033 0 ((if (S 1047 0) = 0 then (S 1055 0) + 1 else 0)) (by decide) ?_
  have ok7 : sm_ok (sv_up (sv_up S 1100033 0 ((if (S 1047 0) = 0 then (S 1055 0) + 1 else 0))) 1100033 0 ((if (S 1047 0) = 0 then (S 1055 0) + 1 else 0))) := sm_upI ok2 sm_r1100033 o1
  have md8 : sv_mod [26, 27, 28, 29, 1046, 1047, 1100007, 1100023, 1100024, 1100025, 1053, 31, 1100030, 1100009, 1100027, 1100028, 1100026, 1055, 1100033, 39, 1066] S (sv_up (sv_up S 1100033 0 ((if (S 1047 0) = 0 then (S 1055 0) + 1 else 0))) 1100033 0 ((if (S 1047 0) = 0 then (S 1055 0) + 1 else 0))) := sv_mod.up md3 (by decide)
  have k9 : ((S 1047 0) = 0 → ((if (S 1047 0) = 0 then (S 1055 0) + 1 else 0)) = (S 1055 0) → sm_KC (S 26) (S 27) (S 28) (S 29) (S 1100007) (S 1100023) (S 1100024) (S 1100025) (S 31) (S 1100009) (S 1100027) (S 1100028) (S 1100026) (S 1100030) (S 21) (S 32) (S 33) (S 1046 0) (S 1053 0) (S 1056 0) (S 1032 0) (S 1007 0) ((if (S 1047 0) = 0 then (S 1055 0) + 1 else 0)) → sm_KC (S 26) (S 27) (S 28) (S 29) (S 1100007) (S 1100023) (S 1100024) (S 1100025) (S 31) (S 1100009) (S 1100027) (S 1100028) (S 1100026) (S 1100030) (S 21) (S 32) (S 33) (S 1046 0) (S 1053 0) (S 1056 0) (S 1032 0) (S 1007 0) ((if (S 1047 0) = 0 then (S 1055 0) + 1 else 0))) := fun q e h => sm_KC_si h (sm_h_si q e)
  have h := h k9
  have k10 : ((S 1047 0) = 0 → (if (S 1047 0) = 0 then (S 1055 0) + 1 else 0) = (S 1055 0) + 1) := fun q => if_pos q
  have h := h k10
  refine sv_aload_n hM dX12_row_0 rfl rfl ?_
  refine sv_bipush (d := (8 : Int)) hM dX12_row_1 rfl rfl ?_
  refine sv_aload_n hM dX12_row_3 rfl rfl ?_
  have k11 : sv_R (S 1055 0) := sm_okI ok7 sm_r1055 0
  have h := h k11
  refine sv_getI hM dX12_row_4 sm_fl_689 (sm_a0 _) sm_k55 rfl (x := (S 1055 0)) rfl ?_
  refine sv_iconst (d := (0 : Int)) hM dX12_row_7 rfl rfl ?_
  obtain ⟨o12, h⟩ := h
  obtain ⟨o13, h⟩ := h
  refine sv_callV hM dX12_row_8 sm_iv_615 (by decide) (sm_a0 _) rfl rfl (Nat.le_of_ble_eq_true rfl) sm_h82 (Nat.le_of_ble_eq_true rfl) (Nat.le_of_ble_eq_true rfl) (F' := 0) (sv_Fn (n := 0) o13) rfl (t_emit (8 : Int) (S 1055 0) (0 : Int) (sv_up (sv_up S 1100033 0 ((if (S 1047 0) = 0 then (S 1055 0) + 1 else 0))) 1100033 0 ((if (S 1047 0) = 0 then (S 1055 0) + 1 else 0))) ok7 (⟨by decide, by decide⟩ : sv_R (8 : Int)) k11 (⟨by decide, by decide⟩ : sv_R (0 : Int)) o12) (fun v S1 hq => ?_)
  obtain ⟨rfl, ok15, md16, hpo17⟩ := hq
  obtain ⟨g14, rfl⟩ : ∃ g, S1 = sv_sts (sv_up (sv_up S 1100033 0 ((if (S 1047 0) = 0 then (S 1055 0) + 1 else 0))) 1100033 0 ((if (S 1047 0) = 0 then (S 1055 0) + 1 else 0))) [26, 27, 28, 29, 1046, 1047, 1100007, 1100023, 1100024, 1100025] g := ⟨_, md16.eq⟩
  show sv_T sm_XS sm_cs sm_L sm_sh (((if p1 = -1 then 0 else 17 * (S 1100005 p1) + 17)) + (600 - (S 1046 0)) + 8).toNat (q_row p1 S) 99 11 [(0, .ref 0), (1, sv_I p1)] [] (sv_sts (sv_up (sv_up S 1100033 0 ((if (S 1047 0) = 0 then (S 1055 0) + 1 else 0))) 1100033 0 ((if (S 1047 0) = 0 then (S 1055 0) + 1 else 0))) [26, 27, 28, 29, 1046, 1047, 1100007, 1100023, 1100024, 1100025] g14)
  have md18 : sv_mod [26, 27, 28, 29, 1046, 1047, 1100007, 1100023, 1100024, 1100025, 1053, 31, 1100030, 1100009, 1100027, 1100028, 1100026, 1055, 1100033, 39, 1066] S (sv_sts (sv_up (sv_up S 1100033 0 ((if (S 1047 0) = 0 then (S 1055 0) + 1 else 0))) 1100033 0 ((if (S 1047 0) = 0 then (S 1055 0) + 1 else 0))) [26, 27, 28, 29, 1046, 1047, 1100007, 1100023, 1100024, 1100025] g14) := sv_mod.sts md8 (by decide)
  have h := h g14 hpo17
  refine sv_aload_n hM dX12_row_11 rfl rfl ?_
  refine sv_dupA hM dX12_row_12 rfl ?_
  refine sv_getI hM dX12_row_13 sm_fl_689 (sm_a0 _) sm_k55 rfl (x := (S 1055 0)) rfl ?_
  refine sv_iconst (d := (1 : Int)) hM dX12_row_16 rfl rfl ?_
  refine sv_anyI hM dX12_row_17 (x := Int32.ofInt (S 1055 0) + Int32.ofInt (1 : Int)) rfl rfl (fun r19 hr19 er19 => ?_)
  have h := h r19 hr19 (fun q => sv_wadd q er19)
  refine sv_putI sm_X hM dX12_row_18 sm_fp_689 (sm_a0 _) sm_q55 (Or.inl rfl) rfl rfl rfl rfl ?_
  have ok20 : sm_ok (sv_up (sv_sts (sv_up (sv_up S 1100033 0 ((if (S 1047 0) = 0 then (S 1055 0) + 1 else 0))) 1100033 0 ((if (S 1047 0) = 0 then (S 1055 0) + 1 else 0))) [26, 27, 28, 29, 1046, 1047, 1100007, 1100023, 1100024, 1100025] g14) 1055 0 r19) := sm_upI ok15 sm_r1055 hr19
  have md21 : sv_mod [26, 27, 28, 29, 1046, 1047, 1100007, 1100023, 1100024, 1100025, 1053, 31, 1100030, 1100009, 1100027, 1100028, 1100026, 1055, 1100033, 39, 1066] S (sv_up (sv_sts (sv_up (sv_up S 1100033 0 ((if (S 1047 0) = 0 then (S 1055 0) + 1 else 0))) 1100033 0 ((if (S 1047 0) = 0 then (S 1055 0) + 1 else 0))) [26, 27, 28, 29, 1046, 1047, 1100007, 1100023, 1100024, 1100025] g14) 1055 0 r19) := sv_mod.up md18 (by decide)
  refine sv_iconst (d := (0 : Int)) hM dX12_row_21 rfl rfl ?_
  refine sv_istore_n hM dX12_row_22 (by decide) rfl ?_
  show sv_T sm_XS sm_cs sm_L sm_sh (((if p1 = -1 then 0 else 17 * (S 1100005 p1) + 17)) + (600 - (S 1046 0)) + 8).toNat (q_row p1 S) 99 23 [(0, .ref 0), (1, sv_I p1), (2, sv_I (0 : Int))] [] (sv_up (sv_sts (sv_up (sv_up S 1100033 0 ((if (S 1047 0) = 0 then (S 1055 0) + 1 else 0))) 1100033 0 ((if (S 1047 0) = 0 then (S 1055 0) + 1 else 0))) [26, 27, 28, 29, 1046, 1047, 1100007, 1100023, 1100024, 1100025] g14) 1055 0 r19)
  refine sv_iload_n hM dX12_row_23 rfl rfl ?_
  refine sv_istore_n hM dX12_row_24 (by decide) rfl ?_
  show sv_T sm_XS sm_cs sm_L sm_sh (((if p1 = -1 then 0 else 17 * (S 1100005 p1) + 17)) + (600 - (S 1046 0)) + 8).toNat (q_row p1 S) 99 25 [(0, .ref 0), (1, sv_I p1), (2, sv_I (0 : Int)), (3, sv_I p1)] [] (sv_up (sv_sts (sv_up (sv_up S 1100033 0 ((if (S 1047 0) = 0 then (S 1055 0) + 1 else 0))) 1100033 0 ((if (S 1047 0) = 0 then (S 1055 0) + 1 else 0))) [26, 27, 28, 29, 1046, 1047, 1100007, 1100023, 1100024, 1100025] g14) 1055 0 r19)
  obtain ⟨hin26, h⟩ := h
  have hJ : ∀ a : Int × Int × sv_S, (sv_R a.1 ∧ sv_R a.2.1 ∧ sm_ok (sv_sts (sv_up (sv_sts (sv_up (sv_up S 1100033 0 ((if (S 1047 0) = 0 then (S 1055 0) + 1 else 0))) 1100033 0 ((if (S 1047 0) = 0 then (S 1055 0) + 1 else 0))) [26, 27, 28, 29, 1046, 1047, 1100007, 1100023, 1100024, 1100025] g14) 1055 0 r19) [26, 27, 28, 29, 1046, 1047, 1100007, 1100023, 1100024, 1100025, 1053, 31, 1100030, 1100009, 1100027, 1100028, 1100026, 1055, 1100033, 39, 1066] a.2.2) ∧ (0 ≤ (a.2.2 1046 0) ∧ (a.2.2 1046 0) ≤ 600 ∧ 0 ≤ (a.2.2 1047 0) ∧ (a.2.2 1047 0) ≤ 1 ∧ 0 ≤ (a.2.2 1053 0) ∧ 0 ≤ (a.2.2 1066 0) ∧ 0 ≤ a.1 ∧ a.1 ≤ 16 ∧ (p1 = -1 → a.2.1 = -1) ∧ (¬ p1 = -1 → (a.2.1 = -1 ∨ (0 ≤ a.2.1 ∧ a.2.1 < (S 1024 0) ∧ (S 1100001 a.2.1) = 3 ∧ a.1 + (S 1100002 a.2.1) ≤ (S 1100002 p1) ∧ (S 1100005 a.2.1) ≤ (S 1100005 p1)))) ∧ (¬ p1 = -1 → sm_LF (a.2.2 39) (S 1100002) (a.2.2 1066 0) (S 1024 0) (12001 * (17 * (S 1100005 p1) + 18))) ∧ 0 ≤ (a.2.2 1046 0) ∧ (a.2.2 1046 0) ≤ 600 ∧ 0 ≤ (a.2.2 1047 0) ∧ (a.2.2 1047 0) ≤ 1 ∧ 0 ≤ (a.2.2 1053 0) ∧ 0 ≤ (a.2.2 1066 0) ∧ (S 1046 0) ≤ (a.2.2 1046 0) ∧ ((S 1047 0) = 1 → (a.2.2 1047 0) = 1) ∧ sm_F1 (S 26) (a.2.2 26) (S 1046 0) ∧ sm_F1 (S 27) (a.2.2 27) (S 1046 0) ∧ sm_F1 (S 28) (a.2.2 28) (S 1046 0) ∧ sm_F1 (S 29) (a.2.2 29) (S 1046 0) ∧ sm_F1 (S 1100007) (a.2.2 1100007) ((S 1046 0) + 1) ∧ sm_F1 (S 1100023) (a.2.2 1100023) ((S 1046 0) + 1) ∧ sm_F1 (S 1100024) (a.2.2 1100024) ((S 1046 0) + 1) ∧ sm_F1 (S 1100025) (a.2.2 1100025) ((S 1046 0) + 1) ∧ sm_F1 (S 1100009) (a.2.2 1100009) (S 1053 0) ∧ sm_F1 (S 1100027) (a.2.2 1100027) (S 1053 0) ∧ sm_F1 (S 1100028) (a.2.2 1100028) (S 1053 0) ∧ sm_F1 (S 1100026) (a.2.2 1100026) (S 1053 0) ∧ sm_F1 (S 1100030) (a.2.2 1100030) (S 1053 0) ∧ sm_F1 (S 31) (a.2.2 31) (S 1053 0) ∧ (S 1053 0) ≤ (a.2.2 1053 0) ∧ (a.2.2 1066 0) = (S 1066 0) ∧ sm_F1 (S 39) (a.2.2 39) (S 1066 0) ∧ ((S 1047 0) = 1 → (a.2.2 1053 0) = (S 1053 0)) ∧ ((S 1047 0) = 0 → (a.2.2 1053 0) ≤ (S 1053 0) + 3 * (600 - (S 1046 0)) + (if p1 = -1 then 0 else 17 * (S 1100005 p1) + 17)) ∧ ((a.2.2 1047 0) = 0 → (S 1047 0) = 0 ∧ sm_KC (a.2.2 26) (a.2.2 27) (a.2.2 28) (a.2.2 29) (a.2.2 1100007) (a.2.2 1100023) (a.2.2 1100024) (a.2.2 1100025) (a.2.2 31) (a.2.2 1100009) (a.2.2 1100027) (a.2.2 1100028) (a.2.2 1100026) (a.2.2 1100030) (S 21) (S 32) (S 33) (a.2.2 1046 0) (a.2.2 1053 0) (S 1056 0) (S 1032 0) (S 1007 0) (a.2.2 1100033 0) ∧ (a.2.2 1100033 0) = (a.2.2 1055 0) ∧ 0 ≤ (a.2.2 1055 0) ∧ (a.2.2 1055 0) ≤ (a.2.2 1046 0) ∧ (S 1046 0) + 1 ≤ (a.2.2 1046 0) ∧ sm_FC (a.2.2 29) (S 1046 0) (a.2.2 1046 0) (S 1056 0) ∧ (a.2.2 1100007 (a.2.2 1046 0)) = (S 1100007 (S 1046 0)) + 1 ∧ (a.2.2 1100023 (a.2.2 1046 0)) = (S 1100023 (S 1046 0)) ∧ (a.2.2 1100024 (a.2.2 1046 0)) = (S 1100024 (S 1046 0)) ∧ (a.2.2 1100025 (a.2.2 1046 0)) = (S 1100025 (S 1046 0)) ∧ (a.2.2 1100007 (a.2.2 1100023 (a.2.2 1046 0))) = (S 1100007 (S 1100023 (S 1046 0))) ∧ (a.2.2 1100007 (a.2.2 1100025 (a.2.2 1046 0))) = (S 1100007 (S 1100025 (S 1046 0))) ∧ sm_AP (a.2.2 1100030) (S 1053 0) (a.2.2 1053 0) ∧ sm_HB (a.2.2 1100007) (S 1046 0) (a.2.2 1046 0) (2 * (S 1100007 (S 1046 0)) + ((a.2.2 1046 0) - (S 1046 0)) + (if p1 = -1 then 10 else 8 * (S 1100005 p1) + 18)) ∧ (a.2.2 1053 0) ≤ (S 1053 0) + 3 * ((a.2.2 1046 0) - (S 1046 0)) ∧ True))) → sv_T sm_XS sm_cs sm_L sm_sh (((if p1 = -1 then 0 else 17 * (S 1100005 p1) + 17)) + (600 - (S 1046 0)) + 8).toNat (q_row p1 S) 99 25 [(0, .ref 0), (1, sv_I p1), (2, sv_I a.1), (3, sv_I a.2.1)] [] (sv_sts (sv_up (sv_sts (sv_up (sv_up S 1100033 0 ((if (S 1047 0) = 0 then (S 1055 0) + 1 else 0))) 1100033 0 ((if (S 1047 0) = 0 then (S 1055 0) + 1 else 0))) [26, 27, 28, 29, 1046, 1047, 1100007, 1100023, 1100024, 1100025] g14) 1055 0 r19) [26, 27, 28, 29, 1046, 1047, 1100007, 1100023, 1100024, 1100025, 1053, 31, 1100030, 1100009, 1100027, 1100028, 1100026, 1055, 1100033, 39, 1066] a.2.2) := by
    refine sv_loop (α := Int × Int × sv_S) (fun a => sv_R a.1 ∧ sv_R a.2.1 ∧ sm_ok (sv_sts (sv_up (sv_sts (sv_up (sv_up S 1100033 0 ((if (S 1047 0) = 0 then (S 1055 0) + 1 else 0))) 1100033 0 ((if (S 1047 0) = 0 then (S 1055 0) + 1 else 0))) [26, 27, 28, 29, 1046, 1047, 1100007, 1100023, 1100024, 1100025] g14) 1055 0 r19) [26, 27, 28, 29, 1046, 1047, 1100007, 1100023, 1100024, 1100025, 1053, 31, 1100030, 1100009, 1100027, 1100028, 1100026, 1055, 1100033, 39, 1066] a.2.2) ∧ (0 ≤ (a.2.2 1046 0) ∧ (a.2.2 1046 0) ≤ 600 ∧ 0 ≤ (a.2.2 1047 0) ∧ (a.2.2 1047 0) ≤ 1 ∧ 0 ≤ (a.2.2 1053 0) ∧ 0 ≤ (a.2.2 1066 0) ∧ 0 ≤ a.1 ∧ a.1 ≤ 16 ∧ (p1 = -1 → a.2.1 = -1) ∧ (¬ p1 = -1 → (a.2.1 = -1 ∨ (0 ≤ a.2.1 ∧ a.2.1 < (S 1024 0) ∧ (S 1100001 a.2.1) = 3 ∧ a.1 + (S 1100002 a.2.1) ≤ (S 1100002 p1) ∧ (S 1100005 a.2.1) ≤ (S 1100005 p1)))) ∧ (¬ p1 = -1 → sm_LF (a.2.2 39) (S 1100002) (a.2.2 1066 0) (S 1024 0) (12001 * (17 * (S 1100005 p1) + 18))) ∧ 0 ≤ (a.2.2 1046 0) ∧ (a.2.2 1046 0) ≤ 600 ∧ 0 ≤ (a.2.2 1047 0) ∧ (a.2.2 1047 0) ≤ 1 ∧ 0 ≤ (a.2.2 1053 0) ∧ 0 ≤ (a.2.2 1066 0) ∧ (S 1046 0) ≤ (a.2.2 1046 0) ∧ ((S 1047 0) = 1 → (a.2.2 1047 0) = 1) ∧ sm_F1 (S 26) (a.2.2 26) (S 1046 0) ∧ sm_F1 (S 27) (a.2.2 27) (S 1046 0) ∧ sm_F1 (S 28) (a.2.2 28) (S 1046 0) ∧ sm_F1 (S 29) (a.2.2 29) (S 1046 0) ∧ sm_F1 (S 1100007) (a.2.2 1100007) ((S 1046 0) + 1) ∧ sm_F1 (S 1100023) (a.2.2 1100023) ((S 1046 0) + 1) ∧ sm_F1 (S 1100024) (a.2.2 1100024) ((S 1046 0) + 1) ∧ sm_F1 (S 1100025) (a.2.2 1100025) ((S 1046 0) + 1) ∧ sm_F1 (S 1100009) (a.2.2 1100009) (S 1053 0) ∧ sm_F1 (S 1100027) (a.2.2 1100027) (S 1053 0) ∧ sm_F1 (S 1100028) (a.2.2 1100028) (S 1053 0) ∧ sm_F1 (S 1100026) (a.2.2 1100026) (S 1053 0) ∧ sm_F1 (S 1100030) (a.2.2 1100030) (S 1053 0) ∧ sm_F1 (S 31) (a.2.2 31) (S 1053 0) ∧ (S 1053 0) ≤ (a.2.2 1053 0) ∧ (a.2.2 1066 0) = (S 1066 0) ∧ sm_F1 (S 39) (a.2.2 39) (S 1066 0) ∧ ((S 1047 0) = 1 → (a.2.2 1053 0) = (S 1053 0)) ∧ ((S 1047 0) = 0 → (a.2.2 1053 0) ≤ (S 1053 0) + 3 * (600 - (S 1046 0)) + (if p1 = -1 then 0 else 17 * (S 1100005 p1) + 17)) ∧ ((a.2.2 1047 0) = 0 → (S 1047 0) = 0 ∧ sm_KC (a.2.2 26) (a.2.2 27) (a.2.2 28) (a.2.2 29) (a.2.2 1100007) (a.2.2 1100023) (a.2.2 1100024) (a.2.2 1100025) (a.2.2 31) (a.2.2 1100009) (a.2.2 1100027) (a.2.2 1100028) (a.2.2 1100026) (a.2.2 1100030) (S 21) (S 32) (S 33) (a.2.2 1046 0) (a.2.2 1053 0) (S 1056 0) (S 1032 0) (S 1007 0) (a.2.2 1100033 0) ∧ (a.2.2 1100033 0) = (a.2.2 1055 0) ∧ 0 ≤ (a.2.2 1055 0) ∧ (a.2.2 1055 0) ≤ (a.2.2 1046 0) ∧ (S 1046 0) + 1 ≤ (a.2.2 1046 0) ∧ sm_FC (a.2.2 29) (S 1046 0) (a.2.2 1046 0) (S 1056 0) ∧ (a.2.2 1100007 (a.2.2 1046 0)) = (S 1100007 (S 1046 0)) + 1 ∧ (a.2.2 1100023 (a.2.2 1046 0)) = (S 1100023 (S 1046 0)) ∧ (a.2.2 1100024 (a.2.2 1046 0)) = (S 1100024 (S 1046 0)) ∧ (a.2.2 1100025 (a.2.2 1046 0)) = (S 1100025 (S 1046 0)) ∧ (a.2.2 1100007 (a.2.2 1100023 (a.2.2 1046 0))) = (S 1100007 (S 1100023 (S 1046 0))) ∧ (a.2.2 1100007 (a.2.2 1100025 (a.2.2 1046 0))) = (S 1100007 (S 1100025 (S 1046 0))) ∧ sm_AP (a.2.2 1100030) (S 1053 0) (a.2.2 1053 0) ∧ sm_HB (a.2.2 1100007) (S 1046 0) (a.2.2 1046 0) (2 * (S 1100007 (S 1046 0)) + ((a.2.2 1046 0) - (S 1046 0)) + (if p1 = -1 then 10 else 8 * (S 1100005 p1) + 18)) ∧ (a.2.2 1053 0) ≤ (S 1053 0) + 3 * ((a.2.2 1046 0) - (S 1046 0)) ∧ True))) (fun a => (if a.2.1 = -1 then 0 else (S 1024 0) - a.2.1)) (fun a => sv_T sm_XS sm_cs sm_L sm_sh (((if p1 = -1 then 0 else 17 * (S 1100005 p1) + 17)) + (600 - (S 1046 0)) + 8).toNat (q_row p1 S) 99 25 [(0, .ref 0), (1, sv_I p1), (2, sv_I a.1), (3, sv_I a.2.1)] [] (sv_sts (sv_up (sv_sts (sv_up (sv_up S 1100033 0 ((if (S 1047 0) = 0 then (S 1055 0) + 1 else 0))) 1100033 0 ((if (S 1047 0) = 0 then (S 1055 0) + 1 else 0))) [26, 27, 28, 29, 1046, 1047, 1100007, 1100023, 1100024, 1100025] g14) 1055 0 r19) [26, 27, 28, 29, 1046, 1047, 1100007, 1100023, 1100024, 1100025, 1053, 31, 1100030, 1100009, 1100027, 1100028, 1100026, 1055, 1100033, 39, 1066] a.2.2)) (fun a q => (h a.1 q.1 a.2.1 q.2.1 a.2.2 q.2.2.2).1) (fun a q ih25 => ?_)
    obtain ⟨l2_23, l3_24, g22⟩ := a
    obtain ⟨hl2_23, hl3_24, ok27, hin26i⟩ := q
    have h := (h l2_23 hl2_23 l3_24 hl3_24 g22 hin26i).2
    show sv_T sm_XS sm_cs sm_L sm_sh (((if p1 = -1 then 0 else 17 * (S 1100005 p1) + 17)) + (600 - (S 1046 0)) + 8).toNat (q_row p1 S) 99 25 [(0, .ref 0), (1, sv_I p1), (2, sv_I l2_23), (3, sv_I l3_24)] [] (sv_sts (sv_up (sv_sts (sv_up (sv_up S 1100033 0 ((if (S 1047 0) = 0 then (S 1055 0) + 1 else 0))) 1100033 0 ((if (S 1047 0) = 0 then (S 1055 0) + 1 else 0))) [26, 27, 28, 29, 1046, 1047, 1100007, 1100023, 1100024, 1100025] g14) 1055 0 r19) [26, 27, 28, 29, 1046, 1047, 1100007, 1100023, 1100024, 1100025, 1053, 31, 1100030, 1100009, 1100027, 1100028, 1100026, 1055, 1100033, 39, 1066] g22)
    have md28 : sv_mod [26, 27, 28, 29, 1046, 1047, 1100007, 1100023, 1100024, 1100025, 1053, 31, 1100030, 1100009, 1100027, 1100028, 1100026, 1055, 1100033, 39, 1066] S (sv_sts (sv_up (sv_sts (sv_up (sv_up S 1100033 0 ((if (S 1047 0) = 0 then (S 1055 0) + 1 else 0))) 1100033 0 ((if (S 1047 0) = 0 then (S 1055 0) + 1 else 0))) [26, 27, 28, 29, 1046, 1047, 1100007, 1100023, 1100024, 1100025] g14) 1055 0 r19) [26, 27, 28, 29, 1046, 1047, 1100007, 1100023, 1100024, 1100025, 1053, 31, 1100030, 1100009, 1100027, 1100028, 1100026, 1055, 1100033, 39, 1066] g22) := sv_mod.sts md21 (by decide)
    have md29 : sv_mod [26, 27, 28, 29, 1046, 1047, 1100007, 1100023, 1100024, 1100025, 1053, 31, 1100030, 1100009, 1100027, 1100028, 1100026, 1055, 1100033, 39, 1066] (sv_up (sv_sts (sv_up (sv_up S 1100033 0 ((if (S 1047 0) = 0 then (S 1055 0) + 1 else 0))) 1100033 0 ((if (S 1047 0) = 0 then (S 1055 0) + 1 else 0))) [26, 27, 28, 29, 1046, 1047, 1100007, 1100023, 1100024, 1100025] g14) 1055 0 r19) (sv_sts (sv_up (sv_sts (sv_up (sv_up S 1100033 0 ((if (S 1047 0) = 0 then (S 1055 0) + 1 else 0))) 1100033 0 ((if (S 1047 0) = 0 then (S 1055 0) + 1 else 0))) [26, 27, 28, 29, 1046, 1047, 1100007, 1100023, 1100024, 1100025] g14) 1055 0 r19) [26, 27, 28, 29, 1046, 1047, 1100007, 1100023, 1100024, 1100025, 1053, 31, 1100030, 1100009, 1100027, 1100028, 1100026, 1055, 1100033, 39, 1066] g22) := sv_mod.sts sv_mod.rf (by decide)
    refine sv_iload_n hM dX12_row_25 rfl rfl ?_
    refine sv_iconst (d := (-1 : Int)) hM dX12_row_26 rfl rfl ?_
    refine sv_icmp_eq hM dX12_row_27 hl3_24 (⟨by decide, by decide⟩ : sv_R (-1 : Int)) (t := 84) rfl rfl (fun hc => ?_) (fun hc => ?_)
    · have h := h.1 (hc)
      exact sv_vret hM dX12_row_84 rfl ⟨rfl, ok27, md28, h⟩
    · have h := h.2 (hc)
      have k30 : ((p1 = -1 → l3_24 = -1) → ¬ l3_24 = -1 → ¬ p1 = -1) := fun a b q => b (a q)
      have h := h k30
      have k31 : (sm_WF (S 11) (S 12) (S 13) (S 1100001) (S 1100002) (S 1100005) (S 1100003) (S 1100004) (S 1024 0) (S 1007 0) (S 1009 0) (sm_fn (S 1032 0) (S 21) (S 1056 0)) → 0 ≤ l3_24 → l3_24 < (S 1024 0) → ((S 1100001 (l3_24)) = 1 → 0 ≤ (S 1100002 (l3_24)) ∧ ((S 11 (l3_24)) = 3 → (S 12 (5 * (l3_24) + 1)) < (l3_24)) ∧ ((S 11 (l3_24)) = 4 ∨ (S 11 (l3_24)) = 5 ∨ (S 11 (l3_24)) = 8 ∨ (S 11 (l3_24)) = 9 → 17 * (S 1100005 (l3_24)) + 2 ≤ (S 1100002 (l3_24))) ∧ 0 ≤ (S 1100005 (l3_24))) ∧ ((S 1100001 (l3_24)) = 2 → 0 ≤ (S 1100005 (l3_24)) ∧ (S 1100002 (l3_24)) ≤ 17 * (S 1100005 (l3_24)) + 5 ∧ ((S 11 (l3_24)) = 33 → 1 ≤ (S 1100005 (l3_24)))) ∧ ((S 1100001 (l3_24)) = 6 → 0 ≤ (S 1100002 (l3_24)) ∧ 1 ≤ (S 1100004 (l3_24)) ∧ ((S 12 (5 * (l3_24))) = - 1 → (S 1100004 (l3_24)) = 2)) ∧ ((S 1100001 (l3_24)) = 3 → 1 ≤ (S 1100002 (l3_24)))) := fun h a0 a1 => sm_gx h _ a0 a1
      have h := h k31
      have k32 : (sm_WF (S 11) (S 12) (S 13) (S 1100001) (S 1100002) (S 1100005) (S 1100003) (S 1100004) (S 1024 0) (S 1007 0) (S 1009 0) (sm_fn (S 1032 0) (S 21) (S 1056 0)) → 0 ≤ l3_24 → l3_24 < (S 1024 0) → (S 1100001 l3_24) = 3 → sm_ex (S 1100001) (S 1100002) (S 1100005) (S 1024 0) 1 ((S 12 (5 * (l3_24)))) (17 * (S 1100005 (l3_24)) + 17) ((S 1100005 (l3_24)))) := fun h a0 a1 a2 => sm_g3_3 h _ a0 a1 a2
      have h := h k32
      have k33 : (sm_nm (S 1007 0) (S 1009 0) ((S 12 (5 * l3_24 + 1))) → (S 1009 0) = 0 → 0 ≤ (S 12 (5 * l3_24 + 1)) ∧ (S 12 (5 * l3_24 + 1)) < (S 1007 0)) := fun h a => sm_h_nm h a
      have h := h k33
      have k34 : (sm_WF (S 11) (S 12) (S 13) (S 1100001) (S 1100002) (S 1100005) (S 1100003) (S 1100004) (S 1024 0) (S 1007 0) (S 1009 0) (sm_fn (S 1032 0) (S 21) (S 1056 0)) → 0 ≤ l3_24 → l3_24 < (S 1024 0) → 2 ≤ (S 1100001 l3_24) → (S 13 (l3_24)) = - 1 ∨ ((l3_24) < (S 13 (l3_24)) ∧ (S 13 (l3_24)) < (S 1024 0) ∧ (S 1100001 ((S 13 (l3_24)))) = (S 1100001 (l3_24)) ∧ (S 1100002 ((S 13 (l3_24)))) ≤ (S 1100002 (l3_24)) ∧ (S 1100005 ((S 13 (l3_24)))) ≤ (S 1100005 (l3_24)) ∧ (S 1100003 ((S 13 (l3_24)))) ≤ (S 1100003 (l3_24)) ∧ (S 1100004 ((S 13 (l3_24)))) ≤ (S 1100004 (l3_24)) ∧ ((S 1100001 (l3_24)) = 3 ∨ (S 1100001 (l3_24)) = 6 → (S 1100002 ((S 13 (l3_24)))) < (S 1100002 (l3_24))) ∧ ((S 1100001 (l3_24)) = 6 → (S 1100004 (l3_24)) = 2 → (S 1100004 ((S 13 (l3_24)))) < 2))) := fun h a0 a1 a2 => sm_gn h _ a0 a1 a2
      have h := h k34
      have k35 : (sm_WF (S 11) (S 12) (S 13) (S 1100001) (S 1100002) (S 1100005) (S 1100003) (S 1100004) (S 1024 0) (S 1007 0) (S 1009 0) (sm_fn (S 1032 0) (S 21) (S 1056 0)) → 0 ≤ (S 12 (5 * l3_24)) → (S 12 (5 * l3_24)) < (S 1024 0) → ((S 1100001 ((S 12 (5 * l3_24)))) = 1 → 0 ≤ (S 1100002 ((S 12 (5 * l3_24)))) ∧ ((S 11 ((S 12 (5 * l3_24)))) = 3 → (S 12 (5 * ((S 12 (5 * l3_24))) + 1)) < ((S 12 (5 * l3_24)))) ∧ ((S 11 ((S 12 (5 * l3_24)))) = 4 ∨ (S 11 ((S 12 (5 * l3_24)))) = 5 ∨ (S 11 ((S 12 (5 * l3_24)))) = 8 ∨ (S 11 ((S 12 (5 * l3_24)))) = 9 → 17 * (S 1100005 ((S 12 (5 * l3_24)))) + 2 ≤ (S 1100002 ((S 12 (5 * l3_24))))) ∧ 0 ≤ (S 1100005 ((S 12 (5 * l3_24))))) ∧ ((S 1100001 ((S 12 (5 * l3_24)))) = 2 → 0 ≤ (S 1100005 ((S 12 (5 * l3_24)))) ∧ (S 1100002 ((S 12 (5 * l3_24)))) ≤ 17 * (S 1100005 ((S 12 (5 * l3_24)))) + 5 ∧ ((S 11 ((S 12 (5 * l3_24)))) = 33 → 1 ≤ (S 1100005 ((S 12 (5 * l3_24)))))) ∧ ((S 1100001 ((S 12 (5 * l3_24)))) = 6 → 0 ≤ (S 1100002 ((S 12 (5 * l3_24)))) ∧ 1 ≤ (S 1100004 ((S 12 (5 * l3_24)))) ∧ ((S 12 (5 * ((S 12 (5 * l3_24))))) = - 1 → (S 1100004 ((S 12 (5 * l3_24)))) = 2)) ∧ ((S 1100001 ((S 12 (5 * l3_24)))) = 3 → 1 ≤ (S 1100002 ((S 12 (5 * l3_24)))))) := fun h a0 a1 => sm_gx h _ a0 a1
      have h := h k35
      have k36 : ((S 1100005 (S 12 (5 * l3_24 + 0))) = (S 1100005 (S 12 (5 * l3_24)))) := by rw [Int.add_zero]
      have h := h k36
      have k37 : ((S 1100002 (S 12 (5 * l3_24 + 0))) = (S 1100002 (S 12 (5 * l3_24)))) := by rw [Int.add_zero]
      have h := h k37
      refine sv_aload_n hM dX12_row_30 rfl rfl ?_
      have k38 : (0 ≤ (g22 1047 0) ∧ (g22 1047 0) ≤ 1) := sm_okZ ok27 sm_r1047 0
      have h := h k38
      refine sv_getI hM dX12_row_31 sm_fl_609 (sm_a0 _) sm_k47 rfl (x := (g22 1047 0)) rfl ?_
      refine sv_cond_ne hM dX12_row_34 (sv_R01 k38) (t := 84) rfl rfl (fun hc => ?_) (fun hc => ?_)
      · have h := h.1 (hc)
        exact sv_vret hM dX12_row_84 rfl ⟨rfl, ok27, md28, h⟩
      · have h := h.2 (hc)
        refine sv_aload_n hM dX12_row_37 rfl rfl ?_
        refine sv_bipush (d := (18 : Int)) hM dX12_row_38 rfl rfl ?_
        obtain ⟨o39, h⟩ := h
        obtain ⟨o40, h⟩ := h
        refine sv_callV hM dX12_row_40 sm_iv_666 (by decide) (sm_a0 _) rfl rfl (Nat.le_of_ble_eq_true rfl) sm_h83 (Nat.le_of_ble_eq_true rfl) (Nat.le_of_ble_eq_true rfl) (F' := 1) (sv_Fn (n := 1) o40) rfl (t_emit_ (18 : Int) (sv_sts (sv_up (sv_sts (sv_up (sv_up S 1100033 0 ((if (S 1047 0) = 0 then (S 1055 0) + 1 else 0))) 1100033 0 ((if (S 1047 0) = 0 then (S 1055 0) + 1 else 0))) [26, 27, 28, 29, 1046, 1047, 1100007, 1100023, 1100024, 1100025] g14) 1055 0 r19) [26, 27, 28, 29, 1046, 1047, 1100007, 1100023, 1100024, 1100025, 1053, 31, 1100030, 1100009, 1100027, 1100028, 1100026, 1055, 1100033, 39, 1066] g22) ok27 (⟨by decide, by decide⟩ : sv_R (18 : Int)) o39) (fun v S1 hq => ?_)
        obtain ⟨rfl, ok42, md43, hpo44⟩ := hq
        obtain ⟨g41, rfl⟩ : ∃ g, S1 = sv_sts (sv_sts (sv_up (sv_sts (sv_up (sv_up S 1100033 0 ((if (S 1047 0) = 0 then (S 1055 0) + 1 else 0))) 1100033 0 ((if (S 1047 0) = 0 then (S 1055 0) + 1 else 0))) [26, 27, 28, 29, 1046, 1047, 1100007, 1100023, 1100024, 1100025] g14) 1055 0 r19) [26, 27, 28, 29, 1046, 1047, 1100007, 1100023, 1100024, 1100025, 1053, 31, 1100030, 1100009, 1100027, 1100028, 1100026, 1055, 1100033, 39, 1066] g22) [26, 27, 28, 29, 1046, 1047, 1100007, 1100023, 1100024, 1100025] g := ⟨_, md43.eq⟩
        show sv_T sm_XS sm_cs sm_L sm_sh (((if p1 = -1 then 0 else 17 * (S 1100005 p1) + 17)) + (600 - (S 1046 0)) + 8).toNat (q_row p1 S) 99 43 [(0, .ref 0), (1, sv_I p1), (2, sv_I l2_23), (3, sv_I l3_24)] [] (sv_sts (sv_sts (sv_up (sv_sts (sv_up (sv_up S 1100033 0 ((if (S 1047 0) = 0 then (S 1055 0) + 1 else 0))) 1100033 0 ((if (S 1047 0) = 0 then (S 1055 0) + 1 else 0))) [26, 27, 28, 29, 1046, 1047, 1100007, 1100023, 1100024, 1100025] g14) 1055 0 r19) [26, 27, 28, 29, 1046, 1047, 1100007, 1100023, 1100024, 1100025, 1053, 31, 1100030, 1100009, 1100027, 1100028, 1100026, 1055, 1100033, 39, 1066] g22) [26, 27, 28, 29, 1046, 1047, 1100007, 1100023, 1100024, 1100025] g41)
        have md45 : sv_mod [26, 27, 28, 29, 1046, 1047, 1100007, 1100023, 1100024, 1100025, 1053, 31, 1100030, 1100009, 1100027, 1100028, 1100026, 1055, 1100033, 39, 1066] S (sv_sts (sv_sts (sv_up (sv_sts (sv_up (sv_up S 1100033 0 ((if (S 1047 0) = 0 then (S 1055 0) + 1 else 0))) 1100033 0 ((if (S 1047 0) = 0 then (S 1055 0) + 1 else 0))) [26, 27, 28, 29, 1046, 1047, 1100007, 1100023, 1100024, 1100025] g14) 1055 0 r19) [26, 27, 28, 29, 1046, 1047, 1100007, 1100023, 1100024, 1100025, 1053, 31, 1100030, 1100009, 1100027, 1100028, 1100026, 1055, 1100033, 39, 1066] g22) [26, 27, 28, 29, 1046, 1047, 1100007, 1100023, 1100024, 1100025] g41) := sv_mod.sts md28 (by decide)
        have md46 : sv_mod [26, 27, 28, 29, 1046, 1047, 1100007, 1100023, 1100024, 1100025, 1053, 31, 1100030, 1100009, 1100027, 1100028, 1100026, 1055, 1100033, 39, 1066] (sv_up (sv_sts (sv_up (sv_up S 1100033 0 ((if (S 1047 0) = 0 then (S 1055 0) + 1 else 0))) 1100033 0 ((if (S 1047 0) = 0 then (S 1055 0) + 1 else 0))) [26, 27, 28, 29, 1046, 1047, 1100007, 1100023, 1100024, 1100025] g14) 1055 0 r19) (sv_sts (sv_sts (sv_up (sv_sts (sv_up (sv_up S 1100033 0 ((if (S 1047 0) = 0 then (S 1055 0) + 1 else 0))) 1100033 0 ((if (S 1047 0) = 0 then (S 1055 0) + 1 else 0))) [26, 27, 28, 29, 1046, 1047, 1100007, 1100023, 1100024, 1100025] g14) 1055 0 r19) [26, 27, 28, 29, 1046, 1047, 1100007, 1100023, 1100024, 1100025, 1053, 31, 1100030, 1100009, 1100027, 1100028, 1100026, 1055, 1100033, 39, 1066] g22) [26, 27, 28, 29, 1046, 1047, 1100007, 1100023, 1100024, 1100025] g41) := sv_mod.sts md29 (by decide)
        have h := h g41 hpo44
        refine sv_aload_n hM dX12_row_43 rfl rfl ?_
        refine sv_iconst (d := (5 : Int)) hM dX12_row_44 rfl rfl ?_
        refine sv_iload_n hM dX12_row_45 rfl rfl ?_
        obtain ⟨o47, h⟩ := h
        refine sv_callV hM dX12_row_46 sm_iv_656 (by decide) (sm_a0 _) rfl rfl (Nat.le_of_ble_eq_true rfl) sm_h90 (Nat.le_of_ble_eq_true rfl) (Nat.le_of_ble_eq_true rfl) (F' := 1) (sv_Fn (n := 1) o40) rfl (t_constant (5 : Int) l2_23 (sv_sts (sv_sts (sv_up (sv_sts (sv_up (sv_up S 1100033 0 ((if (S 1047 0) = 0 then (S 1055 0) + 1 else 0))) 1100033 0 ((if (S 1047 0) = 0 then (S 1055 0) + 1 else 0))) [26, 27, 28, 29, 1046, 1047, 1100007, 1100023, 1100024, 1100025] g14) 1055 0 r19) [26, 27, 28, 29, 1046, 1047, 1100007, 1100023, 1100024, 1100025, 1053, 31, 1100030, 1100009, 1100027, 1100028, 1100026, 1055, 1100033, 39, 1066] g22) [26, 27, 28, 29, 1046, 1047, 1100007, 1100023, 1100024, 1100025] g41) ok42 (⟨by decide, by decide⟩ : sv_R (5 : Int)) hl2_23 o47) (fun v S1 hq => ?_)
        obtain ⟨rfl, ok49, md50, hpo51⟩ := hq
        obtain ⟨g48, rfl⟩ : ∃ g, S1 = sv_sts (sv_sts (sv_sts (sv_up (sv_sts (sv_up (sv_up S 1100033 0 ((if (S 1047 0) = 0 then (S 1055 0) + 1 else 0))) 1100033 0 ((if (S 1047 0) = 0 then (S 1055 0) + 1 else 0))) [26, 27, 28, 29, 1046, 1047, 1100007, 1100023, 1100024, 1100025] g14) 1055 0 r19) [26, 27, 28, 29, 1046, 1047, 1100007, 1100023, 1100024, 1100025, 1053, 31, 1100030, 1100009, 1100027, 1100028, 1100026, 1055, 1100033, 39, 1066] g22) [26, 27, 28, 29, 1046, 1047, 1100007, 1100023, 1100024, 1100025] g41) [26, 27, 28, 29, 1046, 1047, 1100007, 1100023, 1100024, 1100025] g := ⟨_, md50.eq⟩
        show sv_T sm_XS sm_cs sm_L sm_sh (((if p1 = -1 then 0 else 17 * (S 1100005 p1) + 17)) + (600 - (S 1046 0)) + 8).toNat (q_row p1 S) 99 49 [(0, .ref 0), (1, sv_I p1), (2, sv_I l2_23), (3, sv_I l3_24)] [] (sv_sts (sv_sts (sv_sts (sv_up (sv_sts (sv_up (sv_up S 1100033 0 ((if (S 1047 0) = 0 then (S 1055 0) + 1 else 0))) 1100033 0 ((if (S 1047 0) = 0 then (S 1055 0) + 1 else 0))) [26, 27, 28, 29, 1046, 1047, 1100007, 1100023, 1100024, 1100025] g14) 1055 0 r19) [26, 27, 28, 29, 1046, 1047, 1100007, 1100023, 1100024, 1100025, 1053, 31, 1100030, 1100009, 1100027, 1100028, 1100026, 1055, 1100033, 39, 1066] g22) [26, 27, 28, 29, 1046, 1047, 1100007, 1100023, 1100024, 1100025] g41) [26, 27, 28, 29, 1046, 1047, 1100007, 1100023, 1100024, 1100025] g48)
        have md52 : sv_mod [26, 27, 28, 29, 1046, 1047, 1100007, 1100023, 1100024, 1100025, 1053, 31, 1100030, 1100009, 1100027, 1100028, 1100026, 1055, 1100033, 39, 1066] S (sv_sts (sv_sts (sv_sts (sv_up (sv_sts (sv_up (sv_up S 1100033 0 ((if (S 1047 0) = 0 then (S 1055 0) + 1 else 0))) 1100033 0 ((if (S 1047 0) = 0 then (S 1055 0) + 1 else 0))) [26, 27, 28, 29, 1046, 1047, 1100007, 1100023, 1100024, 1100025] g14) 1055 0 r19) [26, 27, 28, 29, 1046, 1047, 1100007, 1100023, 1100024, 1100025, 1053, 31, 1100030, 1100009, 1100027, 1100028, 1100026, 1055, 1100033, 39, 1066] g22) [26, 27, 28, 29, 1046, 1047, 1100007, 1100023, 1100024, 1100025] g41) [26, 27, 28, 29, 1046, 1047, 1100007, 1100023, 1100024, 1100025] g48) := sv_mod.sts md45 (by decide)
        have md53 : sv_mod [26, 27, 28, 29, 1046, 1047, 1100007, 1100023, 1100024, 1100025, 1053, 31, 1100030, 1100009, 1100027, 1100028, 1100026, 1055, 1100033, 39, 1066] (sv_up (sv_sts (sv_up (sv_up S 1100033 0 ((if (S 1047 0) = 0 then (S 1055 0) + 1 else 0))) 1100033 0 ((if (S 1047 0) = 0 then (S 1055 0) + 1 else 0))) [26, 27, 28, 29, 1046, 1047, 1100007, 1100023, 1100024, 1100025] g14) 1055 0 r19) (sv_sts (sv_sts (sv_sts (sv_up (sv_sts (sv_up (sv_up S 1100033 0 ((if (S 1047 0) = 0 then (S 1055 0) + 1 else 0))) 1100033 0 ((if (S 1047 0) = 0 then (S 1055 0) + 1 else 0))) [26, 27, 28, 29, 1046, 1047, 1100007, 1100023, 1100024, 1100025] g14) 1055 0 r19) [26, 27, 28, 29, 1046, 1047, 1100007, 1100023, 1100024, 1100025, 1053, 31, 1100030, 1100009, 1100027, 1100028, 1100026, 1055, 1100033, 39, 1066] g22) [26, 27, 28, 29, 1046, 1047, 1100007, 1100023, 1100024, 1100025] g41) [26, 27, 28, 29, 1046, 1047, 1100007, 1100023, 1100024, 1100025] g48) := sv_mod.sts md46 (by decide)
        have h := h g48 hpo51
        refine sv_aload_n hM dX12_row_49 rfl rfl ?_
        refine sv_aload_n hM dX12_row_50 rfl rfl ?_
        refine sv_iload_n hM dX12_row_51 rfl rfl ?_
        refine sv_iconst (d := (0 : Int)) hM dX12_row_52 rfl rfl ?_
        obtain ⟨o54, h⟩ := h
        refine sv_callV hM dX12_row_53 sm_iv_644 (by decide) (sm_a0 _) rfl rfl (Nat.le_of_ble_eq_true rfl) sm_h34 (Nat.le_of_ble_eq_true rfl) (Nat.le_of_ble_eq_true rfl) (F' := 0) (sv_Fn (n := 0) o13) rfl (t_part l3_24 (0 : Int) (sv_sts (sv_sts (sv_sts (sv_up (sv_sts (sv_up (sv_up S 1100033 0 ((if (S 1047 0) = 0 then (S 1055 0) + 1 else 0))) 1100033 0 ((if (S 1047 0) = 0 then (S 1055 0) + 1 else 0))) [26, 27, 28, 29, 1046, 1047, 1100007, 1100023, 1100024, 1100025] g14) 1055 0 r19) [26, 27, 28, 29, 1046, 1047, 1100007, 1100023, 1100024, 1100025, 1053, 31, 1100030, 1100009, 1100027, 1100028, 1100026, 1055, 1100033, 39, 1066] g22) [26, 27, 28, 29, 1046, 1047, 1100007, 1100023, 1100024, 1100025] g41) [26, 27, 28, 29, 1046, 1047, 1100007, 1100023, 1100024, 1100025] g48) ok49 hl3_24 (⟨by decide, by decide⟩ : sv_R (0 : Int)) o54) (fun v S1 hq => ?_)
        obtain ⟨rfl, hS1⟩ := hq
        obtain rfl : (sv_sts (sv_sts (sv_sts (sv_up (sv_sts (sv_up (sv_up S 1100033 0 ((if (S 1047 0) = 0 then (S 1055 0) + 1 else 0))) 1100033 0 ((if (S 1047 0) = 0 then (S 1055 0) + 1 else 0))) [26, 27, 28, 29, 1046, 1047, 1100007, 1100023, 1100024, 1100025] g14) 1055 0 r19) [26, 27, 28, 29, 1046, 1047, 1100007, 1100023, 1100024, 1100025, 1053, 31, 1100030, 1100009, 1100027, 1100028, 1100026, 1055, 1100033, 39, 1066] g22) [26, 27, 28, 29, 1046, 1047, 1100007, 1100023, 1100024, 1100025] g41) [26, 27, 28, 29, 1046, 1047, 1100007, 1100023, 1100024, 1100025] g48) = S1 := hS1.symm
        show sv_T sm_XS sm_cs sm_L sm_sh (((if p1 = -1 then 0 else 17 * (S 1100005 p1) + 17)) + (600 - (S 1046 0)) + 8).toNat (q_row p1 S) 99 56 [(0, .ref 0), (1, sv_I p1), (2, sv_I l2_23), (3, sv_I l3_24)] [sv_I ((S 12 (5 * l3_24 + (0 : Int)))), .ref 0] (sv_sts (sv_sts (sv_sts (sv_up (sv_sts (sv_up (sv_up S 1100033 0 ((if (S 1047 0) = 0 then (S 1055 0) + 1 else 0))) 1100033 0 ((if (S 1047 0) = 0 then (S 1055 0) + 1 else 0))) [26, 27, 28, 29, 1046, 1047, 1100007, 1100023, 1100024, 1100025] g14) 1055 0 r19) [26, 27, 28, 29, 1046, 1047, 1100007, 1100023, 1100024, 1100025, 1053, 31, 1100030, 1100009, 1100027, 1100028, 1100026, 1055, 1100033, 39, 1066] g22) [26, 27, 28, 29, 1046, 1047, 1100007, 1100023, 1100024, 1100025] g41) [26, 27, 28, 29, 1046, 1047, 1100007, 1100023, 1100024, 1100025] g48)
        obtain ⟨o55, h⟩ := h
        obtain ⟨o56, h⟩ := h
        obtain ⟨o57, h⟩ := h
        refine sv_callV hM dX12_row_56 sm_iv_668 (by decide) (sm_a0 _) rfl rfl (Nat.le_of_ble_eq_true rfl) sm_h96 (Nat.le_of_ble_eq_true rfl) (Nat.le_of_ble_eq_true rfl) (F' := (((if (g48 1047 0) = 0 then (S 1100002 ((S 12 (5 * l3_24 + (0 : Int))))) + (600 - (g48 1046 0)) + 8 else 4))).toNat) (sv_Fe o57) rfl ((IH ((if (g48 1047 0) = 0 then (S 1100002 ((S 12 (5 * l3_24 + (0 : Int))))) + (600 - (g48 1046 0)) + 8 else 4)) o56.1 o56.2).1 ((S 12 (5 * l3_24 + (0 : Int)))) (sv_sts (sv_sts (sv_sts (sv_up (sv_sts (sv_up (sv_up S 1100033 0 ((if (S 1047 0) = 0 then (S 1055 0) + 1 else 0))) 1100033 0 ((if (S 1047 0) = 0 then (S 1055 0) + 1 else 0))) [26, 27, 28, 29, 1046, 1047, 1100007, 1100023, 1100024, 1100025] g14) 1055 0 r19) [26, 27, 28, 29, 1046, 1047, 1100007, 1100023, 1100024, 1100025, 1053, 31, 1100030, 1100009, 1100027, 1100028, 1100026, 1055, 1100033, 39, 1066] g22) [26, 27, 28, 29, 1046, 1047, 1100007, 1100023, 1100024, 1100025] g41) [26, 27, 28, 29, 1046, 1047, 1100007, 1100023, 1100024, 1100025] g48) ok49 (sm_okI ok49 sm_r12 _) o55 rfl) (fun v S1 hq => ?_)
        obtain ⟨rfl, ok59, md60, hpo61⟩ := hq
        obtain ⟨g58, rfl⟩ : ∃ g, S1 = sv_sts (sv_sts (sv_sts (sv_sts (sv_up (sv_sts (sv_up (sv_up S 1100033 0 ((if (S 1047 0) = 0 then (S 1055 0) + 1 else 0))) 1100033 0 ((if (S 1047 0) = 0 then (S 1055 0) + 1 else 0))) [26, 27, 28, 29, 1046, 1047, 1100007, 1100023, 1100024, 1100025] g14) 1055 0 r19) [26, 27, 28, 29, 1046, 1047, 1100007, 1100023, 1100024, 1100025, 1053, 31, 1100030, 1100009, 1100027, 1100028, 1100026, 1055, 1100033, 39, 1066] g22) [26, 27, 28, 29, 1046, 1047, 1100007, 1100023, 1100024, 1100025] g41) [26, 27, 28, 29, 1046, 1047, 1100007, 1100023, 1100024, 1100025] g48) [26, 27, 28, 29, 1046, 1047, 1100007, 1100023, 1100024, 1100025, 1053, 31, 1100030, 1100009, 1100027, 1100028, 1100026, 1055, 1100033, 39, 1066] g := ⟨_, md60.eq⟩
        show sv_T sm_XS sm_cs sm_L sm_sh (((if p1 = -1 then 0 else 17 * (S 1100005 p1) + 17)) + (600 - (S 1046 0)) + 8).toNat (q_row p1 S) 99 59 [(0, .ref 0), (1, sv_I p1), (2, sv_I l2_23), (3, sv_I l3_24)] [] (sv_sts (sv_sts (sv_sts (sv_sts (sv_up (sv_sts (sv_up (sv_up S 1100033 0 ((if (S 1047 0) = 0 then (S 1055 0) + 1 else 0))) 1100033 0 ((if (S 1047 0) = 0 then (S 1055 0) + 1 else 0))) [26, 27, 28, 29, 1046, 1047, 1100007, 1100023, 1100024, 1100025] g14) 1055 0 r19) [26, 27, 28, 29, 1046, 1047, 1100007, 1100023, 1100024, 1100025, 1053, 31, 1100030, 1100009, 1100027, 1100028, 1100026, 1055, 1100033, 39, 1066] g22) [26, 27, 28, 29, 1046, 1047, 1100007, 1100023, 1100024, 1100025] g41) [26, 27, 28, 29, 1046, 1047, 1100007, 1100023, 1100024, 1100025] g48) [26, 27, 28, 29, 1046, 1047, 1100007, 1100023, 1100024, 1100025, 1053, 31, 1100030, 1100009, 1100027, 1100028, 1100026, 1055, 1100033, 39, 1066] g58)
        have md62 : sv_mod [26, 27, 28, 29, 1046, 1047, 1100007, 1100023, 1100024, 1100025, 1053, 31, 1100030, 1100009, 1100027, 1100028, 1100026, 1055, 1100033, 39, 1066] S (sv_sts (sv_sts (sv_sts (sv_sts (sv_up (sv_sts (sv_up (sv_up S 1100033 0 ((if (S 1047 0) = 0 then (S 1055 0) + 1 else 0))) 1100033 0 ((if (S 1047 0) = 0 then (S 1055 0) + 1 else 0))) [26, 27, 28, 29, 1046, 1047, 1100007, 1100023, 1100024, 1100025] g14) 1055 0 r19) [26, 27, 28, 29, 1046, 1047, 1100007, 1100023, 1100024, 1100025, 1053, 31, 1100030, 1100009, 1100027, 1100028, 1100026, 1055, 1100033, 39, 1066] g22) [26, 27, 28, 29, 1046, 1047, 1100007, 1100023, 1100024, 1100025] g41) [26, 27, 28, 29, 1046, 1047, 1100007, 1100023, 1100024, 1100025] g48) [26, 27, 28, 29, 1046, 1047, 1100007, 1100023, 1100024, 1100025, 1053, 31, 1100030, 1100009, 1100027, 1100028, 1100026, 1055, 1100033, 39, 1066] g58) := sv_mod.sts md52 (by decide)
        have md63 : sv_mod [26, 27, 28, 29, 1046, 1047, 1100007, 1100023, 1100024, 1100025, 1053, 31, 1100030, 1100009, 1100027, 1100028, 1100026, 1055, 1100033, 39, 1066] (sv_up (sv_sts (sv_up (sv_up S 1100033 0 ((if (S 1047 0) = 0 then (S 1055 0) + 1 else 0))) 1100033 0 ((if (S 1047 0) = 0 then (S 1055 0) + 1 else 0))) [26, 27, 28, 29, 1046, 1047, 1100007, 1100023, 1100024, 1100025] g14) 1055 0 r19) (sv_sts (sv_sts (sv_sts (sv_sts (sv_up (sv_sts (sv_up (sv_up S 1100033 0 ((if (S 1047 0) = 0 then (S 1055 0) + 1 else 0))) 1100033 0 ((if (S 1047 0) = 0 then (S 1055 0) + 1 else 0))) [26, 27, 28, 29, 1046, 1047, 1100007, 1100023, 1100024, 1100025] g14) 1055 0 r19) [26, 27, 28, 29, 1046, 1047, 1100007, 1100023, 1100024, 1100025, 1053, 31, 1100030, 1100009, 1100027, 1100028, 1100026, 1055, 1100033, 39, 1066] g22) [26, 27, 28, 29, 1046, 1047, 1100007, 1100023, 1100024, 1100025] g41) [26, 27, 28, 29, 1046, 1047, 1100007, 1100023, 1100024, 1100025] g48) [26, 27, 28, 29, 1046, 1047, 1100007, 1100023, 1100024, 1100025, 1053, 31, 1100030, 1100009, 1100027, 1100028, 1100026, 1055, 1100033, 39, 1066] g58) := sv_mod.sts md53 (by decide)
        have h := h g58 hpo61
        refine sv_aload_n hM dX12_row_59 rfl rfl ?_
        refine sv_bipush (d := (11 : Int)) hM dX12_row_60 rfl rfl ?_
        obtain ⟨o64, h⟩ := h
        refine sv_callV hM dX12_row_62 sm_iv_666 (by decide) (sm_a0 _) rfl rfl (Nat.le_of_ble_eq_true rfl) sm_h83 (Nat.le_of_ble_eq_true rfl) (Nat.le_of_ble_eq_true rfl) (F' := 1) (sv_Fn (n := 1) o40) rfl (t_emit_ (11 : Int) (sv_sts (sv_sts (sv_sts (sv_sts (sv_up (sv_sts (sv_up (sv_up S 1100033 0 ((if (S 1047 0) = 0 then (S 1055 0) + 1 else 0))) 1100033 0 ((if (S 1047 0) = 0 then (S 1055 0) + 1 else 0))) [26, 27, 28, 29, 1046, 1047, 1100007, 1100023, 1100024, 1100025] g14) 1055 0 r19) [26, 27, 28, 29, 1046, 1047, 1100007, 1100023, 1100024, 1100025, 1053, 31, 1100030, 1100009, 1100027, 1100028, 1100026, 1055, 1100033, 39, 1066] g22) [26, 27, 28, 29, 1046, 1047, 1100007, 1100023, 1100024, 1100025] g41) [26, 27, 28, 29, 1046, 1047, 1100007, 1100023, 1100024, 1100025] g48) [26, 27, 28, 29, 1046, 1047, 1100007, 1100023, 1100024, 1100025, 1053, 31, 1100030, 1100009, 1100027, 1100028, 1100026, 1055, 1100033, 39, 1066] g58) ok59 (⟨by decide, by decide⟩ : sv_R (11 : Int)) o64) (fun v S1 hq => ?_)
        obtain ⟨rfl, ok66, md67, hpo68⟩ := hq
        obtain ⟨g65, rfl⟩ : ∃ g, S1 = sv_sts (sv_sts (sv_sts (sv_sts (sv_sts (sv_up (sv_sts (sv_up (sv_up S 1100033 0 ((if (S 1047 0) = 0 then (S 1055 0) + 1 else 0))) 1100033 0 ((if (S 1047 0) = 0 then (S 1055 0) + 1 else 0))) [26, 27, 28, 29, 1046, 1047, 1100007, 1100023, 1100024, 1100025] g14) 1055 0 r19) [26, 27, 28, 29, 1046, 1047, 1100007, 1100023, 1100024, 1100025, 1053, 31, 1100030, 1100009, 1100027, 1100028, 1100026, 1055, 1100033, 39, 1066] g22) [26, 27, 28, 29, 1046, 1047, 1100007, 1100023, 1100024, 1100025] g41) [26, 27, 28, 29, 1046, 1047, 1100007, 1100023, 1100024, 1100025] g48) [26, 27, 28, 29, 1046, 1047, 1100007, 1100023, 1100024, 1100025, 1053, 31, 1100030, 1100009, 1100027, 1100028, 1100026, 1055, 1100033, 39, 1066] g58) [26, 27, 28, 29, 1046, 1047, 1100007, 1100023, 1100024, 1100025] g := ⟨_, md67.eq⟩
        show sv_T sm_XS sm_cs sm_L sm_sh (((if p1 = -1 then 0 else 17 * (S 1100005 p1) + 17)) + (600 - (S 1046 0)) + 8).toNat (q_row p1 S) 99 65 [(0, .ref 0), (1, sv_I p1), (2, sv_I l2_23), (3, sv_I l3_24)] [] (sv_sts (sv_sts (sv_sts (sv_sts (sv_sts (sv_up (sv_sts (sv_up (sv_up S 1100033 0 ((if (S 1047 0) = 0 then (S 1055 0) + 1 else 0))) 1100033 0 ((if (S 1047 0) = 0 then (S 1055 0) + 1 else 0))) [26, 27, 28, 29, 1046, 1047, 1100007, 1100023, 1100024, 1100025] g14) 1055 0 r19) [26, 27, 28, 29, 1046, 1047, 1100007, 1100023, 1100024, 1100025, 1053, 31, 1100030, 1100009, 1100027, 1100028, 1100026, 1055, 1100033, 39, 1066] g22) [26, 27, 28, 29, 1046, 1047, 1100007, 1100023, 1100024, 1100025] g41) [26, 27, 28, 29, 1046, 1047, 1100007, 1100023, 1100024, 1100025] g48) [26, 27, 28, 29, 1046, 1047, 1100007, 1100023, 1100024, 1100025, 1053, 31, 1100030, 1100009, 1100027, 1100028, 1100026, 1055, 1100033, 39, 1066] g58) [26, 27, 28, 29, 1046, 1047, 1100007, 1100023, 1100024, 1100025] g65)
        have md69 : sv_mod [26, 27, 28, 29, 1046, 1047, 1100007, 1100023, 1100024, 1100025, 1053, 31, 1100030, 1100009, 1100027, 1100028, 1100026, 1055, 1100033, 39, 1066] S (sv_sts (sv_sts (sv_sts (sv_sts (sv_sts (sv_up (sv_sts (sv_up (sv_up S 1100033 0 ((if (S 1047 0) = 0 then (S 1055 0) + 1 else 0))) 1100033 0 ((if (S 1047 0) = 0 then (S 1055 0) + 1 else 0))) [26, 27, 28, 29, 1046, 1047, 1100007, 1100023, 1100024, 1100025] g14) 1055 0 r19) [26, 27, 28, 29, 1046, 1047, 1100007, 1100023, 1100024, 1100025, 1053, 31, 1100030, 1100009, 1100027, 1100028, 1100026, 1055, 1100033, 39, 1066] g22) [26, 27, 28, 29, 1046, 1047, 1100007, 1100023, 1100024, 1100025] g41) [26, 27, 28, 29, 1046, 1047, 1100007, 1100023, 1100024, 1100025] g48) [26, 27, 28, 29, 1046, 1047, 1100007, 1100023, 1100024, 1100025, 1053, 31, 1100030, 1100009, 1100027, 1100028, 1100026, 1055, 1100033, 39, 1066] g58) [26, 27, 28, 29, 1046, 1047, 1100007, 1100023, 1100024, 1100025] g65) := sv_mod.sts md62 (by decide)
        have md70 : sv_mod [26, 27, 28, 29, 1046, 1047, 1100007, 1100023, 1100024, 1100025, 1053, 31, 1100030, 1100009, 1100027, 1100028, 1100026, 1055, 1100033, 39, 1066] (sv_up (sv_sts (sv_up (sv_up S 1100033 0 ((if (S 1047 0) = 0 then (S 1055 0) + 1 else 0))) 1100033 0 ((if (S 1047 0) = 0 then (S 1055 0) + 1 else 0))) [26, 27, 28, 29, 1046, 1047, 1100007, 1100023, 1100024, 1100025] g14) 1055 0 r19) (sv_sts (sv_sts (sv_sts (sv_sts (sv_sts (sv_up (sv_sts (sv_up (sv_up S 1100033 0 ((if (S 1047 0) = 0 then (S 1055 0) + 1 else 0))) 1100033 0 ((if (S 1047 0) = 0 then (S 1055 0) + 1 else 0))) [26, 27, 28, 29, 1046, 1047, 1100007, 1100023, 1100024, 1100025] g14) 1055 0 r19) [26, 27, 28, 29, 1046, 1047, 1100007, 1100023, 1100024, 1100025, 1053, 31, 1100030, 1100009, 1100027, 1100028, 1100026, 1055, 1100033, 39, 1066] g22) [26, 27, 28, 29, 1046, 1047, 1100007, 1100023, 1100024, 1100025] g41) [26, 27, 28, 29, 1046, 1047, 1100007, 1100023, 1100024, 1100025] g48) [26, 27, 28, 29, 1046, 1047, 1100007, 1100023, 1100024, 1100025, 1053, 31, 1100030, 1100009, 1100027, 1100028, 1100026, 1055, 1100033, 39, 1066] g58) [26, 27, 28, 29, 1046, 1047, 1100007, 1100023, 1100024, 1100025] g65) := sv_mod.sts md63 (by decide)
        have h := h g65 hpo68
        refine sv_aload_n hM dX12_row_65 rfl rfl ?_
        refine sv_bipush (d := (17 : Int)) hM dX12_row_66 rfl rfl ?_
        obtain ⟨o71, h⟩ := h
        refine sv_callV hM dX12_row_68 sm_iv_666 (by decide) (sm_a0 _) rfl rfl (Nat.le_of_ble_eq_true rfl) sm_h83 (Nat.le_of_ble_eq_true rfl) (Nat.le_of_ble_eq_true rfl) (F' := 1) (sv_Fn (n := 1) o40) rfl (t_emit_ (17 : Int) (sv_sts (sv_sts (sv_sts (sv_sts (sv_sts (sv_up (sv_sts (sv_up (sv_up S 1100033 0 ((if (S 1047 0) = 0 then (S 1055 0) + 1 else 0))) 1100033 0 ((if (S 1047 0) = 0 then (S 1055 0) + 1 else 0))) [26, 27, 28, 29, 1046, 1047, 1100007, 1100023, 1100024, 1100025] g14) 1055 0 r19) [26, 27, 28, 29, 1046, 1047, 1100007, 1100023, 1100024, 1100025, 1053, 31, 1100030, 1100009, 1100027, 1100028, 1100026, 1055, 1100033, 39, 1066] g22) [26, 27, 28, 29, 1046, 1047, 1100007, 1100023, 1100024, 1100025] g41) [26, 27, 28, 29, 1046, 1047, 1100007, 1100023, 1100024, 1100025] g48) [26, 27, 28, 29, 1046, 1047, 1100007, 1100023, 1100024, 1100025, 1053, 31, 1100030, 1100009, 1100027, 1100028, 1100026, 1055, 1100033, 39, 1066] g58) [26, 27, 28, 29, 1046, 1047, 1100007, 1100023, 1100024, 1100025] g65) ok66 (⟨by decide, by decide⟩ : sv_R (17 : Int)) o71) (fun v S1 hq => ?_)
        obtain ⟨rfl, ok73, md74, hpo75⟩ := hq
        obtain ⟨g72, rfl⟩ : ∃ g, S1 = sv_sts (sv_sts (sv_sts (sv_sts (sv_sts (sv_sts (sv_up (sv_sts (sv_up (sv_up S 1100033 0 ((if (S 1047 0) = 0 then (S 1055 0) + 1 else 0))) 1100033 0 ((if (S 1047 0) = 0 then (S 1055 0) + 1 else 0))) [26, 27, 28, 29, 1046, 1047, 1100007, 1100023, 1100024, 1100025] g14) 1055 0 r19) [26, 27, 28, 29, 1046, 1047, 1100007, 1100023, 1100024, 1100025, 1053, 31, 1100030, 1100009, 1100027, 1100028, 1100026, 1055, 1100033, 39, 1066] g22) [26, 27, 28, 29, 1046, 1047, 1100007, 1100023, 1100024, 1100025] g41) [26, 27, 28, 29, 1046, 1047, 1100007, 1100023, 1100024, 1100025] g48) [26, 27, 28, 29, 1046, 1047, 1100007, 1100023, 1100024, 1100025, 1053, 31, 1100030, 1100009, 1100027, 1100028, 1100026, 1055, 1100033, 39, 1066] g58) [26, 27, 28, 29, 1046, 1047, 1100007, 1100023, 1100024, 1100025] g65) [26, 27, 28, 29, 1046, 1047, 1100007, 1100023, 1100024, 1100025] g := ⟨_, md74.eq⟩
        show sv_T sm_XS sm_cs sm_L sm_sh (((if p1 = -1 then 0 else 17 * (S 1100005 p1) + 17)) + (600 - (S 1046 0)) + 8).toNat (q_row p1 S) 99 71 [(0, .ref 0), (1, sv_I p1), (2, sv_I l2_23), (3, sv_I l3_24)] [] (sv_sts (sv_sts (sv_sts (sv_sts (sv_sts (sv_sts (sv_up (sv_sts (sv_up (sv_up S 1100033 0 ((if (S 1047 0) = 0 then (S 1055 0) + 1 else 0))) 1100033 0 ((if (S 1047 0) = 0 then (S 1055 0) + 1 else 0))) [26, 27, 28, 29, 1046, 1047, 1100007, 1100023, 1100024, 1100025] g14) 1055 0 r19) [26, 27, 28, 29, 1046, 1047, 1100007, 1100023, 1100024, 1100025, 1053, 31, 1100030, 1100009, 1100027, 1100028, 1100026, 1055, 1100033, 39, 1066] g22) [26, 27, 28, 29, 1046, 1047, 1100007, 1100023, 1100024, 1100025] g41) [26, 27, 28, 29, 1046, 1047, 1100007, 1100023, 1100024, 1100025] g48) [26, 27, 28, 29, 1046, 1047, 1100007, 1100023, 1100024, 1100025, 1053, 31, 1100030, 1100009, 1100027, 1100028, 1100026, 1055, 1100033, 39, 1066] g58) [26, 27, 28, 29, 1046, 1047, 1100007, 1100023, 1100024, 1100025] g65) [26, 27, 28, 29, 1046, 1047, 1100007, 1100023, 1100024, 1100025] g72)
        have md76 : sv_mod [26, 27, 28, 29, 1046, 1047, 1100007, 1100023, 1100024, 1100025, 1053, 31, 1100030, 1100009, 1100027, 1100028, 1100026, 1055, 1100033, 39, 1066] S (sv_sts (sv_sts (sv_sts (sv_sts (sv_sts (sv_sts (sv_up (sv_sts (sv_up (sv_up S 1100033 0 ((if (S 1047 0) = 0 then (S 1055 0) + 1 else 0))) 1100033 0 ((if (S 1047 0) = 0 then (S 1055 0) + 1 else 0))) [26, 27, 28, 29, 1046, 1047, 1100007, 1100023, 1100024, 1100025] g14) 1055 0 r19) [26, 27, 28, 29, 1046, 1047, 1100007, 1100023, 1100024, 1100025, 1053, 31, 1100030, 1100009, 1100027, 1100028, 1100026, 1055, 1100033, 39, 1066] g22) [26, 27, 28, 29, 1046, 1047, 1100007, 1100023, 1100024, 1100025] g41) [26, 27, 28, 29, 1046, 1047, 1100007, 1100023, 1100024, 1100025] g48) [26, 27, 28, 29, 1046, 1047, 1100007, 1100023, 1100024, 1100025, 1053, 31, 1100030, 1100009, 1100027, 1100028, 1100026, 1055, 1100033, 39, 1066] g58) [26, 27, 28, 29, 1046, 1047, 1100007, 1100023, 1100024, 1100025] g65) [26, 27, 28, 29, 1046, 1047, 1100007, 1100023, 1100024, 1100025] g72) := sv_mod.sts md69 (by decide)
        have md77 : sv_mod [26, 27, 28, 29, 1046, 1047, 1100007, 1100023, 1100024, 1100025, 1053, 31, 1100030, 1100009, 1100027, 1100028, 1100026, 1055, 1100033, 39, 1066] (sv_up (sv_sts (sv_up (sv_up S 1100033 0 ((if (S 1047 0) = 0 then (S 1055 0) + 1 else 0))) 1100033 0 ((if (S 1047 0) = 0 then (S 1055 0) + 1 else 0))) [26, 27, 28, 29, 1046, 1047, 1100007, 1100023, 1100024, 1100025] g14) 1055 0 r19) (sv_sts (sv_sts (sv_sts (sv_sts (sv_sts (sv_sts (sv_up (sv_sts (sv_up (sv_up S 1100033 0 ((if (S 1047 0) = 0 then (S 1055 0) + 1 else 0))) 1100033 0 ((if (S 1047 0) = 0 then (S 1055 0) + 1 else 0))) [26, 27, 28, 29, 1046, 1047, 1100007, 1100023, 1100024, 1100025] g14) 1055 0 r19) [26, 27, 28, 29, 1046, 1047, 1100007, 1100023, 1100024, 1100025, 1053, 31, 1100030, 1100009, 1100027, 1100028, 1100026, 1055, 1100033, 39, 1066] g22) [26, 27, 28, 29, 1046, 1047, 1100007, 1100023, 1100024, 1100025] g41) [26, 27, 28, 29, 1046, 1047, 1100007, 1100023, 1100024, 1100025] g48) [26, 27, 28, 29, 1046, 1047, 1100007, 1100023, 1100024, 1100025, 1053, 31, 1100030, 1100009, 1100027, 1100028, 1100026, 1055, 1100033, 39, 1066] g58) [26, 27, 28, 29, 1046, 1047, 1100007, 1100023, 1100024, 1100025] g65) [26, 27, 28, 29, 1046, 1047, 1100007, 1100023, 1100024, 1100025] g72) := sv_mod.sts md70 (by decide)
        have h := h g72 hpo75
        refine sv_iinc (d := (1 : Int)) hM dX12_row_71 rfl (by decide) rfl rfl ?_
        show sv_T sm_XS sm_cs sm_L sm_sh (((if p1 = -1 then 0 else 17 * (S 1100005 p1) + 17)) + (600 - (S 1046 0)) + 8).toNat (q_row p1 S) 99 74 [(0, .ref 0), (1, sv_I p1), (2, sv_I (l2_23 + (1 : Int))), (3, sv_I l3_24)] [] (sv_sts (sv_sts (sv_sts (sv_sts (sv_sts (sv_sts (sv_up (sv_sts (sv_up (sv_up S 1100033 0 ((if (S 1047 0) = 0 then (S 1055 0) + 1 else 0))) 1100033 0 ((if (S 1047 0) = 0 then (S 1055 0) + 1 else 0))) [26, 27, 28, 29, 1046, 1047, 1100007, 1100023, 1100024, 1100025] g14) 1055 0 r19) [26, 27, 28, 29, 1046, 1047, 1100007, 1100023, 1100024, 1100025, 1053, 31, 1100030, 1100009, 1100027, 1100028, 1100026, 1055, 1100033, 39, 1066] g22) [26, 27, 28, 29, 1046, 1047, 1100007, 1100023, 1100024, 1100025] g41) [26, 27, 28, 29, 1046, 1047, 1100007, 1100023, 1100024, 1100025] g48) [26, 27, 28, 29, 1046, 1047, 1100007, 1100023, 1100024, 1100025, 1053, 31, 1100030, 1100009, 1100027, 1100028, 1100026, 1055, 1100033, 39, 1066] g58) [26, 27, 28, 29, 1046, 1047, 1100007, 1100023, 1100024, 1100025] g65) [26, 27, 28, 29, 1046, 1047, 1100007, 1100023, 1100024, 1100025] g72)
        refine sv_aload_n hM dX12_row_74 rfl rfl ?_
        refine sv_getA hM dX12_row_75 sm_fl_49 (sm_a0 _) sm_k27 rfl ?_
        refine sv_iload_n hM dX12_row_78 rfl rfl ?_
        obtain ⟨o78, h⟩ := h
        have k79 : sv_R (S 13 l3_24) := sm_okI ok73 sm_r13 l3_24
        have h := h k79
        refine sv_iald hM dX12_row_79 (sm_a13 _) (by decide) o78.1 o78.2 rfl (x := (S 13 l3_24)) rfl ?_
        refine sv_istore_n hM dX12_row_80 (by decide) rfl ?_
        show sv_T sm_XS sm_cs sm_L sm_sh (((if p1 = -1 then 0 else 17 * (S 1100005 p1) + 17)) + (600 - (S 1046 0)) + 8).toNat (q_row p1 S) 99 81 [(0, .ref 0), (1, sv_I p1), (2, sv_I (l2_23 + (1 : Int))), (3, sv_I (S 13 l3_24))] [] (sv_sts (sv_sts (sv_sts (sv_sts (sv_sts (sv_sts (sv_up (sv_sts (sv_up (sv_up S 1100033 0 ((if (S 1047 0) = 0 then (S 1055 0) + 1 else 0))) 1100033 0 ((if (S 1047 0) = 0 then (S 1055 0) + 1 else 0))) [26, 27, 28, 29, 1046, 1047, 1100007, 1100023, 1100024, 1100025] g14) 1055 0 r19) [26, 27, 28, 29, 1046, 1047, 1100007, 1100023, 1100024, 1100025, 1053, 31, 1100030, 1100009, 1100027, 1100028, 1100026, 1055, 1100033, 39, 1066] g22) [26, 27, 28, 29, 1046, 1047, 1100007, 1100023, 1100024, 1100025] g41) [26, 27, 28, 29, 1046, 1047, 1100007, 1100023, 1100024, 1100025] g48) [26, 27, 28, 29, 1046, 1047, 1100007, 1100023, 1100024, 1100025, 1053, 31, 1100030, 1100009, 1100027, 1100028, 1100026, 1055, 1100033, 39, 1066] g58) [26, 27, 28, 29, 1046, 1047, 1100007, 1100023, 1100024, 1100025] g65) [26, 27, 28, 29, 1046, 1047, 1100007, 1100023, 1100024, 1100025] g72)
        refine sv_goto hM dX12_row_81 (pc' := 25) rfl ?_
        obtain ⟨o80, h⟩ := h
        have eS := sv_mod.eq md77
        have hb := ih25 ((l2_23 + (1 : Int)), (S 13 l3_24), (sv_sts (sv_sts (sv_sts (sv_sts (sv_sts (sv_sts (sv_up (sv_sts (sv_up (sv_up S 1100033 0 ((if (S 1047 0) = 0 then (S 1055 0) + 1 else 0))) 1100033 0 ((if (S 1047 0) = 0 then (S 1055 0) + 1 else 0))) [26, 27, 28, 29, 1046, 1047, 1100007, 1100023, 1100024, 1100025] g14) 1055 0 r19) [26, 27, 28, 29, 1046, 1047, 1100007, 1100023, 1100024, 1100025, 1053, 31, 1100030, 1100009, 1100027, 1100028, 1100026, 1055, 1100033, 39, 1066] g22) [26, 27, 28, 29, 1046, 1047, 1100007, 1100023, 1100024, 1100025] g41) [26, 27, 28, 29, 1046, 1047, 1100007, 1100023, 1100024, 1100025] g48) [26, 27, 28, 29, 1046, 1047, 1100007, 1100023, 1100024, 1100025, 1053, 31, 1100030, 1100009, 1100027, 1100028, 1100026, 1055, 1100033, 39, 1066] g58) [26, 27, 28, 29, 1046, 1047, 1100007, 1100023, 1100024, 1100025] g65) [26, 27, 28, 29, 1046, 1047, 1100007, 1100023, 1100024, 1100025] g72)) ⟨o80, k79, (by rw [← eS]; exact ok73), h.1⟩ h.2
        have hb : sv_T sm_XS sm_cs sm_L sm_sh (((if p1 = -1 then 0 else 17 * (S 1100005 p1) + 17)) + (600 - (S 1046 0)) + 8).toNat (q_row p1 S) 99 25 [(0, .ref 0), (1, sv_I p1), (2, sv_I (l2_23 + (1 : Int))), (3, sv_I (S 13 l3_24))] [] (sv_sts (sv_sts (sv_sts (sv_sts (sv_sts (sv_sts (sv_up (sv_sts (sv_up (sv_up S 1100033 0 ((if (S 1047 0) = 0 then (S 1055 0) + 1 else 0))) 1100033 0 ((if (S 1047 0) = 0 then (S 1055 0) + 1 else 0))) [26, 27, 28, 29, 1046, 1047, 1100007, 1100023, 1100024, 1100025] g14) 1055 0 r19) [26, 27, 28, 29, 1046, 1047, 1100007, 1100023, 1100024, 1100025, 1053, 31, 1100030, 1100009, 1100027, 1100028, 1100026, 1055, 1100033, 39, 1066] g22) [26, 27, 28, 29, 1046, 1047, 1100007, 1100023, 1100024, 1100025] g41) [26, 27, 28, 29, 1046, 1047, 1100007, 1100023, 1100024, 1100025] g48) [26, 27, 28, 29, 1046, 1047, 1100007, 1100023, 1100024, 1100025, 1053, 31, 1100030, 1100009, 1100027, 1100028, 1100026, 1055, 1100033, 39, 1066] g58) [26, 27, 28, 29, 1046, 1047, 1100007, 1100023, 1100024, 1100025] g65) [26, 27, 28, 29, 1046, 1047, 1100007, 1100023, 1100024, 1100025] g72) := Eq.mpr (congrArg (fun Z => sv_T sm_XS sm_cs sm_L sm_sh (((if p1 = -1 then 0 else 17 * (S 1100005 p1) + 17)) + (600 - (S 1046 0)) + 8).toNat (q_row p1 S) 99 25 [(0, .ref 0), (1, sv_I p1), (2, sv_I (l2_23 + (1 : Int))), (3, sv_I (S 13 l3_24))] [] Z) eS) hb
        exact sv_less (lv := [(0, .ref 0), (1, sv_I p1), (2, sv_I (l2_23 + (1 : Int))), (3, sv_I (S 13 l3_24))]) (sv_Sub_cons rfl (sv_Sub_cons rfl (sv_Sub_cons rfl (sv_Sub_cons rfl sv_Sub_nil)))) hb
  have eS := sv_mod.eq (sv_mod.rf (l := [26, 27, 28, 29, 1046, 1047, 1100007, 1100023, 1100024, 1100025, 1053, 31, 1100030, 1100009, 1100027, 1100028, 1100026, 1055, 1100033, 39, 1066]) (S := (sv_up (sv_sts (sv_up (sv_up S 1100033 0 ((if (S 1047 0) = 0 then (S 1055 0) + 1 else 0))) 1100033 0 ((if (S 1047 0) = 0 then (S 1055 0) + 1 else 0))) [26, 27, 28, 29, 1046, 1047, 1100007, 1100023, 1100024, 1100025] g14) 1055 0 r19)))
  have hb := hJ ((0 : Int), p1, (sv_up (sv_sts (sv_up (sv_up S 1100033 0 ((if (S 1047 0) = 0 then (S 1055 0) + 1 else 0))) 1100033 0 ((if (S 1047 0) = 0 then (S 1055 0) + 1 else 0))) [26, 27, 28, 29, 1046, 1047, 1100007, 1100023, 1100024, 1100025] g14) 1055 0 r19)) ⟨(⟨by decide, by decide⟩ : sv_R (0 : Int)), hp1, (by rw [← eS]; exact ok20), hin26⟩
  have hb : sv_T sm_XS sm_cs sm_L sm_sh (((if p1 = -1 then 0 else 17 * (S 1100005 p1) + 17)) + (600 - (S 1046 0)) + 8).toNat (q_row p1 S) 99 25 [(0, .ref 0), (1, sv_I p1), (2, sv_I (0 : Int)), (3, sv_I p1)] [] (sv_up (sv_sts (sv_up (sv_up S 1100033 0 ((if (S 1047 0) = 0 then (S 1055 0) + 1 else 0))) 1100033 0 ((if (S 1047 0) = 0 then (S 1055 0) + 1 else 0))) [26, 27, 28, 29, 1046, 1047, 1100007, 1100023, 1100024, 1100025] g14) 1055 0 r19) := Eq.mpr (congrArg (fun Z => sv_T sm_XS sm_cs sm_L sm_sh (((if p1 = -1 then 0 else 17 * (S 1100005 p1) + 17)) + (600 - (S 1046 0)) + 8).toNat (q_row p1 S) 99 25 [(0, .ref 0), (1, sv_I p1), (2, sv_I (0 : Int)), (3, sv_I p1)] [] Z) eS) hb
  exact hb
