theorem dX12_give_0 : decode cX12_give 0 = .ok (.aload_n 0, 1) := by decide +kernel
theorem dX12_give_1 : decode cX12_give 1 = .ok (.getfield 42, 3) := by decide +kernel
theorem dX12_give_4 : decode cX12_give 4 = .ok (.iload_n 2, 1) := by decide +kernel
theorem dX12_give_5 : decode cX12_give 5 = .ok (.iaload, 1) := by decide +kernel
theorem dX12_give_6 : decode cX12_give 6 = .ok (.iconst 2, 1) := by decide +kernel
theorem dX12_give_7 : decode cX12_give 7 = .ok (.if_icmp .ne 7, 3) := by decide +kernel
theorem dX12_give_10 : decode cX12_give 10 = .ok (.iconst 1, 1) := by decide +kernel
theorem dX12_give_11 : decode cX12_give 11 = .ok (.goto 4, 3) := by decide +kernel
theorem dX12_give_14 : decode cX12_give 14 = .ok (.iconst 0, 1) := by decide +kernel
theorem dX12_give_15 : decode cX12_give 15 = .ok (.istore 4, 2) := by decide +kernel
theorem dX12_give_17 : decode cX12_give 17 = .ok (.iload 4, 2) := by decide +kernel
theorem dX12_give_19 : decode cX12_give 19 = .ok (.ifCond .ne 23, 3) := by decide +kernel
theorem dX12_give_22 : decode cX12_give 22 = .ok (.aload_n 0, 1) := by decide +kernel
theorem dX12_give_23 : decode cX12_give 23 = .ok (.aload_n 0, 1) := by decide +kernel
theorem dX12_give_24 : decode cX12_give 24 = .ok (.iload_n 2, 1) := by decide +kernel
theorem dX12_give_25 : decode cX12_give 25 = .ok (.iconst 0, 1) := by decide +kernel
theorem dX12_give_26 : decode cX12_give 26 = .ok (.invokevirtual 644, 3) := by decide +kernel
theorem dX12_give_29 : decode cX12_give 29 = .ok (.invokevirtual 668, 3) := by decide +kernel
theorem dX12_give_32 : decode cX12_give 32 = .ok (.aload_n 0, 1) := by decide +kernel
theorem dX12_give_33 : decode cX12_give 33 = .ok (.aload_n 0, 1) := by decide +kernel
theorem dX12_give_34 : decode cX12_give 34 = .ok (.iload_n 2, 1) := by decide +kernel
theorem dX12_give_35 : decode cX12_give 35 = .ok (.iconst 1, 1) := by decide +kernel
theorem dX12_give_36 : decode cX12_give 36 = .ok (.invokevirtual 644, 3) := by decide +kernel
theorem dX12_give_39 : decode cX12_give 39 = .ok (.invokevirtual 668, 3) := by decide +kernel
theorem dX12_give_42 : decode cX12_give 42 = .ok (.iload_n 1, 1) := by decide +kernel
theorem dX12_give_43 : decode cX12_give 43 = .ok (.iconst (-1), 1) := by decide +kernel
theorem dX12_give_44 : decode cX12_give 44 = .ok (.if_icmp .eq 33, 3) := by decide +kernel
theorem dX12_give_47 : decode cX12_give 47 = .ok (.iload 4, 2) := by decide +kernel
theorem dX12_give_49 : decode cX12_give 49 = .ok (.ifCond .eq 16, 3) := by decide +kernel
theorem dX12_give_52 : decode cX12_give 52 = .ok (.aload_n 0, 1) := by decide +kernel
theorem dX12_give_53 : decode cX12_give 53 = .ok (.aload_n 0, 1) := by decide +kernel
theorem dX12_give_54 : decode cX12_give 54 = .ok (.iload_n 2, 1) := by decide +kernel
theorem dX12_give_55 : decode cX12_give 55 = .ok (.iconst 0, 1) := by decide +kernel
theorem dX12_give_56 : decode cX12_give 56 = .ok (.invokevirtual 644, 3) := by decide +kernel
theorem dX12_give_59 : decode cX12_give 59 = .ok (.invokevirtual 680, 3) := by decide +kernel
theorem dX12_give_62 : decode cX12_give 62 = .ok (.goto 15, 3) := by decide +kernel
theorem dX12_give_65 : decode cX12_give 65 = .ok (.aload_n 0, 1) := by decide +kernel
theorem dX12_give_66 : decode cX12_give 66 = .ok (.bipush 19, 2) := by decide +kernel
theorem dX12_give_68 : decode cX12_give 68 = .ok (.invokevirtual 666, 3) := by decide +kernel
theorem dX12_give_71 : decode cX12_give 71 = .ok (.aload_n 0, 1) := by decide +kernel
theorem dX12_give_72 : decode cX12_give 72 = .ok (.bipush 10, 2) := by decide +kernel
theorem dX12_give_74 : decode cX12_give 74 = .ok (.invokevirtual 666, 3) := by decide +kernel
theorem dX12_give_77 : decode cX12_give 77 = .ok (.aload_n 0, 1) := by decide +kernel
theorem dX12_give_78 : decode cX12_give 78 = .ok (.iload_n 3, 1) := by decide +kernel
theorem dX12_give_79 : decode cX12_give 79 = .ok (.invokevirtual 668, 3) := by decide +kernel
theorem dX12_give_82 : decode cX12_give 82 = .ok (.iload_n 1, 1) := by decide +kernel
theorem dX12_give_83 : decode cX12_give 83 = .ok (.iconst (-1), 1) := by decide +kernel
theorem dX12_give_84 : decode cX12_give 84 = .ok (.if_icmp .eq 11, 3) := by decide +kernel
theorem dX12_give_87 : decode cX12_give 87 = .ok (.aload_n 0, 1) := by decide +kernel
theorem dX12_give_88 : decode cX12_give 88 = .ok (.bipush 14, 2) := by decide +kernel
theorem dX12_give_90 : decode cX12_give 90 = .ok (.iload_n 1, 1) := by decide +kernel
theorem dX12_give_91 : decode cX12_give 91 = .ok (.iconst 0, 1) := by decide +kernel
theorem dX12_give_92 : decode cX12_give 92 = .ok (.invokevirtual 615, 3) := by decide +kernel
theorem dX12_give_95 : decode cX12_give 95 = .ok (.iload 4, 2) := by decide +kernel
theorem dX12_give_97 : decode cX12_give 97 = .ok (.ifCond .eq 16, 3) := by decide +kernel
theorem dX12_give_100 : decode cX12_give 100 = .ok (.aload_n 0, 1) := by decide +kernel
theorem dX12_give_101 : decode cX12_give 101 = .ok (.aload_n 0, 1) := by decide +kernel
theorem dX12_give_102 : decode cX12_give 102 = .ok (.iload_n 2, 1) := by decide +kernel
theorem dX12_give_103 : decode cX12_give 103 = .ok (.iconst 0, 1) := by decide +kernel
theorem dX12_give_104 : decode cX12_give 104 = .ok (.invokevirtual 644, 3) := by decide +kernel
theorem dX12_give_107 : decode cX12_give 107 = .ok (.invokevirtual 704, 3) := by decide +kernel
theorem dX12_give_110 : decode cX12_give 110 = .ok (.goto 9, 3) := by decide +kernel
theorem dX12_give_113 : decode cX12_give 113 = .ok (.aload_n 0, 1) := by decide +kernel
theorem dX12_give_114 : decode cX12_give 114 = .ok (.bipush 11, 2) := by decide +kernel
theorem dX12_give_116 : decode cX12_give 116 = .ok (.invokevirtual 666, 3) := by decide +kernel
theorem dX12_give_119 : decode cX12_give 119 = .ok (.return_, 1) := by decide +kernel

theorem la_give_0 {x0 : Int} (h0 : x0 = 1) : ¬ x0 = 2 := by omega
theorem la_give_1 {x0 : Int} (h0 : x0 = 1) : ¬ x0 = 6 := by omega
theorem la_give_2 {x0 : Int} (h0 : x0 = 1) : ¬ x0 = 3 := by omega
theorem la_give_3 {x0 x1 : Int} (h0 : x0 ≤ 12000) (h1 : 0 ≤ x1) (h2 : x1 < x0) : 0 ≤ x1 ∧ x1 < 12000 := by omega
theorem la_give_4 {x0 : Int} (h0 : x0 = 7) : ¬ x0 = 3 := by omega
theorem la_give_5 {x0 : Int} (h0 : x0 = 7) : ¬ (x0 = 4 ∨ x0 = 5 ∨ x0 = 8 ∨ x0 = 9) := by omega
theorem la_give_6 {x0 : Int} (h0 : x0 = 7) : 2 ≤ x0 := by omega
theorem la_give_7 {x0 : Int} (h0 : 2 ≤ x0) (h1 : ¬ x0 = 2) : 2 < x0 := by omega
theorem la_give_8 : ¬ (0 : Int) = 1 := by omega
theorem la_give_9 {x0 : Int} (h0 : x0 = 0) : ¬ x0 = 1 := by omega
theorem la_give_10 : (0 : Int) ≤ 11 := by omega
theorem la_give_11 : (11 : Int) ≤ 30 := by omega
theorem la_give_12 {x0 x1 x2 x3 x4 x5 x6 x7 x8 x9 x10 x11 x12 x13 : Int} (h0 : 0 ≤ x0) (h1 : 0 ≤ x1 → x2 ≤ x0) (h2 : 0 ≤ x3 → x4 ≤ x0) (h3 : x5 = 2) (h4 : x6 = x0 + (x5 + 1)) (h5 : x7 = x1) (h6 : x8 = x3) (h7 : x9 = x2) (h8 : x10 = x4) (h9 : x11 = (-2)) (h10 : x12 = x7) (h11 : x13 = x8) : (0 ≤ x6 - 3 ∧ (0 ≤ x7 → x9 ≤ x6 - 3) ∧ (0 ≤ x8 → x10 ≤ x6 - 3)) ∧ x6 + x11 = x6 - 2 ∧ x12 = x7 ∧ x13 = x8 := by omega
theorem la_give_13 {x0 x1 x2 : Int} : (21 : Int) ≤ 11 ∧ (11 : Int) ≤ 24 ∨ (11 : Int) = 27 ∨ (11 : Int) = 30 → (0 : Int) ≤ 0 ∧ 0 < x0 ∧ x1 = x2 := by omega
theorem la_give_14 : ¬ (11 : Int) = 1 := by omega
theorem la_give_15 {x0 x1 : Int} (h0 : (11 : Int) = 2) : x0 < x1 + 1 := by omega
theorem la_give_16 {x0 : Int} (h0 : (11 : Int) = 2) : 0 ≤ x0 := by omega
theorem la_give_17 {x0 : Int} (h0 : (11 : Int) = 2) : x0 = 4 ∨ x0 = 5 ∨ x0 = 8 ∨ x0 = 9 := by omega
theorem la_give_18 {x0 x1 : Int} (h0 : (11 : Int) = 2) : x0 ≤ x1 := by omega
theorem la_give_19 {x0 x1 : Int} (h0 : (11 : Int) = 2) : x0 ≤ x1 + 1 := by omega
theorem la_give_20 {x0 x1 : Int} (h0 : (11 : Int) = 2) : x0 = x1 := by omega
theorem la_give_21 {x0 : Int} (h0 : (11 : Int) = 2) : x0 = 3 := by omega
theorem la_give_22 (h0 : (11 : Int) = 2) : False := by omega
theorem la_give_23 {x0 x1 x2 x3 x4 : Int} (h0 : 0 ≤ x0) (h1 : x0 ≤ x1) (h2 : x2 ≤ x3) (h3 : x3 ≤ x2 + 3 * (600 - x4) + x1) : 1 + 1 ≤ x1 + (600 - x4) + 9 := by omega
theorem la_give_24 {x0 : Int} (h0 : 1 ≤ x0) : 0 ≤ x0 := by omega
theorem la_give_25 {x0 x1 x2 : Int} (h0 : x0 ≤ x1) (h1 : x1 ≤ x2) : x0 ≤ x2 := by omega
theorem la_give_26 {x0 x1 : Int} (h0 : x0 = 0) (h1 : x1 ≤ 1) : x0 = 1 → x1 = 1 := by omega
theorem la_give_27 {x0 x1 : Int} (h0 : x0 ≤ x1) : x0 + 1 ≤ x1 + 1 := by omega
theorem la_give_28 {x0 : Int} (h0 : x0 ≤ 1) (h1 : ¬ x0 = 1) : x0 < 1 := by omega
theorem la_give_29 : ¬ (11 : Int) = 29 := by omega
theorem la_give_30 : ¬ (11 : Int) = 17 := by omega
theorem la_give_31 {x0 x1 x2 : Int} : (11 : Int) = 17 → 0 ≤ x0 → x1 < x2 := by omega
theorem la_give_32 {x0 x1 x2 : Int} (h0 : x0 = x1 + 1) (h1 : x2 ≤ x1) : x2 ≤ x0 := by omega
theorem la_give_33 {x0 x1 x2 x3 : Int} (h0 : x0 = 2) (h1 : x1 = x2 + 1) (h2 : x3 + (x0 + 1) ≤ x2) : x3 + 1 ≤ x1 := by omega
theorem la_give_34 {x0 x1 x2 : Int} (h0 : x0 = 2) (h1 : x1 + (x0 + 1) ≤ x2) : x1 < x2 := by omega
theorem la_give_35 {x0 x1 x2 x3 x4 : Int} (h0 : x0 = 2) (h1 : x1 = x2 + x3) (h2 : x3 = (-2)) (h3 : x2 = x4 + (x0 + 1)) : x1 = x4 + 1 := by omega
theorem la_give_36 {x0 x1 x2 x3 : Int} (h0 : x0 = x1) (h1 : x1 = x2) (h2 : x2 = x3) : x0 = x3 := by omega
theorem la_give_37 {x0 x1 x2 : Int} (h0 : x0 = x1) (h1 : x2 = x0) : x2 = x1 := by omega
theorem la_give_38 {x0 x1 x2 : Int} (h0 : x0 = 2) (h1 : x1 + (x0 + 1) ≤ x2) : x1 < x2 + 1 := by omega
theorem la_give_39 {x0 : Int} : x0 < x0 + 1 := by omega
theorem la_give_40 {x0 x1 x2 x3 x4 x5 x6 : Int} (h0 : 0 ≤ x0) (h1 : x0 + 1 ≤ x1) (h2 : x2 = 2) (h3 : x3 = x4 + 1) (h4 : x5 + (x2 + 1) ≤ x4) : 2 * x6 ≤ 2 * x6 + (x3 - x5) + 8 * x1 + 10 := by omega
theorem la_give_41 {x0 x1 x2 : Int} (h0 : x0 = 2) (h1 : x1 + (x0 + 1) ≤ x2) : x1 + 1 < x2 + 1 := by omega
theorem la_give_42 {x0 : Int} : x0 ≤ x0 + 1 := by omega
theorem la_give_43 {x0 x1 x2 : Int} (h0 : x0 = 2) (h1 : x1 + (x0 + 1) ≤ x2) : x1 + 1 ≤ x2 := by omega
theorem la_give_44 {x0 x1 x2 x3 x4 : Int} (h0 : x0 = x1 + 1) : 2 * x2 + (x1 - x3) + 8 * x4 + 11 ≤ 2 * x2 + (x0 - x3) + 8 * x4 + 10 := by omega
theorem la_give_45 {x0 x1 x2 x3 x4 x5 x6 x7 : Int} (h0 : 0 ≤ x0) (h1 : x0 + 1 ≤ x1) (h2 : x2 = 2) (h3 : x3 = x4 + 1) (h4 : x5 + (x2 + 1) ≤ x4) (h5 : x6 = x7 + (x2 + 1)) : 2 * x6 ≤ 2 * x7 + (x3 - x5) + 8 * x1 + 10 := by omega
theorem la_give_46 {x0 x1 x2 x3 x4 : Int} (h0 : x0 = x1 + 1) (h1 : x2 ≤ x3 + 3 * (x1 - x4)) : x2 ≤ x3 + 3 * (x0 - x4) := by omega
theorem la_give_47 : (0 : Int) ≤ 0 := by omega
theorem la_give_48 (h0 : (0 : Int) ≤ 0) (h1 : ¬ (0 : Int) = 0) : (0 : Int) < 0 := by omega
theorem la_give_49 {x0 : Int} (h0 : (0 : Int) < 0) : x0 = 2 := by omega
theorem la_give_50 {x0 : Int} (h0 : (0 : Int) < 0) : 0 ≤ x0 ∧ x0 < 12000 ∧ (0 : Int) ≤ 0 ∧ (0 : Int) ≤ 4 := by omega
theorem la_give_51 {x0 x1 : Int} (h0 : (0 : Int) < 0) : 0 + 1 ≤ x0 + (600 - x1) + 9 := by omega
theorem la_give_52 : (2 : Int) = 1 ∧ ((4 : Int) = 3 ∨ (4 : Int) = 5) ∨ (2 : Int) = 2 ∧ (4 : Int) = 4 := by omega
theorem la_give_53 {x0 x1 : Int} (h0 : (0 : Int) < 0) : x0 ≤ x1 := by omega
theorem la_give_54 {x0 x1 : Int} (h0 : (0 : Int) < 0) : x0 ≤ x1 + 1 := by omega
theorem la_give_55 {x0 : Int} (h0 : (0 : Int) < 0) : 0 ≤ x0 := by omega
theorem la_give_56 {x0 : Int} (h0 : (0 : Int) < 0) : x0 = 3 := by omega
theorem la_give_57 {x0 : Int} (h0 : (0 : Int) < 0) : x0 = 4 ∨ x0 = 5 ∨ x0 = 8 ∨ x0 = 9 := by omega
theorem la_give_58 {x0 x1 : Int} (h0 : (0 : Int) < 0) : x0 < x1 := by omega
theorem la_give_59 {x0 x1 x2 x3 x4 : Int} : (2 : Int) = 1 → (0 ≤ x0 → x1 ≤ x2) ∧ (0 ≤ x3 → x4 ≤ x2) := by omega
theorem la_give_60 {x0 : Int} (h0 : (0 : Int) < 0) : 1 ≤ x0 := by omega
theorem la_give_61 {x0 x1 x2 : Int} (h0 : (0 : Int) < 0) : 0 ≤ x0 → x1 ≤ x2 - 1 := by omega
theorem la_give_62 {x0 x1 : Int} (h0 : (0 : Int) < 0) : x0 ≤ x1 - 1 := by omega
theorem la_give_63 {x0 x1 : Int} (h0 : (0 : Int) < 0) : 2 + 1 ≤ x0 + (600 - x1) + 9 := by omega
theorem la_give_64 (h0 : (0 : Int) < 0) : (2 : Int) = 1 := by omega
theorem la_give_65 {x0 : Int} (h0 : (0 : Int) < 0) : x0 = 1 := by omega
theorem la_give_66 {x0 : Int} (h0 : (0 : Int) < 0) : x0 = 0 := by omega
theorem la_give_67 {x0 : Int} (h0 : (0 : Int) < 0) : ¬ x0 = 1 := by omega
theorem la_give_68 {x0 : Int} (h0 : (0 : Int) < 0) : ¬ x0 = 2 := by omega
theorem la_give_69 {x0 x1 : Int} (h0 : (0 : Int) < 0) : x0 = 1 → x1 = 1 := by omega
theorem la_give_70 {x0 x1 : Int} (h0 : (0 : Int) < 0) : x0 + 1 ≤ x1 + 1 := by omega
theorem la_give_71 {x0 x1 : Int} (h0 : (0 : Int) < 0) : x0 + 1 ≤ x1 := by omega
theorem la_give_72 {x0 x1 : Int} (h0 : (0 : Int) < 0) : x0 = x1 + 1 := by omega
theorem la_give_73 {x0 x1 : Int} (h0 : (0 : Int) < 0) : x0 = x1 := by omega
theorem la_give_74 {x0 x1 x2 x3 : Int} (h0 : (0 : Int) < 0) : x0 ≤ x1 + 3 * (x2 - x3) := by omega
theorem la_give_75 {x0 x1 : Int} (h0 : x0 = x1) : x0 ≤ x1 := by omega
theorem la_give_76 {x0 x1 x2 x3 x4 x5 x6 x7 : Int} (h0 : 0 ≤ x0 → x1 ≤ x2) (h1 : 0 ≤ x3 + x4) (h2 : x5 = x2 + (x3 + x4)) (h3 : x6 = x0) (h4 : x7 = x1) : 0 ≤ x6 → x7 ≤ x5 := by omega
theorem la_give_77 {x0 x1 x2 x3 x4 x5 : Int} (h0 : x0 ≤ x1) (h1 : x1 + (x2 + x3) ≤ x4) (h2 : x5 = x0 + (x2 + x3)) : x5 ≤ x4 := by omega
theorem la_give_78 {x0 x1 x2 x3 x4 x5 : Int} (h0 : x0 + 3 * (600 - x1) + x2 ≤ 8000) (h1 : x3 ≤ x2) (h2 : x4 ≤ x0 + 3 * (x5 - x1)) : x4 + 3 * (600 - x5) + x3 ≤ 8000 := by omega
theorem la_give_79 {x0 x1 x2 : Int} (h0 : 0 ≤ x0) (h1 : x1 ≤ 600) (h2 : x2 = x0 + (600 - x1) + 8) : 0 ≤ x2 := by omega
theorem la_give_80 {x0 : Int} (h0 : 0 ≤ x0) (h1 : ¬ x0 = 0) : 0 < x0 := by omega
theorem la_give_81 {x0 : Int} (h0 : x0 = 4) : 0 ≤ x0 := by omega
theorem la_give_82 {x0 x1 x2 x3 x4 x5 : Int} (h0 : x0 + (600 - x1) + 9 = x2) (h1 : x3 ≤ x0) (h2 : x1 ≤ x4) (h3 : x5 = x3 + (600 - x4) + 8) : x5 < x2 := by omega
theorem la_give_83 {x0 x1 x2 x3 x4 x5 x6 : Int} (h0 : x0 + (600 - x1) + 9 = x2) (h1 : 0 ≤ x3) (h2 : x3 ≤ x0) (h3 : x4 ≤ x5) (h4 : x5 ≤ x4 + 3 * (600 - x1) + x0) (h5 : x6 = 4) : x6 < x2 := by omega
theorem la_give_84 {x0 x1 x2 x3 x4 : Int} (h0 : x0 ≤ x1) (h1 : x2 ≤ x3) (h2 : x4 = x0 + (600 - x3) + 8) : x4 + 1 ≤ x1 + (600 - x2) + 9 := by omega
theorem la_give_85 {x0 x1 x2 x3 x4 x5 : Int} (h0 : 0 ≤ x0) (h1 : x0 ≤ x1) (h2 : x2 ≤ x3) (h3 : x3 ≤ x2 + 3 * (600 - x4) + x1) (h4 : x5 = 4) : x5 + 1 ≤ x1 + (600 - x4) + 9 := by omega
theorem la_give_86 {x0 x1 : Int} (h0 : x0 = x1) : x1 ≤ x0 := by omega
theorem la_give_87 {x0 x1 x2 : Int} (h0 : x0 = 0) : x0 = 1 → x1 = x2 := by omega
theorem la_give_88 {x0 : Int} (h0 : x0 = 1) : ¬ x0 = 0 := by omega
theorem la_give_89 {x0 x1 x2 x3 x4 : Int} (h0 : x0 ≤ x1 + 3 * (600 - x2) + x3) (h1 : x4 = x0) : x4 ≤ x1 + 3 * (600 - x2) + x3 := by omega
theorem la_give_90 {x0 : Int} (h0 : 0 ≤ x0) (h1 : x0 < 1) : x0 = 0 := by omega
theorem la_give_91 {x0 x1 x2 x3 x4 x5 x6 : Int} (h0 : x0 ≤ x1) (h1 : x2 ≤ x3 + 3 * (x4 - x5)) (h2 : x6 ≤ x2 + 3 * (600 - x4) + x0) : x6 ≤ x3 + 3 * (600 - x5) + x1 := by omega
theorem la_give_92 {x0 x1 x2 x3 x4 : Int} (h0 : x0 = 0) (h1 : x1 + 1 ≤ x2) (h2 : x3 + (x4 + x0) ≤ x1) : x3 + (x4 + 1) ≤ x2 := by omega
theorem la_give_93 {x0 x1 x2 x3 : Int} (h0 : x0 = 2) (h1 : x1 = 0) (h2 : x2 + (x0 + x1) ≤ x3) : x2 < x3 := by omega
theorem la_give_94 {x0 x1 x2 x3 x4 : Int} (h0 : x0 = 0) (h1 : x1 = x2 + 1) (h2 : x2 = x3 + (x4 + x0)) : x1 = x3 + (x4 + 1) := by omega
theorem la_give_95 {x0 x1 x2 : Int} (h0 : x0 = x1) (h1 : x1 = x2) : x0 = x2 := by omega
theorem la_give_96 {x0 x1 x2 x3 : Int} (h0 : x0 = 2) (h1 : x1 = 0) (h2 : x2 + (x0 + x1) ≤ x3) : x2 < x3 + 1 := by omega
theorem la_give_97 {x0 x1 x2 x3 x4 x5 x6 x7 : Int} (h0 : 0 ≤ x0) (h1 : x0 + 1 ≤ x1) (h2 : x2 = 2) (h3 : x3 = 0) (h4 : x4 + 1 ≤ x5) (h5 : x6 + (x2 + x3) ≤ x4) : 2 * x7 ≤ 2 * x7 + (x5 - x6) + 8 * x1 + 11 := by omega
theorem la_give_98 {x0 x1 x2 x3 : Int} (h0 : x0 = 2) (h1 : x1 = 0) (h2 : x2 + (x0 + x1) ≤ x3) : x2 + 1 < x3 + 1 := by omega
theorem la_give_99 {x0 x1 x2 x3 : Int} (h0 : x0 = 2) (h1 : x1 = 0) (h2 : x2 + (x0 + x1) ≤ x3) : x2 + 1 ≤ x3 := by omega
theorem la_give_100 {x0 x1 x2 x3 x4 : Int} (h0 : x0 + 1 ≤ x1) : 2 * x2 + (x0 - x3) + 8 * x4 + 12 ≤ 2 * x2 + (x1 - x3) + 8 * x4 + 11 := by omega
theorem la_give_101 {x0 x1 x2 x3 x4 x5 x6 x7 x8 : Int} (h0 : 0 ≤ x0) (h1 : x0 + 1 ≤ x1) (h2 : x2 = 2) (h3 : x3 = 0) (h4 : x4 + 1 ≤ x5) (h5 : x6 + (x2 + x3) ≤ x4) (h6 : x7 = x8 + (x2 + x3)) : 2 * x7 ≤ 2 * x8 + (x5 - x6) + 8 * x1 + 11 := by omega
theorem la_give_102 {x0 x1 x2 x3 x4 x5 x6 x7 x8 : Int} (h0 : x0 + 1 ≤ x1) (h1 : x2 = 2) (h2 : x3 = 0) (h3 : x4 + (x2 + x3) ≤ x5) (h4 : x6 = x7 + (x2 + x3)) : 2 * x6 + (x8 - x5) + 8 * x0 + 10 ≤ 2 * x7 + (x8 - x4) + 8 * x1 + 11 := by omega
theorem la_give_103 {x0 x1 x2 x3 x4 x5 : Int} (h0 : x0 ≤ x1 + 3 * (x2 - x3)) (h1 : x1 ≤ x4 + 3 * (x3 - x5)) : x0 ≤ x4 + 3 * (x2 - x5) := by omega
theorem la_give_104 {x0 : Int} (h0 : (-1) ≤ x0) (h1 : ¬ x0 = (-1)) : (-1) < x0 := by omega
theorem la_give_105 : (0 : Int) ≤ 14 := by omega
theorem la_give_106 : (14 : Int) ≤ 30 := by omega
theorem la_give_107 {x0 x1 x2 x3 x4 x5 x6 x7 x8 x9 x10 x11 x12 x13 x14 x15 x16 x17 x18 x19 x20 : Int} (h0 : x0 ≤ 20) (h1 : 0 ≤ x1) (h2 : 0 ≤ x2 → x3 ≤ x1) (h3 : 0 ≤ x4 → x5 ≤ x1) (h4 : x6 = 2) (h5 : x7 = 1) (h6 : (-1) < x0) (h7 : x8 = x9 + 1) (h8 : x10 = x11) (h9 : x12 = x13) (h10 : x14 = x15) (h11 : x16 = x17) (h12 : x9 = x1 + (x6 + x7)) (h13 : x11 = x2) (h14 : x13 = x4) (h15 : x15 = x3) (h16 : x17 = x5) (h17 : x18 = (-1)) (h18 : x19 = x10) (h19 : x20 = x12) : (0 ≤ x0 ∧ x0 ≤ 20) ∧ (0 ≤ x8 - 2 ∧ (0 ≤ x10 → x14 ≤ x8 - 2) ∧ (0 ≤ x12 → x16 ≤ x8 - 2)) ∧ x8 + x18 = x8 - 1 ∧ x19 = x10 ∧ x20 = x12 := by omega
theorem la_give_108 {x0 x1 x2 x3 : Int} : (21 : Int) ≤ 14 ∧ (14 : Int) ≤ 24 ∨ (14 : Int) = 27 ∨ (14 : Int) = 30 → 0 ≤ x0 ∧ x0 < x1 ∧ x2 = x3 := by omega
theorem la_give_109 : ¬ (14 : Int) = 1 := by omega
theorem la_give_110 {x0 x1 : Int} (h0 : (14 : Int) = 2) : x0 < x1 + 1 := by omega
theorem la_give_111 {x0 x1 : Int} (h0 : (14 : Int) = 2) : x0 ≤ x1 := by omega
theorem la_give_112 {x0 x1 : Int} (h0 : (14 : Int) = 2) : x0 ≤ x1 + 1 := by omega
theorem la_give_113 {x0 : Int} (h0 : (14 : Int) = 2) : 0 ≤ x0 := by omega
theorem la_give_114 {x0 : Int} (h0 : (14 : Int) = 2) : x0 = 3 := by omega
theorem la_give_115 {x0 : Int} (h0 : (14 : Int) = 2) : x0 = 4 ∨ x0 = 5 ∨ x0 = 8 ∨ x0 = 9 := by omega
theorem la_give_116 {x0 x1 : Int} (h0 : (14 : Int) = 2) : x0 = x1 := by omega
theorem la_give_117 (h0 : (14 : Int) = 2) : False := by omega
theorem la_give_118 {x0 x1 x2 x3 x4 : Int} (h0 : 0 ≤ x0) (h1 : x0 ≤ x1) (h2 : x2 ≤ x3) (h3 : x3 ≤ x2 + 3 * (600 - x4) + x1) : 0 + 1 ≤ x1 + (600 - x4) + 9 := by omega
theorem la_give_119 {x0 x1 x2 x3 : Int} (h0 : x0 ≤ x1) (h1 : x1 ≤ x2) (h2 : x2 ≤ x3) : x0 ≤ x3 := by omega
theorem la_give_120 {x0 x1 x2 : Int} (h0 : x0 ≤ x1) (h1 : x1 ≤ x2) : x0 + 1 ≤ x2 + 1 := by omega
theorem la_give_121 : ¬ (14 : Int) = 29 := by omega
theorem la_give_122 : ¬ (14 : Int) = 17 := by omega
theorem la_give_123 {x0 x1 x2 : Int} : (14 : Int) = 17 → 0 ≤ x0 → x1 < x2 := by omega
theorem la_give_124 {x0 x1 x2 x3 x4 x5 : Int} (h0 : x0 = 1) (h1 : x1 = x2 + 1) (h2 : x3 + 1 ≤ x2) (h3 : x4 + (x5 + x0) ≤ x3) : x4 + (x5 + 1) ≤ x1 := by omega
theorem la_give_125 {x0 x1 x2 x3 x4 : Int} (h0 : x0 = 2) (h1 : x1 = 1) (h2 : x2 + 1 ≤ x3) (h3 : x4 + (x0 + x1) ≤ x2) : x4 < x3 := by omega
theorem la_give_126 {x0 x1 x2 x3 : Int} (h0 : x0 = 2) (h1 : x1 = 1) (h2 : x2 + (x0 + x1) ≤ x3) : x2 < x3 := by omega
theorem la_give_127 {x0 x1 : Int} (h0 : x0 + 1 ≤ x1) : x0 < x1 := by omega
theorem la_give_128 {x0 x1 x2 x3 x4 x5 x6 : Int} (h0 : x0 = 1) (h1 : x1 = x2 + x3) (h2 : x3 = (-1)) (h3 : x2 = x4 + 1) (h4 : x4 = x5 + (x6 + x0)) : x1 = x5 + (x6 + 1) := by omega
theorem la_give_129 {x0 x1 x2 x3 x4 : Int} (h0 : x0 = x1) (h1 : x1 = x2) (h2 : x2 = x3) (h3 : x3 = x4) : x0 = x4 := by omega
theorem la_give_130 {x0 x1 x2 x3 : Int} (h0 : x0 = x1) (h1 : x2 = x0) (h2 : x1 = x3) : x2 = x3 := by omega
theorem la_give_131 {x0 x1 x2 x3 x4 : Int} (h0 : x0 = 2) (h1 : x1 = 1) (h2 : x2 + 1 ≤ x3) (h3 : x4 + (x0 + x1) ≤ x2) : x4 < x3 + 1 := by omega
theorem la_give_132 {x0 x1 x2 x3 : Int} (h0 : x0 = 2) (h1 : x1 = 1) (h2 : x2 + (x0 + x1) ≤ x3) : x2 < x3 + 1 := by omega
theorem la_give_133 {x0 x1 x2 x3 x4 x5 x6 x7 x8 : Int} (h0 : 0 ≤ x0) (h1 : x0 + 1 ≤ x1) (h2 : x2 = 2) (h3 : x3 = 1) (h4 : x4 = x5 + 1) (h5 : x6 + 1 ≤ x5) (h6 : x7 + (x2 + x3) ≤ x6) : 2 * x8 ≤ 2 * x8 + (x4 - x7) + 8 * x1 + 11 := by omega
theorem la_give_134 {x0 x1 x2 x3 x4 : Int} (h0 : x0 = 2) (h1 : x1 = 1) (h2 : x2 + 1 ≤ x3) (h3 : x4 + (x0 + x1) ≤ x2) : x4 + 1 < x3 + 1 := by omega
theorem la_give_135 {x0 x1 x2 x3 : Int} (h0 : x0 = 2) (h1 : x1 = 1) (h2 : x2 + (x0 + x1) ≤ x3) : x2 + 1 < x3 + 1 := by omega
theorem la_give_136 {x0 x1 x2 x3 : Int} (h0 : x0 = 2) (h1 : x1 = 1) (h2 : x2 + (x0 + x1) ≤ x3) : x2 + 1 ≤ x3 := by omega
theorem la_give_137 {x0 x1 x2 x3 x4 x5 : Int} (h0 : x0 = x1 + 1) (h1 : x2 + 1 ≤ x1) : 2 * x3 + (x2 - x4) + 8 * x5 + 12 ≤ 2 * x3 + (x0 - x4) + 8 * x5 + 11 := by omega
theorem la_give_138 {x0 x1 : Int} (h0 : x0 + 1 ≤ x1) : x0 ≤ x1 + 1 := by omega
theorem la_give_139 {x0 x1 : Int} (h0 : x0 + 1 ≤ x1) : x0 < x1 + 1 := by omega
theorem la_give_140 {x0 x1 x2 x3 x4 x5 x6 x7 x8 x9 : Int} (h0 : 0 ≤ x0) (h1 : x0 + 1 ≤ x1) (h2 : x2 + x3 ≤ 3) (h3 : x4 = x5 + 1) (h4 : x6 + 1 ≤ x5) (h5 : x7 + (x2 + x3) ≤ x6) (h6 : x8 = x9 + (x2 + x3)) : 2 * x8 ≤ 2 * x9 + (x4 - x7) + 8 * x1 + 11 := by omega
theorem la_give_141 {x0 x1 : Int} (h0 : x0 + 1 ≤ x1) : x0 + 1 < x1 + 1 := by omega
theorem la_give_142 {x0 x1 x2 x3 x4 x5 x6 x7 x8 x9 : Int} (h0 : x0 + 1 ≤ x1) (h1 : x2 + x3 ≤ 3) (h2 : x4 = x5 + 1) (h3 : x6 + (x2 + x3) ≤ x7) (h4 : x8 = x9 + (x2 + x3)) : 2 * x8 + (x5 - x7) + 8 * x0 + 10 ≤ 2 * x9 + (x4 - x6) + 8 * x1 + 11 := by omega
theorem la_give_143 {x0 x1 x2 x3 x4 x5 x6 x7 x8 x9 x10 : Int} (h0 : 0 ≤ x0) (h1 : x0 + 1 ≤ x1) (h2 : x2 + x3 ≤ 3) (h3 : x4 = x5 + 1) (h4 : x6 + 1 ≤ x5) (h5 : x7 = x8 + 1) (h6 : x9 + (x2 + x3) ≤ x6) (h7 : x8 = x10 + (x2 + x3)) : 2 * x7 ≤ 2 * x10 + (x4 - x9) + 8 * x1 + 11 := by omega
theorem la_give_144 {x0 x1 x2 x3 x4 x5 x6 : Int} (h0 : x0 = x1 + 1) (h1 : x2 ≤ x3 + 3 * (x1 - x4)) (h2 : x3 ≤ x5 + 3 * (x4 - x6)) : x2 ≤ x5 + 3 * (x0 - x6) := by omega
theorem la_give_145 {x0 x1 x2 : Int} (h0 : x0 < x1) (h1 : x2 = x0) : x2 < x1 + 1 := by omega
theorem la_give_146 {x0 x1 x2 x3 : Int} (h0 : x0 + x1 ≤ x2) (h1 : x3 = 0) : x0 + (x1 + x3) ≤ x2 := by omega
theorem la_give_147 {x0 x1 x2 x3 : Int} (h0 : x0 = x1 + x2) (h1 : x3 = 0) : x0 = x1 + (x2 + x3) := by omega
theorem la_give_148 : (0 : Int) ≤ 19 := by omega
theorem la_give_149 : (19 : Int) ≤ 30 := by omega
theorem la_give_150 {x0 x1 x2 x3 x4 x5 x6 x7 x8 x9 x10 x11 x12 x13 x14 x15 : Int} (h0 : 0 ≤ x0) (h1 : 0 ≤ x1 → x2 ≤ x0) (h2 : 0 ≤ x3 → x4 ≤ x0) (h3 : x0 ≤ x5) (h4 : x6 = 2) (h5 : x5 + x6 ≤ x7) (h6 : x8 = x0 + x6) (h7 : x9 = x1) (h8 : x10 = x3) (h9 : x11 = x2) (h10 : x12 = x4) (h11 : x13 = 2) (h12 : x14 = x9) (h13 : x15 = x10) : x8 ≤ x7 ∧ (0 ≤ x8 - 2 ∧ (0 ≤ x9 → x11 ≤ x8 - 2) ∧ (0 ≤ x10 → x12 ≤ x8 - 2)) ∧ x8 + x13 = x8 + 2 ∧ x14 = x9 ∧ x15 = x10 := by omega
theorem la_give_151 {x0 x1 x2 : Int} : (21 : Int) ≤ 19 ∧ (19 : Int) ≤ 24 ∨ (19 : Int) = 27 ∨ (19 : Int) = 30 → (0 : Int) ≤ 0 ∧ 0 < x0 ∧ x1 = x2 := by omega
theorem la_give_152 : ¬ (19 : Int) = 1 := by omega
theorem la_give_153 {x0 x1 : Int} (h0 : (19 : Int) = 2) : x0 < x1 + 1 := by omega
theorem la_give_154 {x0 : Int} (h0 : (19 : Int) = 2) : 0 ≤ x0 := by omega
theorem la_give_155 {x0 : Int} (h0 : (19 : Int) = 2) : x0 = 4 ∨ x0 = 5 ∨ x0 = 8 ∨ x0 = 9 := by omega
theorem la_give_156 {x0 x1 : Int} (h0 : (19 : Int) = 2) : x0 ≤ x1 := by omega
theorem la_give_157 {x0 x1 : Int} (h0 : (19 : Int) = 2) : x0 ≤ x1 + 1 := by omega
theorem la_give_158 {x0 x1 : Int} (h0 : (19 : Int) = 2) : x0 = x1 := by omega
theorem la_give_159 {x0 : Int} (h0 : (19 : Int) = 2) : x0 = 3 := by omega
theorem la_give_160 (h0 : (19 : Int) = 2) : False := by omega
theorem la_give_161 : ¬ (19 : Int) = 29 := by omega
theorem la_give_162 : ¬ (19 : Int) = 17 := by omega
theorem la_give_163 {x0 x1 x2 : Int} : (19 : Int) = 17 → 0 ≤ x0 → x1 < x2 := by omega
theorem la_give_164 : (0 : Int) ≤ 10 := by omega
theorem la_give_165 : (10 : Int) ≤ 30 := by omega
theorem la_give_166 {x0 x1 x2 x3 x4 x5 x6 x7 x8 x9 x10 x11 x12 x13 x14 x15 x16 x17 x18 x19 x20 x21 x22 : Int} (h0 : 0 ≤ x0) (h1 : 0 ≤ x1 → x2 ≤ x0) (h2 : 0 ≤ x3 → x4 ≤ x0) (h3 : x5 = 2) (h4 : x6 = x7 + x8) (h5 : x8 = 2) (h6 : x9 = x10) (h7 : x10 = x11) (h8 : x12 = x13) (h9 : x13 = x14) (h10 : x15 = x16) (h11 : x16 = x17) (h12 : x7 = x0 + x5) (h13 : x11 = x1) (h14 : x14 = x3) (h15 : x17 = x2) (h16 : x18 = x4) (h17 : x19 = x18) (h18 : x20 = (-1)) (h19 : x21 = x9) (h20 : x22 = x12) : (0 ≤ x6 - 2 ∧ (0 ≤ x9 → x15 ≤ x6 - 2) ∧ (0 ≤ x12 → x19 ≤ x6 - 2)) ∧ x6 + x20 = x6 - 1 ∧ x21 = x9 ∧ x22 = x12 := by omega
theorem la_give_167 {x0 x1 x2 : Int} : (21 : Int) ≤ 10 ∧ (10 : Int) ≤ 24 ∨ (10 : Int) = 27 ∨ (10 : Int) = 30 → (0 : Int) ≤ 0 ∧ 0 < x0 ∧ x1 = x2 := by omega
theorem la_give_168 : ¬ (10 : Int) = 1 := by omega
theorem la_give_169 {x0 x1 : Int} (h0 : (10 : Int) = 2) : x0 < x1 + 1 := by omega
theorem la_give_170 {x0 : Int} (h0 : (10 : Int) = 2) : x0 < x0 := by omega
theorem la_give_171 {x0 x1 : Int} (h0 : (10 : Int) = 2) : x0 < x1 := by omega
theorem la_give_172 {x0 : Int} (h0 : (10 : Int) = 2) : 0 ≤ x0 := by omega
theorem la_give_173 {x0 : Int} (h0 : (10 : Int) = 2) : x0 = 4 ∨ x0 = 5 ∨ x0 = 8 ∨ x0 = 9 := by omega
theorem la_give_174 {x0 x1 : Int} (h0 : (10 : Int) = 2) : x0 ≤ x1 := by omega
theorem la_give_175 {x0 x1 : Int} (h0 : (10 : Int) = 2) : x0 ≤ x1 + 1 := by omega
theorem la_give_176 {x0 x1 : Int} (h0 : (10 : Int) = 2) : x0 = x1 := by omega
theorem la_give_177 {x0 : Int} (h0 : (10 : Int) = 2) : x0 = 3 := by omega
theorem la_give_178 (h0 : (10 : Int) = 2) : False := by omega
theorem la_give_179 : ¬ (10 : Int) = 29 := by omega
theorem la_give_180 : ¬ (10 : Int) = 17 := by omega
theorem la_give_181 {x0 x1 x2 : Int} : (10 : Int) = 17 → 0 ≤ x0 → x1 < x2 := by omega
theorem la_give_182 {x0 x1 x2 x3 : Int} (h0 : x0 = x1 + 1) (h1 : x1 = x2 + 1) (h2 : x3 ≤ x2) : x3 ≤ x0 := by omega
theorem la_give_183 {x0 x1 x2 x3 x4 x5 x6 : Int} (h0 : x0 < x1) (h1 : x2 = 2) (h2 : x3 = x4) (h3 : x4 = x5) (h4 : x1 + x2 ≤ x6) (h5 : x5 = x0) : x3 < x6 + 1 := by omega
theorem la_give_184 {x0 x1 x2 x3 x4 x5 x6 x7 x8 x9 : Int} (h0 : x0 < x1) (h1 : x2 = 2) (h2 : x3 = x4) (h3 : x4 = x5) (h4 : x6 = x7 + 1) (h5 : x5 = x8) (h6 : x8 = x9) (h7 : x1 + x2 ≤ x7) (h8 : x9 = x0) : x3 < x6 + 1 := by omega
theorem la_give_185 {x0 x1 x2 x3 x4 : Int} (h0 : x0 < x1) (h1 : x2 = x3) (h2 : x3 = x4) (h3 : x4 = x0) : x2 < x1 + 1 := by omega
theorem la_give_186 {x0 x1 x2 x3 x4 x5 x6 x7 x8 : Int} (h0 : x0 < x1) (h1 : x2 = 2) (h2 : x3 = x4) (h3 : x4 = x5) (h4 : x5 = x6) (h5 : x6 = x7) (h6 : x1 + x2 ≤ x8) (h7 : x7 = x0) : x3 < x8 + 1 := by omega
theorem la_give_187 {x0 x1 x2 x3 x4 x5 x6 : Int} (h0 : x0 < x1) (h1 : x2 = x3) (h2 : x3 = x4) (h3 : x4 = x5) (h4 : x5 = x6) (h5 : x6 = x0) : x2 < x1 + 1 := by omega
theorem la_give_188 {x0 x1 x2 : Int} (h0 : x0 = x1) (h1 : x1 = x2) : x2 = x0 := by omega
theorem la_give_189 {x0 x1 x2 x3 x4 x5 : Int} (h0 : x0 = x1) (h1 : x1 = x2) (h2 : x2 = x3) (h3 : x3 = x4) (h4 : x4 = x5) : x0 = x5 := by omega
theorem la_give_190 {x0 x1 x2 x3 x4 x5 : Int} (h0 : x0 = x1 + 1) (h1 : x1 = x2 + 1) (h2 : x3 + x4 ≤ x2) (h3 : x5 = 1) : x3 + (x4 + x5) ≤ x0 := by omega
theorem la_give_191 {x0 x1 x2 x3 : Int} (h0 : x0 = 2) (h1 : x1 = x2 + 1) (h2 : x3 + x0 ≤ x2) : x3 < x1 := by omega
theorem la_give_192 {x0 x1 x2 : Int} (h0 : x0 = 2) (h1 : x1 + x0 ≤ x2) : x1 < x2 := by omega
theorem la_give_193 {x0 x1 : Int} (h0 : x0 = x1 + 1) : x1 < x0 := by omega
theorem la_give_194 {x0 x1 : Int} (h0 : x0 ≤ x1 + 1) (h1 : x0 = x1 + 1) : x1 + 1 = x0 := by omega
theorem la_give_195 {x0 x1 x2 : Int} (h0 : x0 ≤ x1 + 1) (h1 : x2 ≤ x0 + 1) : x2 ≤ x1 + 1 + 1 := by omega
theorem la_give_196 {x0 x1 x2 x3 x4 x5 x6 x7 : Int} (h0 : x0 = x1 + x2) (h1 : x2 = (-1)) (h2 : x1 = x3 + x4) (h3 : x4 = 2) (h4 : x3 = x5 + x6) (h5 : x7 = 1) : x0 = x5 + (x6 + x7) := by omega
theorem la_give_197 {x0 x1 x2 x3 : Int} (h0 : x0 = x1) (h1 : x2 = x3) (h2 : x1 = x2) : x0 = x3 := by omega
theorem la_give_198 {x0 x1 x2 x3 : Int} (h0 : x0 = 2) (h1 : x1 = x2 + 1) (h2 : x3 + x0 ≤ x2) : x3 < x1 + 1 := by omega
theorem la_give_199 {x0 x1 x2 : Int} (h0 : x0 = 2) (h1 : x1 + x0 ≤ x2) : x1 < x2 + 1 := by omega
theorem la_give_200 {x0 x1 x2 x3 x4 x5 x6 x7 : Int} (h0 : 0 ≤ x0) (h1 : x0 + 1 ≤ x1) (h2 : x2 = 2) (h3 : x3 = x4 + 1) (h4 : x4 = x5 + 1) (h5 : x6 + x2 ≤ x5) : 2 * x7 ≤ 2 * x7 + (x3 - x6) + 8 * x1 + 12 := by omega
theorem la_give_201 {x0 x1 x2 x3 : Int} (h0 : x0 = 2) (h1 : x1 = x2 + 1) (h2 : x3 + x0 ≤ x2) : x3 + 1 < x1 + 1 := by omega
theorem la_give_202 {x0 x1 x2 : Int} (h0 : x0 = 2) (h1 : x1 + x0 ≤ x2) : x1 + 1 < x2 + 1 := by omega
theorem la_give_203 {x0 x1 x2 : Int} (h0 : x0 = 2) (h1 : x1 + x0 ≤ x2) : x1 + 1 ≤ x2 := by omega
theorem la_give_204 {x0 x1 x2 x3 x4 x5 : Int} (h0 : x0 = x1 + 1) (h1 : x1 = x2 + 1) : 2 * x3 + (x2 - x4) + 8 * x5 + 12 ≤ 2 * x3 + (x0 - x4) + 8 * x5 + 12 := by omega
theorem la_give_205 {x0 x1 : Int} (h0 : x0 = x1 + 1) : x1 ≤ x0 + 1 := by omega
theorem la_give_206 {x0 x1 : Int} (h0 : x0 = x1 + 1) : x1 < x0 + 1 := by omega
theorem la_give_207 {x0 x1 x2 x3 x4 x5 x6 x7 x8 : Int} (h0 : 0 ≤ x0) (h1 : x0 + 1 ≤ x1) (h2 : x2 = 2) (h3 : x3 = x4 + 1) (h4 : x4 = x5 + 1) (h5 : x6 + x2 ≤ x5) (h6 : x7 = x8 + x2) : 2 * x7 ≤ 2 * x8 + (x3 - x6) + 8 * x1 + 12 := by omega
theorem la_give_208 {x0 x1 : Int} (h0 : x0 = x1 + 1) : x1 + 1 < x0 + 1 := by omega
theorem la_give_209 {x0 x1 x2 x3 x4 x5 x6 x7 x8 x9 : Int} (h0 : 0 ≤ x0) (h1 : x0 + 1 ≤ x1) (h2 : x2 = 2) (h3 : x3 = x4 + 1) (h4 : x4 = x5 + 1) (h5 : x6 = 2) (h6 : x7 + x2 ≤ x5) (h7 : x8 = x9 + x2) : 2 * (x8 + x6) ≤ 2 * x9 + (x3 - x7) + 8 * x1 + 12 := by omega
theorem la_give_210 {x0 x1 x2 x3 x4 x5 : Int} (h0 : x0 = x1 + 1) (h1 : x1 = x2 + 1) (h2 : x3 ≤ x4 + 3 * (x2 - x5)) : x3 ≤ x4 + 3 * (x0 - x5) := by omega
theorem la_give_211 : (1 : Int) = 1 ∧ ((3 : Int) = 3 ∨ (3 : Int) = 5) ∨ (1 : Int) = 2 ∧ (3 : Int) = 4 := by omega
theorem la_give_212 {x0 x1 x2 x3 x4 : Int} (h0 : (0 : Int) < 0) : (1 : Int) = 1 → (0 ≤ x0 → x1 ≤ x2) ∧ (0 ≤ x3 → x4 ≤ x2) := by omega
theorem la_give_213 : (1 : Int) = 1 := by omega
theorem la_give_214 {x0 x1 x2 x3 : Int} (h0 : (0 : Int) < 0) : x0 + (x1 + x2) ≤ x3 := by omega
theorem la_give_215 {x0 x1 x2 x3 : Int} (h0 : (0 : Int) < 0) : x0 = x1 + (x2 + x3) := by omega
theorem la_give_216 : (0 : Int) = 0 ∨ (0 : Int) = 1 := by omega
theorem la_give_217 {x0 : Int} : (0 : Int) = 1 → x0 = 2 := by omega
theorem la_give_218 {x0 : Int} (h0 : (0 : Int) < 0) : (0 : Int) = 0 → x0 = 7 := by omega
theorem la_give_219 {x0 : Int} : x0 ≤ x0 := by omega
theorem la_give_220 {x0 : Int} (h0 : (0 : Int) < 0) : x0 = 1 → x0 = 1 := by omega
theorem la_give_221 {x0 : Int} : x0 = x0 := by omega
theorem la_give_222 {x0 x1 : Int} : x0 = 1 → x1 = x1 := by omega
theorem la_give_223 {x0 x1 x2 x3 : Int} (h0 : (0 : Int) < 0) : x0 = 0 → x1 ≤ x1 + 3 * (600 - x2) + x3 := by omega
theorem la_give_224 {x0 x1 : Int} (h0 : (0 : Int) < 0) : x0 + x1 ≤ x0 := by omega
theorem la_give_225 {x0 x1 : Int} (h0 : (0 : Int) < 0) : x0 = x0 + x1 := by omega
theorem la_give_226 {x0 x1 : Int} : x0 ≤ x0 + 3 * (x1 - x1) := by omega
theorem la_give_227 {x0 x1 x2 : Int} (h0 : x0 ≤ 12000) (h1 : x1 < x0) (h2 : 0 ≤ x2) (h3 : x2 < x1) : 0 ≤ x1 ∧ x1 < 12000 ∧ (0 : Int) ≤ 0 ∧ (0 : Int) ≤ 4 := by omega
theorem la_give_228 {x0 x1 x2 : Int} (h0 : x0 ≤ 600) (h1 : 0 ≤ x1) (h2 : x1 ≤ x2) : 0 + 1 ≤ x2 + (600 - x0) + 9 := by omega
theorem la_give_229 {x0 : Int} : 5 * x0 + 0 = 5 * x0 := by omega
theorem la_give_230 {x0 x1 : Int} (h0 : 0 ≤ x0) (h1 : x1 = x0) : 0 ≤ x1 := by omega
theorem la_give_231 {x0 x1 x2 x3 : Int} (h0 : x0 < x1) (h1 : x2 < x0) (h2 : x3 = x2) : x3 < x1 := by omega
theorem la_give_232 {x0 x1 : Int} (h0 : x0 = 1) (h1 : x1 = x0) : x1 = 1 := by omega
theorem la_give_233 {x0 x1 x2 x3 x4 x5 : Int} (h0 : x0 ≤ x1) (h1 : x2 < x3) (h2 : x4 = x0) (h3 : x5 = x2) : 12001 * x4 + x5 ≤ 12001 * x1 + x3 := by omega
theorem la_give_234 {x0 x1 x2 x3 x4 x5 : Int} (h0 : x0 + 3 * (600 - x1) + x2 ≤ 8000) (h1 : x3 ≤ x2) (h2 : x4 ≤ x3) (h3 : x5 = x4) : x0 + 3 * (600 - x1) + x5 ≤ 8000 := by omega
theorem la_give_235 {x0 x1 x2 x3 : Int} (h0 : x0 ≤ 600) (h1 : 0 ≤ x1) (h2 : x2 = x1) (h3 : x3 = x2 + (600 - x0) + 8) : 0 ≤ x3 := by omega
theorem la_give_236 {x0 x1 x2 x3 x4 x5 x6 : Int} (h0 : x0 + (600 - x1) + 9 = x2) (h1 : x3 ≤ x0) (h2 : x4 ≤ x3) (h3 : x5 = x4) (h4 : x6 = x5 + (600 - x1) + 8) : x6 < x2 := by omega
theorem la_give_237 {x0 x1 x2 x3 x4 x5 : Int} (h0 : x0 ≤ x1) (h1 : x2 ≤ x0) (h2 : x3 = x2) (h3 : x4 = x3 + (600 - x5) + 8) : x4 + 1 ≤ x1 + (600 - x5) + 9 := by omega
theorem la_give_238 {x0 x1 x2 : Int} (h0 : x0 ≤ 12000) (h1 : x1 < x0) (h2 : 0 ≤ x2) (h3 : x2 < x1) : 0 ≤ x1 ∧ x1 < 12000 ∧ (0 : Int) ≤ 1 ∧ (1 : Int) ≤ 4 := by omega
theorem la_give_239 {x0 x1 x2 x3 : Int} (h0 : x0 ≤ x1 - 1) (h1 : x2 < x3) : 12001 * x0 + x2 ≤ 12001 * x1 + x3 := by omega
theorem la_give_240 {x0 x1 x2 x3 x4 x5 : Int} (h0 : 0 ≤ x0 → x1 ≤ x2) (h1 : x3 = x2 + 1) (h2 : x4 = x0) (h3 : x5 = x1) : 0 ≤ x4 → x5 ≤ x3 := by omega
theorem la_give_241 {x0 x1 x2 x3 : Int} (h0 : x0 ≤ x1) (h1 : x1 + 1 ≤ x2) (h2 : x3 = x0 + 1) : x3 ≤ x2 := by omega
theorem la_give_242 {x0 x1 x2 x3 x4 x5 x6 : Int} (h0 : x0 + 3 * (600 - x1) + x2 ≤ 8000) (h1 : x3 ≤ x2) (h2 : x4 ≤ x3 - 1) (h3 : x5 ≤ x0 + 3 * (x6 - x1)) : x5 + 3 * (600 - x6) + x4 ≤ 8000 := by omega
theorem la_give_243 {x0 x1 x2 x3 x4 x5 x6 : Int} (h0 : x0 + (600 - x1) + 9 = x2) (h1 : x3 ≤ x0) (h2 : x4 ≤ x3 - 1) (h3 : x5 = x4 + (600 - x6) + 8) (h4 : x1 + 1 ≤ x6) : x5 < x2 := by omega
theorem la_give_244 {x0 x1 x2 x3 x4 : Int} (h0 : x0 ≤ 600) (h1 : x1 + (600 - x0) + 9 = x2) (h2 : 0 ≤ x3) (h3 : x3 ≤ x1) (h4 : x4 = 4) : x4 < x2 := by omega
theorem la_give_245 {x0 x1 x2 x3 x4 x5 : Int} (h0 : x0 ≤ x1) (h1 : x2 ≤ x0 - 1) (h2 : x3 = x2 + (600 - x4) + 8) (h3 : x5 + 1 ≤ x4) : x3 + 1 ≤ x1 + (600 - x5) + 9 := by omega
theorem la_give_246 {x0 x1 x2 x3 x4 : Int} (h0 : x0 ≤ 600) (h1 : x1 ≤ x2) (h2 : x3 ≤ x1 - 1) (h3 : 0 ≤ x3) (h4 : x4 = 4) : x4 + 1 ≤ x2 + (600 - x0) + 9 := by omega
theorem la_give_247 {x0 : Int} (h0 : x0 = 7) : (0 : Int) = 0 → x0 = 7 := by omega
theorem la_give_248 {x0 x1 : Int} (h0 : x0 = 0) : x0 = 1 → x1 = 1 := by omega
theorem la_give_249 {x0 x1 x2 x3 x4 x5 x6 x7 : Int} (h0 : x0 ≤ x1) (h1 : x2 ≤ x0) (h2 : x3 = x2) (h3 : x4 ≤ x5 + 3 * (600 - x6) + x3) (h4 : x7 = x4) : x7 ≤ x5 + 3 * (600 - x6) + x1 := by omega
theorem la_give_250 {x0 x1 x2 x3 x4 x5 x6 x7 : Int} (h0 : x0 ≤ x1) (h1 : x2 ≤ x0 - 1) (h2 : x3 ≤ x4 + 3 * (x5 - x6)) (h3 : x7 ≤ x3 + 3 * (600 - x5) + x2) : x7 ≤ x4 + 3 * (600 - x6) + x1 := by omega
theorem la_give_251 {x0 x1 x2 : Int} (h0 : x0 = x1) (h1 : x1 < x2) : x0 < x2 + 1 := by omega
theorem la_give_252 {x0 x1 x2 x3 : Int} (h0 : x0 < x1) (h1 : x2 = x3) (h2 : x3 = x0) : x2 < x1 + 1 := by omega
theorem la_give_253 {x0 x1 : Int} (h0 : x0 = x1) : x1 = x0 := by omega
theorem la_give_254 {x0 x1 x2 x3 : Int} (h0 : x0 + 1 ≤ x1) (h1 : x2 + 1 ≤ x0) (h2 : x3 = 2) : x2 + x3 ≤ x1 := by omega
theorem la_give_255 {x0 x1 x2 x3 : Int} (h0 : x0 = x1 + 1) (h1 : x1 = x2 + 1) (h2 : x3 = 2) : x0 = x2 + x3 := by omega
theorem la_give_256 {x0 x1 x2 x3 x4 x5 : Int} (h0 : 0 ≤ x0) (h1 : x0 + 1 ≤ x1) (h2 : x2 + 1 ≤ x3) (h3 : x4 + 1 ≤ x2) : 2 * x5 ≤ 2 * x5 + (x3 - x4) + 8 * x1 + 12 := by omega
theorem la_give_257 {x0 x1 x2 x3 x4 x5 x6 x7 : Int} (h0 : x0 ≤ x1) (h1 : x2 ≤ x0) (h2 : x3 = x2) (h3 : x4 + 1 ≤ x5) : 2 * x6 + (x4 - x7) + 8 * x3 + 10 ≤ 2 * x6 + (x5 - x7) + 8 * x1 + 12 := by omega
theorem la_give_258 {x0 x1 x2 x3 x4 x5 x6 : Int} (h0 : 0 ≤ x0) (h1 : x0 + 1 ≤ x1) (h2 : x2 + 1 ≤ x3) (h3 : x4 + 1 ≤ x2) (h4 : x5 = x6 + 1) : 2 * x5 ≤ 2 * x6 + (x3 - x4) + 8 * x1 + 12 := by omega
theorem la_give_259 {x0 x1 x2 x3 x4 x5 x6 x7 : Int} (h0 : x0 ≤ x1) (h1 : x2 ≤ x0) (h2 : x3 + 1 ≤ x4) (h3 : x5 = x6 + 1) : 2 * x5 + (x7 - x4) + 8 * x2 + 10 ≤ 2 * x6 + (x7 - x3) + 8 * x1 + 12 := by omega
theorem la_give_260 {x0 : Int} (h0 : ¬ ¬ x0 = 2) : ¬ x0 = 7 := by omega
theorem la_give_261 {x0 : Int} (h0 : ¬ ¬ x0 = 2) : ¬ x0 = 3 := by omega
theorem la_give_262 {x0 : Int} (h0 : ¬ ¬ x0 = 2) : ¬ (x0 = 4 ∨ x0 = 5 ∨ x0 = 8 ∨ x0 = 9) := by omega
theorem la_give_263 : ¬ (1 : Int) = 0 := by omega
theorem la_give_264 {x0 x1 : Int} (h0 : (1 : Int) = 0) : x0 ≤ x1 := by omega
theorem la_give_265 {x0 x1 : Int} (h0 : (1 : Int) = 0) : x0 ≤ x1 + 1 := by omega
theorem la_give_266 {x0 : Int} (h0 : (1 : Int) = 0) : 0 ≤ x0 := by omega
theorem la_give_267 {x0 : Int} (h0 : (1 : Int) = 0) : x0 = 3 := by omega
theorem la_give_268 {x0 : Int} (h0 : (1 : Int) = 0) : x0 = 4 ∨ x0 = 5 ∨ x0 = 8 ∨ x0 = 9 := by omega
theorem la_give_269 {x0 x1 x2 x3 x4 x5 x6 x7 : Int} (h0 : (1 : Int) = 0) : (0 ≤ x0 - 3 ∧ (0 ≤ x1 → x2 ≤ x0 - 3) ∧ (0 ≤ x3 → x4 ≤ x0 - 3)) ∧ x0 + x5 = x0 - 2 ∧ x6 = x1 ∧ x7 = x3 := by omega
theorem la_give_270 {x0 x1 : Int} (h0 : (1 : Int) = 0) : x0 < x1 + 1 := by omega
theorem la_give_271 {x0 x1 : Int} (h0 : (1 : Int) = 0) : x0 = x1 := by omega
theorem la_give_272 (h0 : (1 : Int) = 0) : False := by omega
theorem la_give_273 {x0 x1 : Int} (h0 : (1 : Int) = 0) : 1 + 1 ≤ x0 + (600 - x1) + 9 := by omega
theorem la_give_274 {x0 : Int} (h0 : (1 : Int) = 0) : x0 = 1 := by omega
theorem la_give_275 {x0 : Int} (h0 : (1 : Int) = 0) : x0 = 0 := by omega
theorem la_give_276 {x0 : Int} (h0 : (1 : Int) = 0) : ¬ x0 = 1 := by omega
theorem la_give_277 (h0 : (1 : Int) = 0) : (11 : Int) = 29 := by omega
theorem la_give_278 (h0 : (1 : Int) = 0) : (11 : Int) = 17 := by omega
theorem la_give_279 {x0 x1 : Int} (h0 : (1 : Int) = 0) : x0 = 1 → x1 = 1 := by omega
theorem la_give_280 {x0 x1 : Int} (h0 : (1 : Int) = 0) : x0 + 1 ≤ x1 + 1 := by omega
theorem la_give_281 {x0 x1 : Int} (h0 : (1 : Int) = 0) : x0 + 1 ≤ x1 := by omega
theorem la_give_282 {x0 x1 : Int} (h0 : (1 : Int) = 0) : x0 = x1 + 1 := by omega
theorem la_give_283 {x0 x1 x2 x3 : Int} (h0 : (1 : Int) = 0) : x0 ≤ x1 + 3 * (x2 - x3) := by omega
theorem la_give_284 : (0 : Int) ≤ 1 := by omega
theorem la_give_285 (h0 : (0 : Int) ≤ 1) (h1 : ¬ (1 : Int) = 0) : (0 : Int) < 1 := by omega
theorem la_give_286 {x0 x1 : Int} (h0 : x0 ≤ 12000) (h1 : 0 ≤ x1) (h2 : x1 < x0) : 0 ≤ x1 ∧ x1 < 12000 ∧ (0 : Int) ≤ 0 ∧ (0 : Int) ≤ 4 := by omega
theorem la_give_287 {x0 x1 x2 : Int} (h0 : x0 < x1) (h1 : x2 = x0) : x2 < x1 := by omega
theorem la_give_288 {x0 x1 x2 : Int} (h0 : 0 ≤ x0) (h1 : x1 = 0) (h2 : x2 = x0 + (x1 + 1)) : 1 ≤ x2 := by omega
theorem la_give_289 {x0 x1 x2 x3 x4 x5 x6 : Int} (h0 : 0 ≤ x0 → x1 ≤ x2) (h1 : x3 = 0) (h2 : x4 = x2 + (x3 + 1)) (h3 : x5 = x0) (h4 : x6 = x1) : 0 ≤ x5 → x6 ≤ x4 - 1 := by omega
theorem la_give_290 {x0 x1 : Int} (h0 : x0 = x1) (h1 : 0 ≤ x0) : 0 ≤ x1 := by omega
theorem la_give_291 {x0 x1 x2 x3 x4 : Int} (h0 : x0 = 0) (h1 : x1 = x2 + (x0 + 1)) (h2 : x3 = x4) (h3 : x4 ≤ x2) : x3 ≤ x1 - 1 := by omega
theorem la_give_292 {x0 x1 x2 x3 x4 : Int} (h0 : 0 ≤ x0) (h1 : x0 ≤ x1) (h2 : x2 ≤ x3) (h3 : x3 ≤ x2 + 3 * (600 - x4) + x1) : 2 + 1 ≤ x1 + (600 - x4) + 9 := by omega
theorem la_give_293 : ¬ (2 : Int) = 1 := by omega
theorem la_give_294 {x0 x1 x2 x3 : Int} (h0 : x0 = 0) (h1 : x1 = x2 + 1) (h2 : x3 + (x0 + 1) ≤ x2) : x3 + 1 ≤ x1 := by omega
theorem la_give_295 {x0 x1 x2 : Int} (h0 : x0 = 0) (h1 : x1 + (x0 + 1) ≤ x2) : x1 < x2 := by omega
theorem la_give_296 {x0 x1 x2 x3 x4 : Int} (h0 : x0 = 0) (h1 : x1 = 0) (h2 : x2 = x3 + x1) (h3 : x3 = x4 + (x0 + 1)) : x2 = x4 + 1 := by omega
theorem la_give_297 {x0 x1 x2 : Int} (h0 : x0 = 0) (h1 : x1 + (x0 + 1) ≤ x2) : x1 < x2 + 1 := by omega
theorem la_give_298 {x0 x1 x2 x3 x4 x5 x6 : Int} (h0 : 0 ≤ x0) (h1 : x0 + 1 ≤ x1) (h2 : x2 = 0) (h3 : x3 = x4 + 1) (h4 : x5 + (x2 + 1) ≤ x4) : 2 * x6 ≤ 2 * x6 + (x3 - x5) + 8 * x1 + 10 := by omega
theorem la_give_299 {x0 x1 x2 : Int} (h0 : x0 = 0) (h1 : x1 + (x0 + 1) ≤ x2) : x1 + 1 < x2 + 1 := by omega
theorem la_give_300 {x0 x1 x2 : Int} (h0 : x0 = 0) (h1 : x1 + (x0 + 1) ≤ x2) : x1 + 1 ≤ x2 := by omega
theorem la_give_301 {x0 x1 x2 x3 x4 x5 x6 x7 : Int} (h0 : 0 ≤ x0) (h1 : x0 + 1 ≤ x1) (h2 : x2 = 0) (h3 : x3 = x4 + 1) (h4 : x5 + (x2 + 1) ≤ x4) (h5 : x6 = x7 + (x2 + 1)) : 2 * x6 ≤ 2 * x7 + (x3 - x5) + 8 * x1 + 10 := by omega
theorem la_give_302 {x0 x1 : Int} (h0 : x0 ≤ x1) : x0 < x1 + 1 := by omega
theorem la_give_303 {x0 x1 x2 x3 x4 x5 : Int} (h0 : 0 ≤ x0) (h1 : x0 + 1 ≤ x1) (h2 : x2 ≤ x3) (h3 : x3 + 1 ≤ x4) : 2 * x5 ≤ 2 * x5 + (x4 - x2) + 8 * x1 + 11 := by omega
theorem la_give_304 {x0 x1 x2 x3 x4 x5 x6 x7 x8 : Int} (h0 : 0 ≤ x0) (h1 : x0 + 1 ≤ x1) (h2 : x2 = 0) (h3 : x3 = 0) (h4 : x4 + 1 ≤ x5) (h5 : x6 + (x2 + x3) ≤ x4) (h6 : x7 = x8 + (x2 + x3)) : 2 * x7 ≤ 2 * x8 + (x5 - x6) + 8 * x1 + 11 := by omega
theorem la_give_305 {x0 x1 x2 x3 x4 x5 x6 x7 x8 : Int} (h0 : x0 + 1 ≤ x1) (h1 : x2 = 0) (h2 : x3 = 0) (h3 : x4 + (x2 + x3) ≤ x5) (h4 : x6 = x7 + (x2 + x3)) : 2 * x6 + (x8 - x5) + 8 * x0 + 10 ≤ 2 * x7 + (x8 - x4) + 8 * x1 + 11 := by omega
theorem la_give_306 {x0 x1 x2 x3 x4 x5 x6 x7 x8 x9 x10 x11 x12 x13 x14 x15 x16 x17 x18 x19 x20 : Int} (h0 : x0 ≤ 20) (h1 : 0 ≤ x1) (h2 : 0 ≤ x2 → x3 ≤ x1) (h3 : 0 ≤ x4 → x5 ≤ x1) (h4 : x6 = 0) (h5 : x7 = 1) (h6 : (-1) < x0) (h7 : x8 = x9 + 1) (h8 : x10 = x11) (h9 : x12 = x13) (h10 : x14 = x15) (h11 : x16 = x17) (h12 : x9 = x1 + (x6 + x7)) (h13 : x11 = x2) (h14 : x13 = x4) (h15 : x15 = x3) (h16 : x17 = x5) (h17 : x18 = (-1)) (h18 : x19 = x10) (h19 : x20 = x12) : (0 ≤ x0 ∧ x0 ≤ 20) ∧ (0 ≤ x8 - 2 ∧ (0 ≤ x10 → x14 ≤ x8 - 2) ∧ (0 ≤ x12 → x16 ≤ x8 - 2)) ∧ x8 + x18 = x8 - 1 ∧ x19 = x10 ∧ x20 = x12 := by omega
theorem la_give_307 {x0 x1 x2 x3 x4 : Int} (h0 : x0 = 0) (h1 : x1 = 1) (h2 : x2 + 1 ≤ x3) (h3 : x4 + (x0 + x1) ≤ x2) : x4 < x3 := by omega
theorem la_give_308 {x0 x1 x2 x3 : Int} (h0 : x0 = 0) (h1 : x1 = 1) (h2 : x2 + (x0 + x1) ≤ x3) : x2 < x3 := by omega
theorem la_give_309 {x0 x1 x2 : Int} (h0 : x0 ≤ x1) (h1 : x1 + 1 ≤ x2) : x0 < x2 + 1 := by omega
theorem la_give_310 {x0 x1 x2 x3 : Int} (h0 : x0 = 0) (h1 : x1 = 1) (h2 : x2 + (x0 + x1) ≤ x3) : x2 < x3 + 1 := by omega
theorem la_give_311 {x0 x1 x2 x3 x4 x5 x6 : Int} (h0 : 0 ≤ x0) (h1 : x0 + 1 ≤ x1) (h2 : x2 ≤ x3) (h3 : x4 = x5 + 1) (h4 : x3 + 1 ≤ x5) : 2 * x6 ≤ 2 * x6 + (x4 - x2) + 8 * x1 + 11 := by omega
theorem la_give_312 {x0 x1 x2 x3 x4 : Int} (h0 : x0 = 0) (h1 : x1 = 1) (h2 : x2 + 1 ≤ x3) (h3 : x4 + (x0 + x1) ≤ x2) : x4 + 1 < x3 + 1 := by omega
theorem la_give_313 {x0 x1 x2 x3 : Int} (h0 : x0 = 0) (h1 : x1 = 1) (h2 : x2 + (x0 + x1) ≤ x3) : x2 + 1 < x3 + 1 := by omega
theorem la_give_314 {x0 x1 x2 x3 : Int} (h0 : x0 = 0) (h1 : x1 = 1) (h2 : x2 + (x0 + x1) ≤ x3) : x2 + 1 ≤ x3 := by omega
theorem la_give_315 {x0 x1 x2 x3 x4 x5 x6 x7 x8 x9 : Int} (h0 : 0 ≤ x0) (h1 : x0 + 1 ≤ x1) (h2 : x2 = 0) (h3 : x3 = 1) (h4 : x4 = x5 + 1) (h5 : x6 + 1 ≤ x5) (h6 : x7 + (x2 + x3) ≤ x6) (h7 : x8 = x9 + (x2 + x3)) : 2 * x8 ≤ 2 * x9 + (x4 - x7) + 8 * x1 + 11 := by omega
theorem la_give_316 {x0 x1 x2 x3 x4 x5 x6 x7 x8 x9 : Int} (h0 : x0 + 1 ≤ x1) (h1 : x2 = 0) (h2 : x3 = 1) (h3 : x4 = x5 + 1) (h4 : x6 + (x2 + x3) ≤ x7) (h5 : x8 = x9 + (x2 + x3)) : 2 * x8 + (x5 - x7) + 8 * x0 + 10 ≤ 2 * x9 + (x4 - x6) + 8 * x1 + 11 := by omega
theorem la_give_317 {x0 x1 x2 x3 x4 x5 x6 x7 x8 x9 x10 : Int} (h0 : 0 ≤ x0) (h1 : x0 + 1 ≤ x1) (h2 : x2 = 0) (h3 : x3 = 1) (h4 : x4 = x5 + 1) (h5 : x6 + 1 ≤ x5) (h6 : x7 = x8 + 1) (h7 : x9 + (x2 + x3) ≤ x6) (h8 : x8 = x10 + (x2 + x3)) : 2 * x7 ≤ 2 * x10 + (x4 - x9) + 8 * x1 + 11 := by omega
theorem la_give_318 {x0 x1 x2 x3 x4 x5 x6 x7 x8 : Int} (h0 : (1 : Int) = 0) : x0 ≤ x1 ∧ (0 ≤ x0 - 2 ∧ (0 ≤ x2 → x3 ≤ x0 - 2) ∧ (0 ≤ x4 → x5 ≤ x0 - 2)) ∧ x0 + x6 = x0 + 2 ∧ x7 = x2 ∧ x8 = x4 := by omega
theorem la_give_319 (h0 : (1 : Int) = 0) : (19 : Int) = 29 := by omega
theorem la_give_320 (h0 : (1 : Int) = 0) : (19 : Int) = 17 := by omega
theorem la_give_321 {x0 x1 x2 x3 x4 x5 x6 x7 : Int} (h0 : (1 : Int) = 0) : (0 ≤ x0 - 2 ∧ (0 ≤ x1 → x2 ≤ x0 - 2) ∧ (0 ≤ x3 → x4 ≤ x0 - 2)) ∧ x0 + x5 = x0 - 1 ∧ x6 = x1 ∧ x7 = x3 := by omega
theorem la_give_322 {x0 : Int} (h0 : (1 : Int) = 0) : x0 < x0 := by omega
theorem la_give_323 {x0 x1 : Int} (h0 : (1 : Int) = 0) : x0 < x1 := by omega
theorem la_give_324 (h0 : (1 : Int) = 0) : (10 : Int) = 29 := by omega
theorem la_give_325 (h0 : (1 : Int) = 0) : (10 : Int) = 17 := by omega
theorem la_give_326 {x0 x1 x2 x3 : Int} (h0 : (1 : Int) = 0) : x0 + (x1 + x2) ≤ x3 := by omega
theorem la_give_327 {x0 x1 x2 x3 : Int} (h0 : (1 : Int) = 0) : x0 = x1 + (x2 + x3) := by omega
theorem la_give_328 {x0 x1 x2 x3 x4 x5 x6 x7 x8 x9 x10 : Int} (h0 : 0 ≤ x0 → x1 ≤ x2) (h1 : 0 ≤ x3 → x4 ≤ x2) (h2 : x5 = 0) (h3 : x6 = x2 + x5) (h4 : x7 = x0) (h5 : x8 = x3) (h6 : x9 = x1) (h7 : x10 = x4) : (1 : Int) = 1 → (0 ≤ x7 → x9 ≤ x6) ∧ (0 ≤ x8 → x10 ≤ x6) := by omega
theorem la_give_329 {x0 : Int} (h0 : (1 : Int) = 2) : 1 ≤ x0 := by omega
theorem la_give_330 {x0 x1 x2 : Int} (h0 : (1 : Int) = 2) : 0 ≤ x0 → x1 ≤ x2 - 1 := by omega
theorem la_give_331 {x0 : Int} (h0 : (1 : Int) = 2) : 0 ≤ x0 := by omega
theorem la_give_332 {x0 : Int} (h0 : (1 : Int) = 2) : x0 = 4 ∨ x0 = 5 ∨ x0 = 8 ∨ x0 = 9 := by omega
theorem la_give_333 {x0 x1 : Int} (h0 : (1 : Int) = 2) : x0 ≤ x1 := by omega
theorem la_give_334 {x0 x1 : Int} (h0 : (1 : Int) = 2) : x0 ≤ x1 + 1 := by omega
theorem la_give_335 {x0 x1 : Int} (h0 : (1 : Int) = 2) : x0 ≤ x1 - 1 := by omega
theorem la_give_336 {x0 x1 x2 x3 x4 : Int} (h0 : x0 = x1 + 1) (h1 : x2 + x3 ≤ x1) (h2 : x4 = 1) : x2 + (x3 + x4) ≤ x0 := by omega
theorem la_give_337 {x0 x1 x2 x3 x4 x5 : Int} (h0 : x0 = 1) (h1 : x1 = x2 + x0) (h2 : x2 = x3 + x4) (h3 : x5 = 1) : x1 = x3 + (x4 + x5) := by omega
theorem la_give_338 {x0 x1 x2 x3 x4 x5 : Int} (h0 : 0 ≤ x0) (h1 : x0 + 1 ≤ x1) (h2 : x2 ≤ x3) (h3 : x4 = x3 + 1) : 2 * x5 ≤ 2 * x5 + (x4 - x2) + 8 * x1 + 12 := by omega
theorem la_give_339 {x0 x1 x2 x3 x4 : Int} (h0 : x0 = x1 + 1) : 2 * x2 + (x1 - x3) + 8 * x4 + 12 ≤ 2 * x2 + (x0 - x3) + 8 * x4 + 12 := by omega
theorem la_give_340 {x0 x1 x2 x3 x4 x5 x6 x7 : Int} (h0 : 0 ≤ x0) (h1 : x0 + 1 ≤ x1) (h2 : x2 = 0) (h3 : x3 = x4 + 1) (h4 : x5 + x2 ≤ x4) (h5 : x6 = x7 + x2) : 2 * x6 ≤ 2 * x7 + (x3 - x5) + 8 * x1 + 12 := by omega
theorem la_give_341 : (1 : Int) = 0 ∨ (1 : Int) = 1 := by omega
theorem la_give_342 {x0 : Int} (h0 : ¬ ¬ x0 = 2) : (1 : Int) = 1 → x0 = 2 := by omega
theorem la_give_343 {x0 : Int} : (1 : Int) = 0 → x0 = 7 := by omega
theorem la_give_344 {x0 : Int} (h0 : x0 = 0) : x0 = 1 → x0 = 1 := by omega
theorem la_give_345 {x0 x1 x2 x3 x4 : Int} (h0 : x0 ≤ 600) (h1 : 0 ≤ x1) (h2 : x1 ≤ x2) : x3 = 0 → x4 ≤ x4 + 3 * (600 - x0) + x2 := by omega
theorem la_give_346 {x0 x1 : Int} (h0 : x0 = 0) : x1 + x0 ≤ x1 := by omega
theorem la_give_347 {x0 x1 : Int} (h0 : x0 = 0) : x1 = x1 + x0 := by omega
theorem la_give_348 {x0 : Int} (h0 : ¬ ¬ (1 : Int) = 0) : x0 = 7 := by omega
theorem la_give_349 {x0 x1 : Int} (h0 : ¬ ¬ (1 : Int) = 0) : x0 ≤ x1 := by omega
theorem la_give_350 {x0 x1 : Int} (h0 : ¬ ¬ (1 : Int) = 0) : x0 ≤ x1 + 1 := by omega
theorem la_give_351 {x0 : Int} (h0 : ¬ ¬ (1 : Int) = 0) : 0 ≤ x0 := by omega
theorem la_give_352 {x0 : Int} (h0 : ¬ ¬ (1 : Int) = 0) : x0 = 3 := by omega
theorem la_give_353 {x0 : Int} (h0 : ¬ ¬ (1 : Int) = 0) : x0 = 4 ∨ x0 = 5 ∨ x0 = 8 ∨ x0 = 9 := by omega
theorem la_give_354 {x0 : Int} (h0 : ¬ ¬ (1 : Int) = 0) : x0 = 2 := by omega
theorem la_give_355 {x0 : Int} (h0 : ¬ ¬ (1 : Int) = 0) : x0 = 6 := by omega
theorem la_give_356 {x0 : Int} (h0 : ¬ ¬ (1 : Int) = 0) : x0 = 33 := by omega
theorem la_give_357 {x0 : Int} (h0 : ¬ ¬ (1 : Int) = 0) : x0 = (-1) := by omega
theorem la_give_358 {x0 : Int} (h0 : ¬ ¬ (1 : Int) = 0) : 0 ≤ x0 ∧ x0 < 12000 ∧ (0 : Int) ≤ 0 ∧ (0 : Int) ≤ 4 := by omega
theorem la_give_359 {x0 x1 : Int} (h0 : ¬ ¬ (1 : Int) = 0) : 0 + 1 ≤ x0 + (600 - x1) + 9 := by omega
theorem la_give_360 {x0 x1 : Int} (h0 : ¬ ¬ (1 : Int) = 0) : x0 < x1 := by omega
theorem la_give_361 {x0 : Int} (h0 : ¬ ¬ (1 : Int) = 0) : x0 = 1 := by omega
theorem la_give_362 {x0 : Int} (h0 : ¬ ¬ (1 : Int) = 0) : x0 = 0 := by omega
theorem la_give_363 {x0 x1 x2 : Int} (h0 : ¬ ¬ (1 : Int) = 0) : x0 + 3 * (600 - x1) + x2 ≤ 8000 := by omega
theorem la_give_364 {x0 x1 : Int} (h0 : ¬ ¬ (1 : Int) = 0) : 0 ≤ x0 ∧ x0 < x1 := by omega
theorem la_give_365 {x0 x1 x2 : Int} (h0 : ¬ ¬ (1 : Int) = 0) : 0 ≤ x0 ∧ x0 + 1 ≤ x1 + (600 - x2) + 9 := by omega
theorem la_give_366 {x0 : Int} (h0 : ¬ ¬ (1 : Int) = 0) : 0 ≤ x0 ∧ x0 < 12000 ∧ (0 : Int) ≤ 1 ∧ (1 : Int) ≤ 4 := by omega
theorem la_give_367 {x0 x1 x2 : Int} (h0 : ¬ ¬ (1 : Int) = 0) : 0 ≤ x0 → x1 ≤ x2 := by omega
theorem la_give_368 {x0 : Int} (h0 : ¬ ¬ (1 : Int) = 0) : (1 : Int) = 1 → x0 = 2 := by omega
theorem la_give_369 {x0 x1 : Int} (h0 : ¬ ¬ (1 : Int) = 0) : x0 = 1 → x1 = 1 := by omega
theorem la_give_370 {x0 x1 : Int} (h0 : ¬ ¬ (1 : Int) = 0) : x0 + 1 ≤ x1 + 1 := by omega
theorem la_give_371 {x0 x1 : Int} (h0 : ¬ ¬ (1 : Int) = 0) : x0 = x1 := by omega
theorem la_give_372 {x0 x1 x2 : Int} (h0 : ¬ ¬ (1 : Int) = 0) : x0 = 1 → x1 = x2 := by omega
theorem la_give_373 {x0 x1 x2 x3 x4 : Int} (h0 : ¬ ¬ (1 : Int) = 0) : x0 = 0 → x1 ≤ x2 + 3 * (600 - x3) + x4 := by omega
theorem la_give_374 {x0 x1 x2 : Int} (h0 : ¬ ¬ (1 : Int) = 0) : x0 + x1 ≤ x2 := by omega
theorem la_give_375 {x0 x1 x2 : Int} (h0 : ¬ ¬ (1 : Int) = 0) : x0 = x1 + x2 := by omega
theorem la_give_376 {x0 x1 x2 x3 : Int} (h0 : ¬ ¬ (1 : Int) = 0) : x0 ≤ x1 + 3 * (x2 - x3) := by omega
set_option maxHeartbeats 16000000 in
theorem f_give : ∀ (d : Int) (p1 : Int) (p2 : Int) (p3 : Int) (S : sv_S), sm_ok S → sv_R p1 → sv_R p2 → sv_R p3 → (sm_WF (S 11) (S 12) (S 13) (S 1100001) (S 1100002) (S 1100005) (S 1100003) (S 1100004) (S 1024 0) (S 1007 0) (S 1009 0) (sm_fn (S 1032 0) (S 21) (S 1056 0)) ∧ (S 1009 0) = 0 ∧ 0 ≤ (S 1007 0) ∧ (S 1007 0) ≤ 90 ∧ 0 ≤ (S 1024 0) ∧ (S 1024 0) ≤ 12000 ∧ 1 ≤ (S 1032 0) ∧ (S 1032 0) ≤ 11 ∧ 0 ≤ (S 1056 0) ∧ (S 1056 0) < (S 1032 0) ∧ sm_VB (S 33) (S 21) (S 1032 0) ∧ 0 ≤ (S 1046 0) ∧ (S 1046 0) ≤ 600 ∧ 0 ≤ (S 1047 0) ∧ (S 1047 0) ≤ 1 ∧ 0 ≤ (S 1053 0) ∧ 0 ≤ (S 1066 0) ∧ -1 ≤ p1 ∧ p1 ≤ 20 ∧ 0 ≤ p2 ∧ p2 < (S 1024 0) ∧ (S 1100001 p2) = 1 ∧ ((S 11 p2) = 2 ∨ (S 11 p2) = 7) ∧ 0 ≤ p3 ∧ p3 < (S 1024 0) ∧ (S 1100001 p3) = 1 ∧ sm_LF (S 39) (S 1100002) (S 1066 0) (S 1024 0) (12001 * (S 1100002 p2) + p2) ∧ sm_LF (S 39) (S 1100002) (S 1066 0) (S 1024 0) (12001 * (S 1100002 p3) + p3) ∧ (S 1047 0) = 0 ∧ sm_KC (S 26) (S 27) (S 28) (S 29) (S 1100007) (S 1100023) (S 1100024) (S 1100025) (S 31) (S 1100009) (S 1100027) (S 1100028) (S 1100026) (S 1100030) (S 21) (S 32) (S 33) (S 1046 0) (S 1053 0) (S 1056 0) (S 1032 0) (S 1007 0) (S 1100033 0) ∧ (S 1100033 0) = (S 1055 0) ∧ 0 ≤ (S 1055 0) ∧ (S 1055 0) ≤ (S 1046 0) ∧ (0 ≤ (S 1100023 (S 1046 0)) → (S 1100007 (S 1100023 (S 1046 0))) ≤ (S 1100007 (S 1046 0))) ∧ (0 ≤ (S 1100025 (S 1046 0)) → (S 1100007 (S 1100025 (S 1046 0))) ≤ (S 1100007 (S 1046 0))) ∧ (S 1100007 (S 1046 0)) ≤ (S 1046 0) ∧ (S 1053 0) + 3 * (600 - (S 1046 0)) + (if (S 1100002 p2) ≤ (S 1100002 p3) then (S 1100002 p3) else (S 1100002 p2)) ≤ 8000) → ((if (S 1100002 p2) ≤ (S 1100002 p3) then (S 1100002 p3) else (S 1100002 p2)) + (600 - (S 1046 0)) + 9) = d → ((sm_WF (S 11) (S 12) (S 13) (S 1100001) (S 1100002) (S 1100005) (S 1100003) (S 1100004) (S 1024 0) (S 1007 0) (S 1009 0) (sm_fn (S 1032 0) (S 21) (S 1056 0)) → 0 ≤ p2 → p2 < (S 1024 0) → ((S 1100001 (p2)) = 1 → 0 ≤ (S 1100002 (p2)) ∧ ((S 11 (p2)) = 3 → (S 12 (5 * (p2) + 1)) < (p2)) ∧ ((S 11 (p2)) = 4 ∨ (S 11 (p2)) = 5 ∨ (S 11 (p2)) = 8 ∨ (S 11 (p2)) = 9 → 17 * (S 1100005 (p2)) + 2 ≤ (S 1100002 (p2))) ∧ 0 ≤ (S 1100005 (p2))) ∧ ((S 1100001 (p2)) = 2 → 0 ≤ (S 1100005 (p2)) ∧ (S 1100002 (p2)) ≤ 17 * (S 1100005 (p2)) + 5 ∧ ((S 11 (p2)) = 33 → 1 ≤ (S 1100005 (p2)))) ∧ ((S 1100001 (p2)) = 6 → 0 ≤ (S 1100002 (p2)) ∧ 1 ≤ (S 1100004 (p2)) ∧ ((S 12 (5 * (p2))) = - 1 → (S 1100004 (p2)) = 2)) ∧ ((S 1100001 (p2)) = 3 → 1 ≤ (S 1100002 (p2)))) → ((sm_WF (S 11) (S 12) (S 13) (S 1100001) (S 1100002) (S 1100005) (S 1100003) (S 1100004) (S 1024 0) (S 1007 0) (S 1009 0) (sm_fn (S 1032 0) (S 21) (S 1056 0)) → 0 ≤ p3 → p3 < (S 1024 0) → ((S 1100001 (p3)) = 1 → 0 ≤ (S 1100002 (p3)) ∧ ((S 11 (p3)) = 3 → (S 12 (5 * (p3) + 1)) < (p3)) ∧ ((S 11 (p3)) = 4 ∨ (S 11 (p3)) = 5 ∨ (S 11 (p3)) = 8 ∨ (S 11 (p3)) = 9 → 17 * (S 1100005 (p3)) + 2 ≤ (S 1100002 (p3))) ∧ 0 ≤ (S 1100005 (p3))) ∧ ((S 1100001 (p3)) = 2 → 0 ≤ (S 1100005 (p3)) ∧ (S 1100002 (p3)) ≤ 17 * (S 1100005 (p3)) + 5 ∧ ((S 11 (p3)) = 33 → 1 ≤ (S 1100005 (p3)))) ∧ ((S 1100001 (p3)) = 6 → 0 ≤ (S 1100002 (p3)) ∧ 1 ≤ (S 1100004 (p3)) ∧ ((S 12 (5 * (p3))) = - 1 → (S 1100004 (p3)) = 2)) ∧ ((S 1100001 (p3)) = 3 → 1 ≤ (S 1100002 (p3)))) → (((S 1100002 p2) ≤ (if (S 1100002 p2) ≤ (S 1100002 p3) then (S 1100002 p3) else (S 1100002 p2)) ∧ (S 1100002 p3) ≤ (if (S 1100002 p2) ≤ (S 1100002 p3) then (S 1100002 p3) else (S 1100002 p2))) → (((S 1100005 p2) ≤ (if (S 1100005 p2) ≤ ((S 1100005 p3) + 1) then ((S 1100005 p3) + 1) else (S 1100005 p2)) ∧ ((S 1100005 p3) + 1) ≤ (if (S 1100005 p2) ≤ ((S 1100005 p3) + 1) then ((S 1100005 p3) + 1) else (S 1100005 p2))) → (0 ≤ p2 ∧ p2 < 12000) ∧ (sv_R (S 11 p2) → (((¬ (S 11 p2) = (2 : Int)) → ((∀ g7 : sv_S, (((0 : Int) = 0 ∨ (0 : Int) = 1) ∧ ((0 : Int) = 1 → (S 11 p2) = 2) ∧ ((0 : Int) = 0 → (S 11 p2) = 7) ∧ 0 ≤ (g7 1046 0) ∧ (g7 1046 0) ≤ 600 ∧ 0 ≤ (g7 1047 0) ∧ (g7 1047 0) ≤ 1 ∧ 0 ≤ (g7 1053 0) ∧ 0 ≤ (g7 1066 0) ∧ (S 1046 0) ≤ (g7 1046 0) ∧ ((S 1047 0) = 1 → (g7 1047 0) = 1) ∧ sm_F1 (S 26) (g7 26) (S 1046 0) ∧ sm_F1 (S 27) (g7 27) (S 1046 0) ∧ sm_F1 (S 28) (g7 28) (S 1046 0) ∧ sm_F1 (S 29) (g7 29) (S 1046 0) ∧ sm_F1 (S 1100007) (g7 1100007) ((S 1046 0) + 1) ∧ sm_F1 (S 1100023) (g7 1100023) ((S 1046 0) + 1) ∧ sm_F1 (S 1100024) (g7 1100024) ((S 1046 0) + 1) ∧ sm_F1 (S 1100025) (g7 1100025) ((S 1046 0) + 1) ∧ sm_F1 (S 1100009) (g7 1100009) (S 1053 0) ∧ sm_F1 (S 1100027) (g7 1100027) (S 1053 0) ∧ sm_F1 (S 1100028) (g7 1100028) (S 1053 0) ∧ sm_F1 (S 1100026) (g7 1100026) (S 1053 0) ∧ sm_F1 (S 1100030) (g7 1100030) (S 1053 0) ∧ sm_F1 (S 31) (g7 31) (S 1053 0) ∧ (S 1053 0) ≤ (g7 1053 0) ∧ (g7 1066 0) = (S 1066 0) ∧ sm_F1 (S 39) (g7 39) (S 1066 0) ∧ ((S 1047 0) = 1 → (g7 1053 0) = (S 1053 0)) ∧ ((S 1047 0) = 0 → (g7 1053 0) ≤ (S 1053 0) + 3 * (600 - (S 1046 0)) + (if (S 1100002 p2) ≤ (S 1100002 p3) then (S 1100002 p3) else (S 1100002 p2))) ∧ ((g7 1047 0) = 0 → (S 1047 0) = 0 ∧ sm_KC (g7 26) (g7 27) (g7 28) (g7 29) (g7 1100007) (g7 1100023) (g7 1100024) (g7 1100025) (g7 31) (g7 1100009) (g7 1100027) (g7 1100028) (g7 1100026) (g7 1100030) (S 21) (S 32) (S 33) (g7 1046 0) (g7 1053 0) (S 1056 0) (S 1032 0) (S 1007 0) (g7 1100033 0) ∧ (g7 1100033 0) = (g7 1055 0) ∧ 0 ≤ (g7 1055 0) ∧ (g7 1055 0) ≤ (g7 1046 0) ∧ (S 1046 0) + (if (0 : Int) = 1 then (0 : Int) else 2) ≤ (g7 1046 0) ∧ sm_FC (g7 29) (S 1046 0) (g7 1046 0) (S 1056 0) ∧ (g7 1100007 (g7 1046 0)) = (S 1100007 (S 1046 0)) + (if (0 : Int) = 1 then (0 : Int) else 2) ∧ (g7 1100023 (g7 1046 0)) = (S 1100023 (S 1046 0)) ∧ (g7 1100024 (g7 1046 0)) = (S 1100024 (S 1046 0)) ∧ (g7 1100025 (g7 1046 0)) = (S 1100025 (S 1046 0)) ∧ (g7 1100007 (g7 1100023 (g7 1046 0))) = (S 1100007 (S 1100023 (S 1046 0))) ∧ (g7 1100007 (g7 1100025 (g7 1046 0))) = (S 1100007 (S 1100025 (S 1046 0))) ∧ sm_AP (g7 1100030) (S 1053 0) (g7 1053 0) ∧ sm_HB (g7 1100007) (S 1046 0) (g7 1046 0) (2 * (S 1100007 (S 1046 0)) + ((g7 1046 0) - (S 1046 0)) + 8 * (if (S 1100005 p2) ≤ ((S 1100005 p3) + 1) then ((S 1100005 p3) + 1) else (S 1100005 p2)) + 12) ∧ (g7 1053 0) ≤ (S 1053 0) + 3 * ((g7 1046 0) - (S 1046 0)) ∧ True)) → ((∀ g12 : sv_S, (0 ≤ (g12 1046 0) ∧ (g12 1046 0) ≤ 600 ∧ 0 ≤ (g12 1047 0) ∧ (g12 1047 0) ≤ 1 ∧ 0 ≤ (g12 1053 0) ∧ 0 ≤ (g12 1066 0) ∧ (S 1046 0) ≤ (g12 1046 0) ∧ ((S 1047 0) = 1 → (g12 1047 0) = 1) ∧ sm_F1 (S 26) (g12 26) (S 1046 0) ∧ sm_F1 (S 27) (g12 27) (S 1046 0) ∧ sm_F1 (S 28) (g12 28) (S 1046 0) ∧ sm_F1 (S 29) (g12 29) (S 1046 0) ∧ sm_F1 (S 1100007) (g12 1100007) ((S 1046 0) + 1) ∧ sm_F1 (S 1100023) (g12 1100023) ((S 1046 0) + 1) ∧ sm_F1 (S 1100024) (g12 1100024) ((S 1046 0) + 1) ∧ sm_F1 (S 1100025) (g12 1100025) ((S 1046 0) + 1) ∧ sm_F1 (S 1100009) (g12 1100009) (S 1053 0) ∧ sm_F1 (S 1100027) (g12 1100027) (S 1053 0) ∧ sm_F1 (S 1100028) (g12 1100028) (S 1053 0) ∧ sm_F1 (S 1100026) (g12 1100026) (S 1053 0) ∧ sm_F1 (S 1100030) (g12 1100030) (S 1053 0) ∧ sm_F1 (S 31) (g12 31) (S 1053 0) ∧ (S 1053 0) ≤ (g12 1053 0) ∧ (g12 1066 0) = (S 1066 0) ∧ sm_F1 (S 39) (g12 39) (S 1066 0) ∧ ((S 1047 0) = 1 → (g12 1053 0) = (S 1053 0)) ∧ ((S 1047 0) = 0 → (g12 1053 0) ≤ (S 1053 0) + 3 * (600 - (S 1046 0)) + (if (S 1100002 p2) ≤ (S 1100002 p3) then (S 1100002 p3) else (S 1100002 p2))) ∧ ((g12 1047 0) = 0 → (S 1047 0) = 0 ∧ sm_KC (g12 26) (g12 27) (g12 28) (g12 29) (g12 1100007) (g12 1100023) (g12 1100024) (g12 1100025) (g12 31) (g12 1100009) (g12 1100027) (g12 1100028) (g12 1100026) (g12 1100030) (S 21) (S 32) (S 33) (g12 1046 0) (g12 1053 0) (S 1056 0) (S 1032 0) (S 1007 0) (g12 1100033 0) ∧ (g12 1100033 0) = (g12 1055 0) ∧ 0 ≤ (g12 1055 0) ∧ (g12 1055 0) ≤ (g12 1046 0) ∧ (S 1046 0) + ((if (0 : Int) = 1 then (0 : Int) else 2) + (if p1 = -1 then (0 : Int) else 1)) ≤ (g12 1046 0) ∧ sm_FC (g12 29) (S 1046 0) (g12 1046 0) (S 1056 0) ∧ (g12 1100007 (g12 1046 0)) = (S 1100007 (S 1046 0)) + ((if (0 : Int) = 1 then (0 : Int) else 2) + (if p1 = -1 then (0 : Int) else 1)) ∧ (g12 1100023 (g12 1046 0)) = (S 1100023 (S 1046 0)) ∧ (g12 1100024 (g12 1046 0)) = (S 1100024 (S 1046 0)) ∧ (g12 1100025 (g12 1046 0)) = (S 1100025 (S 1046 0)) ∧ (g12 1100007 (g12 1100023 (g12 1046 0))) = (S 1100007 (S 1100023 (S 1046 0))) ∧ (g12 1100007 (g12 1100025 (g12 1046 0))) = (S 1100007 (S 1100025 (S 1046 0))) ∧ sm_AP (g12 1100030) (S 1053 0) (g12 1053 0) ∧ sm_HB (g12 1100007) (S 1046 0) (g12 1046 0) (2 * (S 1100007 (S 1046 0)) + ((g12 1046 0) - (S 1046 0)) + 8 * (if (S 1100005 p2) ≤ ((S 1100005 p3) + 1) then ((S 1100005 p3) + 1) else (S 1100005 p2)) + 12) ∧ (g12 1053 0) ≤ (S 1053 0) + 3 * ((g12 1046 0) - (S 1046 0)) ∧ True)) → ((0 ≤ (if (0 : Int) = 1 then (0 : Int) else 2) + (if p1 = -1 then (0 : Int) else 1) ∧ (if (0 : Int) = 1 then (0 : Int) else 2) + (if p1 = -1 then (0 : Int) else 1) ≤ 3) → ((∀ g18 : sv_S, (0 ≤ (g18 1046 0) ∧ (g18 1046 0) ≤ 600 ∧ 0 ≤ (g18 1047 0) ∧ (g18 1047 0) ≤ 1 ∧ 0 ≤ (g18 1053 0) ∧ 0 ≤ (g18 1066 0) ∧ (S 1046 0) ≤ (g18 1046 0) ∧ ((S 1047 0) = 1 → (g18 1047 0) = 1) ∧ sm_F1 (S 26) (g18 26) (S 1046 0) ∧ sm_F1 (S 27) (g18 27) (S 1046 0) ∧ sm_F1 (S 28) (g18 28) (S 1046 0) ∧ sm_F1 (S 29) (g18 29) (S 1046 0) ∧ sm_F1 (S 1100007) (g18 1100007) ((S 1046 0) + 1) ∧ sm_F1 (S 1100023) (g18 1100023) ((S 1046 0) + 1) ∧ sm_F1 (S 1100024) (g18 1100024) ((S 1046 0) + 1) ∧ sm_F1 (S 1100025) (g18 1100025) ((S 1046 0) + 1) ∧ sm_F1 (S 1100009) (g18 1100009) (S 1053 0) ∧ sm_F1 (S 1100027) (g18 1100027) (S 1053 0) ∧ sm_F1 (S 1100028) (g18 1100028) (S 1053 0) ∧ sm_F1 (S 1100026) (g18 1100026) (S 1053 0) ∧ sm_F1 (S 1100030) (g18 1100030) (S 1053 0) ∧ sm_F1 (S 31) (g18 31) (S 1053 0) ∧ (S 1053 0) ≤ (g18 1053 0) ∧ (g18 1066 0) = (S 1066 0) ∧ sm_F1 (S 39) (g18 39) (S 1066 0) ∧ ((S 1047 0) = 1 → (g18 1053 0) = (S 1053 0)) ∧ ((S 1047 0) = 0 → (g18 1053 0) ≤ (S 1053 0) + 3 * (600 - (S 1046 0)) + (if (S 1100002 p2) ≤ (S 1100002 p3) then (S 1100002 p3) else (S 1100002 p2))) ∧ ((g18 1047 0) = 0 → (S 1047 0) = 0 ∧ sm_KC (g18 26) (g18 27) (g18 28) (g18 29) (g18 1100007) (g18 1100023) (g18 1100024) (g18 1100025) (g18 31) (g18 1100009) (g18 1100027) (g18 1100028) (g18 1100026) (g18 1100030) (S 21) (S 32) (S 33) (g18 1046 0) (g18 1053 0) (S 1056 0) (S 1032 0) (S 1007 0) (g18 1100033 0) ∧ (g18 1100033 0) = (g18 1055 0) ∧ 0 ≤ (g18 1055 0) ∧ (g18 1055 0) ≤ (g18 1046 0) ∧ (S 1046 0) + ((if (0 : Int) = 1 then (0 : Int) else 2) + 1) ≤ (g18 1046 0) ∧ sm_FC (g18 29) (S 1046 0) (g18 1046 0) (S 1056 0) ∧ (g18 1100007 (g18 1046 0)) = (S 1100007 (S 1046 0)) + ((if (0 : Int) = 1 then (0 : Int) else 2) + 1) ∧ (g18 1100023 (g18 1046 0)) = (S 1100023 (S 1046 0)) ∧ (g18 1100024 (g18 1046 0)) = (S 1100024 (S 1046 0)) ∧ (g18 1100025 (g18 1046 0)) = (S 1100025 (S 1046 0)) ∧ (g18 1100007 (g18 1100023 (g18 1046 0))) = (S 1100007 (S 1100023 (S 1046 0))) ∧ (g18 1100007 (g18 1100025 (g18 1046 0))) = (S 1100007 (S 1100025 (S 1046 0))) ∧ sm_AP (g18 1100030) (S 1053 0) (g18 1053 0) ∧ sm_HB (g18 1100007) (S 1046 0) (g18 1046 0) (2 * (S 1100007 (S 1046 0)) + ((g18 1046 0) - (S 1046 0)) + 8 * (if (S 1100005 p2) ≤ ((S 1100005 p3) + 1) then ((S 1100005 p3) + 1) else (S 1100005 p2)) + 11) ∧ (g18 1053 0) ≤ (S 1053 0) + 3 * ((g18 1046 0) - (S 1046 0)) ∧ True)) → ((((0 : Int) = (0 : Int)) → (0 ≤ (g18 1046 0) ∧ (g18 1046 0) ≤ 600 ∧ 0 ≤ (g18 1047 0) ∧ (g18 1047 0) ≤ 1 ∧ ((g18 1047 0) = 0 → sm_KC (g18 26) (g18 27) (g18 28) (g18 29) (g18 1100007) (g18 1100023) (g18 1100024) (g18 1100025) (g18 31) (g18 1100009) (g18 1100027) (g18 1100028) (g18 1100026) (g18 1100030) (S 21) (S 32) (S 33) (g18 1046 0) (g18 1053 0) (S 1056 0) (S 1032 0) (S 1007 0) (g18 1100033 0) ∧ 0 ≤ (11 : Int) ∧ (11 : Int) ≤ 30 ∧ sm_ci (11 : Int) ((0 : Int)) ((0 : Int)) (g18 1100007 (g18 1046 0)) (g18 1100023 (g18 1046 0)) (g18 1100024 (g18 1046 0)) (g18 1100025 (g18 1046 0)) (g18 1100007 (g18 1100023 (g18 1046 0))) (g18 1100007 (g18 1100025 (g18 1046 0))) (g18 1100023 (g18 1100023 (g18 1046 0))) (g18 1100025 (g18 1100025 (g18 1046 0))) (g18 1046 0) (g18 1100033 0) (S 1032 0) (S 1007 0) (S 21 (0 : Int)) (S 1056 0) ((g18 1100007 (g18 1046 0)) + sm_dl (11 : Int) ((0 : Int))) (sm_nt (11 : Int) (g18 1046 0) (g18 1100023 (g18 1046 0)) (g18 1100023 (g18 1100023 (g18 1046 0)))) (sm_nl (11 : Int) (g18 1046 0) (g18 1100007 (g18 1046 0)) (g18 1100025 (g18 1046 0)) (g18 1100007 (g18 1100025 (g18 1046 0))) (g18 1100025 (g18 1100025 (g18 1046 0)))) (g18 1100009 (0 : Int)) (g18 1100027 (0 : Int)) (g18 1100028 (0 : Int)) ∧ ((21 ≤ (11 : Int) ∧ (11 : Int) ≤ 24) ∨ (11 : Int) = 27 ∨ (11 : Int) = 30 → 0 ≤ (0 : Int) ∧ (0 : Int) < (g18 1053 0) ∧ (g18 1100026 (0 : Int)) = (S 1056 0)) ∧ ((11 : Int) = 1 ∨ (11 : Int) = 2 → sm_vv (S 21) (S 32) (S 33) (S 1056 0) (0 : Int) (0 : Int)))) ∧ (1 + 1 ≤ ((if (S 1100002 p2) ≤ (S 1100002 p3) then (S 1100002 p3) else (S 1100002 p2)) + (600 - (S 1046 0)) + 9)) ∧ (∀ g25 : sv_S, (0 ≤ (g25 1047 0) ∧ (g25 1047 0) ≤ 1 ∧ 1 ≤ (g25 1046 0) ∧ (g18 1046 0) ≤ (g25 1046 0) ∧ (g25 1046 0) ≤ (g18 1046 0) + 1 ∧ (g25 1046 0) ≤ 600 ∧ ((g18 1047 0) = 1 → (g25 1047 0) = 1) ∧ ((g25 1047 0) = 1 → (g18 1047 0) = 1 ∨ (g18 1046 0) = 600) ∧ sm_F1 (g18 26) (g25 26) (g18 1046 0) ∧ sm_F1 (g18 27) (g25 27) (g18 1046 0) ∧ sm_F1 (g18 28) (g25 28) (g18 1046 0) ∧ sm_F1 (g18 29) (g25 29) (g18 1046 0) ∧ sm_F1 (g18 1100007) (g25 1100007) ((g18 1046 0) + 1) ∧ sm_F1 (g18 1100023) (g25 1100023) ((g18 1046 0) + 1) ∧ sm_F1 (g18 1100024) (g25 1100024) ((g18 1046 0) + 1) ∧ sm_F1 (g18 1100025) (g25 1100025) ((g18 1046 0) + 1) ∧ ((g25 1047 0) = 0 → (g18 1047 0) = 0 ∧ (g25 1046 0) = (g18 1046 0) + 1 ∧ sm_KC (g25 26) (g25 27) (g25 28) (g25 29) (g25 1100007) (g25 1100023) (g25 1100024) (g25 1100025) (g18 31) (g18 1100009) (g18 1100027) (g18 1100028) (g18 1100026) (g18 1100030) (S 21) (S 32) (S 33) (g25 1046 0) (g18 1053 0) (S 1056 0) (S 1032 0) (S 1007 0) (g18 1100033 0) ∧ sm_MB (g18 31) (g18 1100030) (g18 1053 0) (g25 1046 0) ∧ (g25 26 (g18 1046 0)) = (11 : Int) ∧ (g25 29 (g18 1046 0)) = (S 1056 0) ∧ (g25 1100007 (g25 1046 0)) = ((g18 1100007 (g18 1046 0)) + sm_dl (11 : Int) ((0 : Int))) ∧ (g25 1100023 (g25 1046 0)) = (sm_nt (11 : Int) (g18 1046 0) (g18 1100023 (g18 1046 0)) (g18 1100023 (g18 1100023 (g18 1046 0)))) ∧ (g25 1100024 (g25 1046 0)) = (sm_nd (11 : Int) (g18 1100024 (g18 1046 0))) ∧ (g25 1100025 (g25 1046 0)) = (sm_nl (11 : Int) (g18 1046 0) (g18 1100007 (g18 1046 0)) (g18 1100025 (g18 1046 0)) (g18 1100007 (g18 1100025 (g18 1046 0))) (g18 1100025 (g18 1100025 (g18 1046 0)))) ∧ (g25 1100007 (g25 1100023 (g25 1046 0))) = sm_nt (11 : Int) (g18 1100007 (g18 1046 0)) (g18 1100007 (g18 1100023 (g18 1046 0))) (g18 1100007 (g18 1100023 (g18 1100023 (g18 1046 0)))) ∧ ((11 : Int) = 29 → (g25 1100007 (g25 1100025 (g25 1046 0))) = (g18 1100007 (g18 1046 0))) ∧ ((11 : Int) = 17 → 0 ≤ (g18 1100025 (g18 1046 0)) → (g18 1100007 (g18 1100025 (g18 1046 0))) = (g18 1100007 (g18 1046 0)) → (g25 1100007 (g25 1100025 (g25 1046 0))) = (g18 1100007 (g18 1100025 (g18 1100025 (g18 1046 0))))) ∧ (¬ (11 : Int) = 29 → ((11 : Int) = 17 → 0 ≤ (g18 1100025 (g18 1046 0)) → (g18 1100007 (g18 1100025 (g18 1046 0))) < (g18 1100007 (g18 1046 0))) → (g25 1100007 (g25 1100025 (g25 1046 0))) = (g18 1100007 (g18 1100025 (g18 1046 0)))))) → (0 ≤ (g25 1046 0) ∧ (g25 1046 0) ≤ 600 ∧ 0 ≤ (g25 1047 0) ∧ (g25 1047 0) ≤ 1 ∧ 0 ≤ (g18 1053 0) ∧ 0 ≤ (g18 1066 0) ∧ (S 1046 0) ≤ (g25 1046 0) ∧ ((S 1047 0) = 1 → (g25 1047 0) = 1) ∧ sm_F1 (S 26) (g25 26) (S 1046 0) ∧ sm_F1 (S 27) (g25 27) (S 1046 0) ∧ sm_F1 (S 28) (g25 28) (S 1046 0) ∧ sm_F1 (S 29) (g25 29) (S 1046 0) ∧ sm_F1 (S 1100007) (g25 1100007) ((S 1046 0) + 1) ∧ sm_F1 (S 1100023) (g25 1100023) ((S 1046 0) + 1) ∧ sm_F1 (S 1100024) (g25 1100024) ((S 1046 0) + 1) ∧ sm_F1 (S 1100025) (g25 1100025) ((S 1046 0) + 1) ∧ sm_F1 (S 1100009) (g18 1100009) (S 1053 0) ∧ sm_F1 (S 1100027) (g18 1100027) (S 1053 0) ∧ sm_F1 (S 1100028) (g18 1100028) (S 1053 0) ∧ sm_F1 (S 1100026) (g18 1100026) (S 1053 0) ∧ sm_F1 (S 1100030) (g18 1100030) (S 1053 0) ∧ sm_F1 (S 31) (g18 31) (S 1053 0) ∧ (S 1053 0) ≤ (g18 1053 0) ∧ (g18 1066 0) = (S 1066 0) ∧ sm_F1 (S 39) (g18 39) (S 1066 0) ∧ ((S 1047 0) = 1 → (g18 1053 0) = (S 1053 0)) ∧ ((S 1047 0) = 0 → (g18 1053 0) ≤ (S 1053 0) + 3 * (600 - (S 1046 0)) + (if (S 1100002 p2) ≤ (S 1100002 p3) then (S 1100002 p3) else (S 1100002 p2))) ∧ ((g25 1047 0) = 0 → (S 1047 0) = 0 ∧ sm_KC (g25 26) (g25 27) (g25 28) (g25 29) (g25 1100007) (g25 1100023) (g25 1100024) (g25 1100025) (g18 31) (g18 1100009) (g18 1100027) (g18 1100028) (g18 1100026) (g18 1100030) (S 21) (S 32) (S 33) (g25 1046 0) (g18 1053 0) (S 1056 0) (S 1032 0) (S 1007 0) (g18 1100033 0) ∧ (g18 1100033 0) = (g18 1055 0) ∧ 0 ≤ (g18 1055 0) ∧ (g18 1055 0) ≤ (g25 1046 0) ∧ (S 1046 0) + 1 ≤ (g25 1046 0) ∧ sm_FC (g25 29) (S 1046 0) (g25 1046 0) (S 1056 0) ∧ (g25 1100007 (g25 1046 0)) = (S 1100007 (S 1046 0)) + 1 ∧ (g25 1100023 (g25 1046 0)) = (S 1100023 (S 1046 0)) ∧ (g25 1100024 (g25 1046 0)) = (S 1100024 (S 1046 0)) ∧ (g25 1100025 (g25 1046 0)) = (S 1100025 (S 1046 0)) ∧ (g25 1100007 (g25 1100023 (g25 1046 0))) = (S 1100007 (S 1100023 (S 1046 0))) ∧ (g25 1100007 (g25 1100025 (g25 1046 0))) = (S 1100007 (S 1100025 (S 1046 0))) ∧ sm_AP (g18 1100030) (S 1053 0) (g18 1053 0) ∧ sm_HB (g25 1100007) (S 1046 0) (g25 1046 0) (2 * (S 1100007 (S 1046 0)) + ((g25 1046 0) - (S 1046 0)) + 8 * (if (S 1100005 p2) ≤ ((S 1100005 p3) + 1) then ((S 1100005 p3) + 1) else (S 1100005 p2)) + 10) ∧ (g18 1053 0) ≤ (S 1053 0) + 3 * ((g25 1046 0) - (S 1046 0)) ∧ True)))) ∧ ((¬ ((0 : Int) = (0 : Int))) → ((sm_WF (S 11) (S 12) (S 13) (S 1100001) (S 1100002) (S 1100005) (S 1100003) (S 1100004) (S 1024 0) (S 1007 0) (S 1009 0) (sm_fn (S 1032 0) (S 21) (S 1056 0)) → 0 ≤ p2 → p2 < (S 1024 0) → (S 1100001 p2) = 1 → (S 11 p2) = 2 → sm_nm (S 1007 0) (S 1009 0) ((S 12 (5 * (p2))))) → ((sm_nm (S 1007 0) (S 1009 0) ((S 12 (5 * p2))) → (S 1009 0) = 0 → 0 ≤ (S 12 (5 * p2)) ∧ (S 12 (5 * p2)) < (S 1007 0)) → (0 ≤ p2 ∧ p2 < 12000 ∧ 0 ≤ (0 : Int) ∧ (0 : Int) ≤ 4) ∧ (0 + 1 ≤ ((if (S 1100002 p2) ≤ (S 1100002 p3) then (S 1100002 p3) else (S 1100002 p2)) + (600 - (S 1046 0)) + 9)) ∧ (0 ≤ (g18 1046 0) ∧ (g18 1046 0) ≤ 600 ∧ 0 ≤ (g18 1047 0) ∧ (g18 1047 0) ≤ 1 ∧ 0 ≤ (S 1056 0) ∧ (S 1056 0) < (S 1032 0) ∧ (S 1032 0) ≤ 11 ∧ sm_VB (S 33) (S 21) (S 1032 0) ∧ (((2 : Int) = 1 ∧ ((4 : Int) = 3 ∨ (4 : Int) = 5)) ∨ ((2 : Int) = 2 ∧ (4 : Int) = 4)) ∧ ((g18 1047 0) = 0 → sm_KC (g18 26) (g18 27) (g18 28) (g18 29) (g18 1100007) (g18 1100023) (g18 1100024) (g18 1100025) (g18 31) (g18 1100009) (g18 1100027) (g18 1100028) (g18 1100026) (g18 1100030) (S 21) (S 32) (S 33) (g18 1046 0) (g18 1053 0) (S 1056 0) (S 1032 0) (S 1007 0) (g18 1100033 0) ∧ 0 ≤ ((S 12 (5 * p2 + (0 : Int)))) ∧ ((S 12 (5 * p2 + (0 : Int)))) < (S 1007 0) ∧ ((2 : Int) = 1 → (0 ≤ (g18 1100023 (g18 1046 0)) → (g18 1100007 (g18 1100023 (g18 1046 0))) ≤ (g18 1100007 (g18 1046 0))) ∧ (0 ≤ (g18 1100025 (g18 1046 0)) → (g18 1100007 (g18 1100025 (g18 1046 0))) ≤ (g18 1100007 (g18 1046 0)))) ∧ ((2 : Int) = 2 → 1 ≤ (g18 1100007 (g18 1046 0)) ∧ (0 ≤ (g18 1100023 (g18 1046 0)) → (g18 1100007 (g18 1100023 (g18 1046 0))) ≤ (g18 1100007 (g18 1046 0)) - 1) ∧ (0 ≤ (g18 1100025 (g18 1046 0)) → (g18 1100007 (g18 1100025 (g18 1046 0))) ≤ (g18 1100007 (g18 1046 0)) - 1)))) ∧ (2 + 1 ≤ ((if (S 1100002 p2) ≤ (S 1100002 p3) then (S 1100002 p3) else (S 1100002 p2)) + (600 - (S 1046 0)) + 9)) ∧ (∀ g36 : sv_S, (0 ≤ (g36 1047 0) ∧ (g36 1047 0) ≤ 1 ∧ 1 ≤ (g36 1046 0) ∧ (g18 1046 0) ≤ (g36 1046 0) ∧ (g36 1046 0) ≤ (g18 1046 0) + 1 ∧ (g36 1046 0) ≤ 600 ∧ ((g18 1047 0) = 1 → (g36 1047 0) = 1) ∧ ((g36 1047 0) = 1 → (g18 1047 0) = 1 ∨ (g18 1046 0) = 600) ∧ sm_F1 (g18 26) (g36 26) (g18 1046 0) ∧ sm_F1 (g18 27) (g36 27) (g18 1046 0) ∧ sm_F1 (g18 28) (g36 28) (g18 1046 0) ∧ sm_F1 (g18 29) (g36 29) (g18 1046 0) ∧ sm_F1 (g18 1100007) (g36 1100007) ((g18 1046 0) + 1) ∧ sm_F1 (g18 1100023) (g36 1100023) ((g18 1046 0) + 1) ∧ sm_F1 (g18 1100024) (g36 1100024) ((g18 1046 0) + 1) ∧ sm_F1 (g18 1100025) (g36 1100025) ((g18 1046 0) + 1) ∧ ((g36 1047 0) = 0 → (g18 1047 0) = 0 ∧ (g36 1046 0) = (g18 1046 0) + 1 ∧ sm_KC (g36 26) (g36 27) (g36 28) (g36 29) (g36 1100007) (g36 1100023) (g36 1100024) (g36 1100025) (g18 31) (g18 1100009) (g18 1100027) (g18 1100028) (g18 1100026) (g18 1100030) (S 21) (S 32) (S 33) (g36 1046 0) (g18 1053 0) (S 1056 0) (S 1032 0) (S 1007 0) (g18 1100033 0) ∧ sm_MB (g18 31) (g18 1100030) (g18 1053 0) (g36 1046 0) ∧ ((g36 26 (g18 1046 0)) = (2 : Int) ∨ (g36 26 (g18 1046 0)) = (4 : Int)) ∧ (g36 29 (g18 1046 0)) = (S 1056 0) ∧ (g36 1100007 (g36 1046 0)) = (g18 1100007 (g18 1046 0)) + (if (2 : Int) = 1 then 1 else 0) ∧ (g36 1100023 (g36 1046 0)) = (g18 1100023 (g18 1046 0)) ∧ (g36 1100024 (g36 1046 0)) = (g18 1100024 (g18 1046 0)) ∧ (g36 1100025 (g36 1046 0)) = (g18 1100025 (g18 1046 0)) ∧ (g36 1100007 (g36 1100023 (g36 1046 0))) = (g18 1100007 (g18 1100023 (g18 1046 0))) ∧ (g36 1100007 (g36 1100025 (g36 1046 0))) = (g18 1100007 (g18 1100025 (g18 1046 0))))) → (0 ≤ (g36 1046 0) ∧ (g36 1046 0) ≤ 600 ∧ 0 ≤ (g36 1047 0) ∧ (g36 1047 0) ≤ 1 ∧ 0 ≤ (g18 1053 0) ∧ 0 ≤ (g18 1066 0) ∧ (S 1046 0) ≤ (g36 1046 0) ∧ ((S 1047 0) = 1 → (g36 1047 0) = 1) ∧ sm_F1 (S 26) (g36 26) (S 1046 0) ∧ sm_F1 (S 27) (g36 27) (S 1046 0) ∧ sm_F1 (S 28) (g36 28) (S 1046 0) ∧ sm_F1 (S 29) (g36 29) (S 1046 0) ∧ sm_F1 (S 1100007) (g36 1100007) ((S 1046 0) + 1) ∧ sm_F1 (S 1100023) (g36 1100023) ((S 1046 0) + 1) ∧ sm_F1 (S 1100024) (g36 1100024) ((S 1046 0) + 1) ∧ sm_F1 (S 1100025) (g36 1100025) ((S 1046 0) + 1) ∧ sm_F1 (S 1100009) (g18 1100009) (S 1053 0) ∧ sm_F1 (S 1100027) (g18 1100027) (S 1053 0) ∧ sm_F1 (S 1100028) (g18 1100028) (S 1053 0) ∧ sm_F1 (S 1100026) (g18 1100026) (S 1053 0) ∧ sm_F1 (S 1100030) (g18 1100030) (S 1053 0) ∧ sm_F1 (S 31) (g18 31) (S 1053 0) ∧ (S 1053 0) ≤ (g18 1053 0) ∧ (g18 1066 0) = (S 1066 0) ∧ sm_F1 (S 39) (g18 39) (S 1066 0) ∧ ((S 1047 0) = 1 → (g18 1053 0) = (S 1053 0)) ∧ ((S 1047 0) = 0 → (g18 1053 0) ≤ (S 1053 0) + 3 * (600 - (S 1046 0)) + (if (S 1100002 p2) ≤ (S 1100002 p3) then (S 1100002 p3) else (S 1100002 p2))) ∧ ((g36 1047 0) = 0 → (S 1047 0) = 0 ∧ sm_KC (g36 26) (g36 27) (g36 28) (g36 29) (g36 1100007) (g36 1100023) (g36 1100024) (g36 1100025) (g18 31) (g18 1100009) (g18 1100027) (g18 1100028) (g18 1100026) (g18 1100030) (S 21) (S 32) (S 33) (g36 1046 0) (g18 1053 0) (S 1056 0) (S 1032 0) (S 1007 0) (g18 1100033 0) ∧ (g18 1100033 0) = (g18 1055 0) ∧ 0 ≤ (g18 1055 0) ∧ (g18 1055 0) ≤ (g36 1046 0) ∧ (S 1046 0) + 1 ≤ (g36 1046 0) ∧ sm_FC (g36 29) (S 1046 0) (g36 1046 0) (S 1056 0) ∧ (g36 1100007 (g36 1046 0)) = (S 1100007 (S 1046 0)) + 1 ∧ (g36 1100023 (g36 1046 0)) = (S 1100023 (S 1046 0)) ∧ (g36 1100024 (g36 1046 0)) = (S 1100024 (S 1046 0)) ∧ (g36 1100025 (g36 1046 0)) = (S 1100025 (S 1046 0)) ∧ (g36 1100007 (g36 1100023 (g36 1046 0))) = (S 1100007 (S 1100023 (S 1046 0))) ∧ (g36 1100007 (g36 1100025 (g36 1046 0))) = (S 1100007 (S 1100025 (S 1046 0))) ∧ sm_AP (g18 1100030) (S 1053 0) (g18 1053 0) ∧ sm_HB (g36 1100007) (S 1046 0) (g36 1046 0) (2 * (S 1100007 (S 1046 0)) + ((g36 1046 0) - (S 1046 0)) + 8 * (if (S 1100005 p2) ≤ ((S 1100005 p3) + 1) then ((S 1100005 p3) + 1) else (S 1100005 p2)) + 10) ∧ (g18 1053 0) ≤ (S 1053 0) + 3 * ((g36 1046 0) - (S 1046 0)) ∧ True)))))))) ∧ ((0 ≤ (if (0 : Int) = 1 then (0 : Int) else 2) + (if p1 = -1 then (0 : Int) else 1) ∧ (if (0 : Int) = 1 then (0 : Int) else 2) + (if p1 = -1 then (0 : Int) else 1) ≤ 3) → (sm_WF (S 11) (S 12) (S 13) (S 1100001) (S 1100002) (S 1100005) (S 1100003) (S 1100004) (S 1024 0) (S 1007 0) (S 1009 0) (sm_fn (S 1032 0) (S 21) (S 1056 0)) ∧ (S 1009 0) = 0 ∧ 0 ≤ (S 1007 0) ∧ (S 1007 0) ≤ 90 ∧ 0 ≤ (S 1024 0) ∧ (S 1024 0) ≤ 12000 ∧ 1 ≤ (S 1032 0) ∧ (S 1032 0) ≤ 11 ∧ 0 ≤ (S 1056 0) ∧ (S 1056 0) < (S 1032 0) ∧ sm_VB (S 33) (S 21) (S 1032 0) ∧ 0 ≤ (g12 1046 0) ∧ (g12 1046 0) ≤ 600 ∧ 0 ≤ (g12 1047 0) ∧ (g12 1047 0) ≤ 1 ∧ 0 ≤ (g12 1053 0) ∧ 0 ≤ (g12 1066 0) ∧ 0 ≤ p3 ∧ p3 < (S 1024 0) ∧ (S 1100001 p3) = 1 ∧ sm_LF (g12 39) (S 1100002) (g12 1066 0) (S 1024 0) (12001 * (S 1100002 p3) + p3) ∧ ((g12 1047 0) = 0 → sm_KC (g12 26) (g12 27) (g12 28) (g12 29) (g12 1100007) (g12 1100023) (g12 1100024) (g12 1100025) (g12 31) (g12 1100009) (g12 1100027) (g12 1100028) (g12 1100026) (g12 1100030) (S 21) (S 32) (S 33) (g12 1046 0) (g12 1053 0) (S 1056 0) (S 1032 0) (S 1007 0) (g12 1100033 0) ∧ (g12 1100033 0) = (g12 1055 0) ∧ 0 ≤ (g12 1055 0) ∧ (g12 1055 0) ≤ (g12 1046 0) ∧ (0 ≤ (g12 1100023 (g12 1046 0)) → (g12 1100007 (g12 1100023 (g12 1046 0))) ≤ (g12 1100007 (g12 1046 0))) ∧ (0 ≤ (g12 1100025 (g12 1046 0)) → (g12 1100007 (g12 1100025 (g12 1046 0))) ≤ (g12 1100007 (g12 1046 0))) ∧ (g12 1100007 (g12 1046 0)) ≤ (g12 1046 0) ∧ (g12 1053 0) + 3 * (600 - (g12 1046 0)) + (S 1100002 p3) ≤ 8000)) ∧ (0 ≤ ((if (g12 1047 0) = 0 then (S 1100002 p3) + (600 - (g12 1046 0)) + 8 else 4)) ∧ ((if (g12 1047 0) = 0 then (S 1100002 p3) + (600 - (g12 1046 0)) + 8 else 4)) < d) ∧ (0 ≤ ((if (g12 1047 0) = 0 then (S 1100002 p3) + (600 - (g12 1046 0)) + 8 else 4)) ∧ ((if (g12 1047 0) = 0 then (S 1100002 p3) + (600 - (g12 1046 0)) + 8 else 4)) + 1 ≤ ((if (S 1100002 p2) ≤ (S 1100002 p3) then (S 1100002 p3) else (S 1100002 p2)) + (600 - (S 1046 0)) + 9)) ∧ (∀ g46 : sv_S, (0 ≤ (g46 1046 0) ∧ (g46 1046 0) ≤ 600 ∧ 0 ≤ (g46 1047 0) ∧ (g46 1047 0) ≤ 1 ∧ 0 ≤ (g46 1053 0) ∧ 0 ≤ (g46 1066 0) ∧ (g12 1046 0) ≤ (g46 1046 0) ∧ ((g12 1047 0) = 1 → (g46 1047 0) = 1) ∧ sm_F1 (g12 26) (g46 26) (g12 1046 0) ∧ sm_F1 (g12 27) (g46 27) (g12 1046 0) ∧ sm_F1 (g12 28) (g46 28) (g12 1046 0) ∧ sm_F1 (g12 29) (g46 29) (g12 1046 0) ∧ sm_F1 (g12 1100007) (g46 1100007) ((g12 1046 0) + 1) ∧ sm_F1 (g12 1100023) (g46 1100023) ((g12 1046 0) + 1) ∧ sm_F1 (g12 1100024) (g46 1100024) ((g12 1046 0) + 1) ∧ sm_F1 (g12 1100025) (g46 1100025) ((g12 1046 0) + 1) ∧ sm_F1 (g12 1100009) (g46 1100009) (g12 1053 0) ∧ sm_F1 (g12 1100027) (g46 1100027) (g12 1053 0) ∧ sm_F1 (g12 1100028) (g46 1100028) (g12 1053 0) ∧ sm_F1 (g12 1100026) (g46 1100026) (g12 1053 0) ∧ sm_F1 (g12 1100030) (g46 1100030) (g12 1053 0) ∧ sm_F1 (g12 31) (g46 31) (g12 1053 0) ∧ (g12 1053 0) ≤ (g46 1053 0) ∧ (g46 1066 0) = (g12 1066 0) ∧ sm_F1 (g12 39) (g46 39) (g12 1066 0) ∧ ((g12 1047 0) = 1 → (g46 1053 0) = (g12 1053 0)) ∧ ((g12 1047 0) = 0 → (g46 1053 0) ≤ (g12 1053 0) + 3 * (600 - (g12 1046 0)) + (S 1100002 p3)) ∧ ((g46 1047 0) = 0 → (g12 1047 0) = 0 ∧ sm_KC (g46 26) (g46 27) (g46 28) (g46 29) (g46 1100007) (g46 1100023) (g46 1100024) (g46 1100025) (g46 31) (g46 1100009) (g46 1100027) (g46 1100028) (g46 1100026) (g46 1100030) (S 21) (S 32) (S 33) (g46 1046 0) (g46 1053 0) (S 1056 0) (S 1032 0) (S 1007 0) (g46 1100033 0) ∧ (g46 1100033 0) = (g46 1055 0) ∧ 0 ≤ (g46 1055 0) ∧ (g46 1055 0) ≤ (g46 1046 0) ∧ (g12 1046 0) + 1 ≤ (g46 1046 0) ∧ sm_FC (g46 29) (g12 1046 0) (g46 1046 0) (S 1056 0) ∧ (g46 1100007 (g46 1046 0)) = (g12 1100007 (g12 1046 0)) + 1 ∧ (g46 1100023 (g46 1046 0)) = (g12 1100023 (g12 1046 0)) ∧ (g46 1100024 (g46 1046 0)) = (g12 1100024 (g12 1046 0)) ∧ (g46 1100025 (g46 1046 0)) = (g12 1100025 (g12 1046 0)) ∧ (g46 1100007 (g46 1100023 (g46 1046 0))) = (g12 1100007 (g12 1100023 (g12 1046 0))) ∧ (g46 1100007 (g46 1100025 (g46 1046 0))) = (g12 1100007 (g12 1100025 (g12 1046 0))) ∧ sm_AP (g46 1100030) (g12 1053 0) (g46 1053 0) ∧ sm_HB (g46 1100007) (g12 1046 0) (g46 1046 0) (2 * (g12 1100007 (g12 1046 0)) + ((g46 1046 0) - (g12 1046 0)) + 8 * (S 1100005 p3) + 10) ∧ (g46 1053 0) ≤ (g12 1053 0) + 3 * ((g46 1046 0) - (g12 1046 0)) ∧ True)) → (((p1 = (-1 : Int)) → (0 ≤ (g46 1046 0) ∧ (g46 1046 0) ≤ 600 ∧ 0 ≤ (g46 1047 0) ∧ (g46 1047 0) ≤ 1 ∧ 0 ≤ (g46 1053 0) ∧ 0 ≤ (g46 1066 0) ∧ (S 1046 0) ≤ (g46 1046 0) ∧ ((S 1047 0) = 1 → (g46 1047 0) = 1) ∧ sm_F1 (S 26) (g46 26) (S 1046 0) ∧ sm_F1 (S 27) (g46 27) (S 1046 0) ∧ sm_F1 (S 28) (g46 28) (S 1046 0) ∧ sm_F1 (S 29) (g46 29) (S 1046 0) ∧ sm_F1 (S 1100007) (g46 1100007) ((S 1046 0) + 1) ∧ sm_F1 (S 1100023) (g46 1100023) ((S 1046 0) + 1) ∧ sm_F1 (S 1100024) (g46 1100024) ((S 1046 0) + 1) ∧ sm_F1 (S 1100025) (g46 1100025) ((S 1046 0) + 1) ∧ sm_F1 (S 1100009) (g46 1100009) (S 1053 0) ∧ sm_F1 (S 1100027) (g46 1100027) (S 1053 0) ∧ sm_F1 (S 1100028) (g46 1100028) (S 1053 0) ∧ sm_F1 (S 1100026) (g46 1100026) (S 1053 0) ∧ sm_F1 (S 1100030) (g46 1100030) (S 1053 0) ∧ sm_F1 (S 31) (g46 31) (S 1053 0) ∧ (S 1053 0) ≤ (g46 1053 0) ∧ (g46 1066 0) = (S 1066 0) ∧ sm_F1 (S 39) (g46 39) (S 1066 0) ∧ ((S 1047 0) = 1 → (g46 1053 0) = (S 1053 0)) ∧ ((S 1047 0) = 0 → (g46 1053 0) ≤ (S 1053 0) + 3 * (600 - (S 1046 0)) + (if (S 1100002 p2) ≤ (S 1100002 p3) then (S 1100002 p3) else (S 1100002 p2))) ∧ ((g46 1047 0) = 0 → (S 1047 0) = 0 ∧ sm_KC (g46 26) (g46 27) (g46 28) (g46 29) (g46 1100007) (g46 1100023) (g46 1100024) (g46 1100025) (g46 31) (g46 1100009) (g46 1100027) (g46 1100028) (g46 1100026) (g46 1100030) (S 21) (S 32) (S 33) (g46 1046 0) (g46 1053 0) (S 1056 0) (S 1032 0) (S 1007 0) (g46 1100033 0) ∧ (g46 1100033 0) = (g46 1055 0) ∧ 0 ≤ (g46 1055 0) ∧ (g46 1055 0) ≤ (g46 1046 0) ∧ (S 1046 0) + ((if (0 : Int) = 1 then (0 : Int) else 2) + 1) ≤ (g46 1046 0) ∧ sm_FC (g46 29) (S 1046 0) (g46 1046 0) (S 1056 0) ∧ (g46 1100007 (g46 1046 0)) = (S 1100007 (S 1046 0)) + ((if (0 : Int) = 1 then (0 : Int) else 2) + 1) ∧ (g46 1100023 (g46 1046 0)) = (S 1100023 (S 1046 0)) ∧ (g46 1100024 (g46 1046 0)) = (S 1100024 (S 1046 0)) ∧ (g46 1100025 (g46 1046 0)) = (S 1100025 (S 1046 0)) ∧ (g46 1100007 (g46 1100023 (g46 1046 0))) = (S 1100007 (S 1100023 (S 1046 0))) ∧ (g46 1100007 (g46 1100025 (g46 1046 0))) = (S 1100007 (S 1100025 (S 1046 0))) ∧ sm_AP (g46 1100030) (S 1053 0) (g46 1053 0) ∧ sm_HB (g46 1100007) (S 1046 0) (g46 1046 0) (2 * (S 1100007 (S 1046 0)) + ((g46 1046 0) - (S 1046 0)) + 8 * (if (S 1100005 p2) ≤ ((S 1100005 p3) + 1) then ((S 1100005 p3) + 1) else (S 1100005 p2)) + 11) ∧ (g46 1053 0) ≤ (S 1053 0) + 3 * ((g46 1046 0) - (S 1046 0)) ∧ True))) ∧ ((¬ (p1 = (-1 : Int))) → (0 ≤ (g46 1046 0) ∧ (g46 1046 0) ≤ 600 ∧ 0 ≤ (g46 1047 0) ∧ (g46 1047 0) ≤ 1 ∧ ((g46 1047 0) = 0 → sm_KC (g46 26) (g46 27) (g46 28) (g46 29) (g46 1100007) (g46 1100023) (g46 1100024) (g46 1100025) (g46 31) (g46 1100009) (g46 1100027) (g46 1100028) (g46 1100026) (g46 1100030) (S 21) (S 32) (S 33) (g46 1046 0) (g46 1053 0) (S 1056 0) (S 1032 0) (S 1007 0) (g46 1100033 0) ∧ 0 ≤ (14 : Int) ∧ (14 : Int) ≤ 30 ∧ sm_ci (14 : Int) (p1) ((0 : Int)) (g46 1100007 (g46 1046 0)) (g46 1100023 (g46 1046 0)) (g46 1100024 (g46 1046 0)) (g46 1100025 (g46 1046 0)) (g46 1100007 (g46 1100023 (g46 1046 0))) (g46 1100007 (g46 1100025 (g46 1046 0))) (g46 1100023 (g46 1100023 (g46 1046 0))) (g46 1100025 (g46 1100025 (g46 1046 0))) (g46 1046 0) (g46 1100033 0) (S 1032 0) (S 1007 0) (S 21 p1) (S 1056 0) ((g46 1100007 (g46 1046 0)) + sm_dl (14 : Int) (p1)) (sm_nt (14 : Int) (g46 1046 0) (g46 1100023 (g46 1046 0)) (g46 1100023 (g46 1100023 (g46 1046 0)))) (sm_nl (14 : Int) (g46 1046 0) (g46 1100007 (g46 1046 0)) (g46 1100025 (g46 1046 0)) (g46 1100007 (g46 1100025 (g46 1046 0))) (g46 1100025 (g46 1100025 (g46 1046 0)))) (g46 1100009 p1) (g46 1100027 p1) (g46 1100028 p1) ∧ ((21 ≤ (14 : Int) ∧ (14 : Int) ≤ 24) ∨ (14 : Int) = 27 ∨ (14 : Int) = 30 → 0 ≤ p1 ∧ p1 < (g46 1053 0) ∧ (g46 1100026 p1) = (S 1056 0)) ∧ ((14 : Int) = 1 ∨ (14 : Int) = 2 → sm_vv (S 21) (S 32) (S 33) (S 1056 0) p1 (0 : Int)))) ∧ (0 + 1 ≤ ((if (S 1100002 p2) ≤ (S 1100002 p3) then (S 1100002 p3) else (S 1100002 p2)) + (600 - (S 1046 0)) + 9)) ∧ (∀ g54 : sv_S, (0 ≤ (g54 1047 0) ∧ (g54 1047 0) ≤ 1 ∧ 1 ≤ (g54 1046 0) ∧ (g46 1046 0) ≤ (g54 1046 0) ∧ (g54 1046 0) ≤ (g46 1046 0) + 1 ∧ (g54 1046 0) ≤ 600 ∧ ((g46 1047 0) = 1 → (g54 1047 0) = 1) ∧ ((g54 1047 0) = 1 → (g46 1047 0) = 1 ∨ (g46 1046 0) = 600) ∧ sm_F1 (g46 26) (g54 26) (g46 1046 0) ∧ sm_F1 (g46 27) (g54 27) (g46 1046 0) ∧ sm_F1 (g46 28) (g54 28) (g46 1046 0) ∧ sm_F1 (g46 29) (g54 29) (g46 1046 0) ∧ sm_F1 (g46 1100007) (g54 1100007) ((g46 1046 0) + 1) ∧ sm_F1 (g46 1100023) (g54 1100023) ((g46 1046 0) + 1) ∧ sm_F1 (g46 1100024) (g54 1100024) ((g46 1046 0) + 1) ∧ sm_F1 (g46 1100025) (g54 1100025) ((g46 1046 0) + 1) ∧ ((g54 1047 0) = 0 → (g46 1047 0) = 0 ∧ (g54 1046 0) = (g46 1046 0) + 1 ∧ sm_KC (g54 26) (g54 27) (g54 28) (g54 29) (g54 1100007) (g54 1100023) (g54 1100024) (g54 1100025) (g46 31) (g46 1100009) (g46 1100027) (g46 1100028) (g46 1100026) (g46 1100030) (S 21) (S 32) (S 33) (g54 1046 0) (g46 1053 0) (S 1056 0) (S 1032 0) (S 1007 0) (g46 1100033 0) ∧ sm_MB (g46 31) (g46 1100030) (g46 1053 0) (g54 1046 0) ∧ (g54 26 (g46 1046 0)) = (14 : Int) ∧ (g54 29 (g46 1046 0)) = (S 1056 0) ∧ (g54 1100007 (g54 1046 0)) = ((g46 1100007 (g46 1046 0)) + sm_dl (14 : Int) (p1)) ∧ (g54 1100023 (g54 1046 0)) = (sm_nt (14 : Int) (g46 1046 0) (g46 1100023 (g46 1046 0)) (g46 1100023 (g46 1100023 (g46 1046 0)))) ∧ (g54 1100024 (g54 1046 0)) = (sm_nd (14 : Int) (g46 1100024 (g46 1046 0))) ∧ (g54 1100025 (g54 1046 0)) = (sm_nl (14 : Int) (g46 1046 0) (g46 1100007 (g46 1046 0)) (g46 1100025 (g46 1046 0)) (g46 1100007 (g46 1100025 (g46 1046 0))) (g46 1100025 (g46 1100025 (g46 1046 0)))) ∧ (g54 1100007 (g54 1100023 (g54 1046 0))) = sm_nt (14 : Int) (g46 1100007 (g46 1046 0)) (g46 1100007 (g46 1100023 (g46 1046 0))) (g46 1100007 (g46 1100023 (g46 1100023 (g46 1046 0)))) ∧ ((14 : Int) = 29 → (g54 1100007 (g54 1100025 (g54 1046 0))) = (g46 1100007 (g46 1046 0))) ∧ ((14 : Int) = 17 → 0 ≤ (g46 1100025 (g46 1046 0)) → (g46 1100007 (g46 1100025 (g46 1046 0))) = (g46 1100007 (g46 1046 0)) → (g54 1100007 (g54 1100025 (g54 1046 0))) = (g46 1100007 (g46 1100025 (g46 1100025 (g46 1046 0))))) ∧ (¬ (14 : Int) = 29 → ((14 : Int) = 17 → 0 ≤ (g46 1100025 (g46 1046 0)) → (g46 1100007 (g46 1100025 (g46 1046 0))) < (g46 1100007 (g46 1046 0))) → (g54 1100007 (g54 1100025 (g54 1046 0))) = (g46 1100007 (g46 1100025 (g46 1046 0)))))) → (0 ≤ (g54 1046 0) ∧ (g54 1046 0) ≤ 600 ∧ 0 ≤ (g54 1047 0) ∧ (g54 1047 0) ≤ 1 ∧ 0 ≤ (g46 1053 0) ∧ 0 ≤ (g46 1066 0) ∧ (S 1046 0) ≤ (g54 1046 0) ∧ ((S 1047 0) = 1 → (g54 1047 0) = 1) ∧ sm_F1 (S 26) (g54 26) (S 1046 0) ∧ sm_F1 (S 27) (g54 27) (S 1046 0) ∧ sm_F1 (S 28) (g54 28) (S 1046 0) ∧ sm_F1 (S 29) (g54 29) (S 1046 0) ∧ sm_F1 (S 1100007) (g54 1100007) ((S 1046 0) + 1) ∧ sm_F1 (S 1100023) (g54 1100023) ((S 1046 0) + 1) ∧ sm_F1 (S 1100024) (g54 1100024) ((S 1046 0) + 1) ∧ sm_F1 (S 1100025) (g54 1100025) ((S 1046 0) + 1) ∧ sm_F1 (S 1100009) (g46 1100009) (S 1053 0) ∧ sm_F1 (S 1100027) (g46 1100027) (S 1053 0) ∧ sm_F1 (S 1100028) (g46 1100028) (S 1053 0) ∧ sm_F1 (S 1100026) (g46 1100026) (S 1053 0) ∧ sm_F1 (S 1100030) (g46 1100030) (S 1053 0) ∧ sm_F1 (S 31) (g46 31) (S 1053 0) ∧ (S 1053 0) ≤ (g46 1053 0) ∧ (g46 1066 0) = (S 1066 0) ∧ sm_F1 (S 39) (g46 39) (S 1066 0) ∧ ((S 1047 0) = 1 → (g46 1053 0) = (S 1053 0)) ∧ ((S 1047 0) = 0 → (g46 1053 0) ≤ (S 1053 0) + 3 * (600 - (S 1046 0)) + (if (S 1100002 p2) ≤ (S 1100002 p3) then (S 1100002 p3) else (S 1100002 p2))) ∧ ((g54 1047 0) = 0 → (S 1047 0) = 0 ∧ sm_KC (g54 26) (g54 27) (g54 28) (g54 29) (g54 1100007) (g54 1100023) (g54 1100024) (g54 1100025) (g46 31) (g46 1100009) (g46 1100027) (g46 1100028) (g46 1100026) (g46 1100030) (S 21) (S 32) (S 33) (g54 1046 0) (g46 1053 0) (S 1056 0) (S 1032 0) (S 1007 0) (g46 1100033 0) ∧ (g46 1100033 0) = (g46 1055 0) ∧ 0 ≤ (g46 1055 0) ∧ (g46 1055 0) ≤ (g54 1046 0) ∧ (S 1046 0) + ((if (0 : Int) = 1 then (0 : Int) else 2) + 1) ≤ (g54 1046 0) ∧ sm_FC (g54 29) (S 1046 0) (g54 1046 0) (S 1056 0) ∧ (g54 1100007 (g54 1046 0)) = (S 1100007 (S 1046 0)) + ((if (0 : Int) = 1 then (0 : Int) else 2) + 1) ∧ (g54 1100023 (g54 1046 0)) = (S 1100023 (S 1046 0)) ∧ (g54 1100024 (g54 1046 0)) = (S 1100024 (S 1046 0)) ∧ (g54 1100025 (g54 1046 0)) = (S 1100025 (S 1046 0)) ∧ (g54 1100007 (g54 1100023 (g54 1046 0))) = (S 1100007 (S 1100023 (S 1046 0))) ∧ (g54 1100007 (g54 1100025 (g54 1046 0))) = (S 1100007 (S 1100025 (S 1046 0))) ∧ sm_AP (g46 1100030) (S 1053 0) (g46 1053 0) ∧ sm_HB (g54 1100007) (S 1046 0) (g54 1046 0) (2 * (S 1100007 (S 1046 0)) + ((g54 1046 0) - (S 1046 0)) + 8 * (if (S 1100005 p2) ≤ ((S 1100005 p3) + 1) then ((S 1100005 p3) + 1) else (S 1100005 p2)) + 11) ∧ (g46 1053 0) ≤ (S 1053 0) + 3 * ((g54 1046 0) - (S 1046 0)) ∧ True)))))))))) ∧ (((p1 = (-1 : Int)) → (0 ≤ (g7 1046 0) ∧ (g7 1046 0) ≤ 600 ∧ 0 ≤ (g7 1047 0) ∧ (g7 1047 0) ≤ 1 ∧ 0 ≤ (g7 1053 0) ∧ 0 ≤ (g7 1066 0) ∧ (S 1046 0) ≤ (g7 1046 0) ∧ ((S 1047 0) = 1 → (g7 1047 0) = 1) ∧ sm_F1 (S 26) (g7 26) (S 1046 0) ∧ sm_F1 (S 27) (g7 27) (S 1046 0) ∧ sm_F1 (S 28) (g7 28) (S 1046 0) ∧ sm_F1 (S 29) (g7 29) (S 1046 0) ∧ sm_F1 (S 1100007) (g7 1100007) ((S 1046 0) + 1) ∧ sm_F1 (S 1100023) (g7 1100023) ((S 1046 0) + 1) ∧ sm_F1 (S 1100024) (g7 1100024) ((S 1046 0) + 1) ∧ sm_F1 (S 1100025) (g7 1100025) ((S 1046 0) + 1) ∧ sm_F1 (S 1100009) (g7 1100009) (S 1053 0) ∧ sm_F1 (S 1100027) (g7 1100027) (S 1053 0) ∧ sm_F1 (S 1100028) (g7 1100028) (S 1053 0) ∧ sm_F1 (S 1100026) (g7 1100026) (S 1053 0) ∧ sm_F1 (S 1100030) (g7 1100030) (S 1053 0) ∧ sm_F1 (S 31) (g7 31) (S 1053 0) ∧ (S 1053 0) ≤ (g7 1053 0) ∧ (g7 1066 0) = (S 1066 0) ∧ sm_F1 (S 39) (g7 39) (S 1066 0) ∧ ((S 1047 0) = 1 → (g7 1053 0) = (S 1053 0)) ∧ ((S 1047 0) = 0 → (g7 1053 0) ≤ (S 1053 0) + 3 * (600 - (S 1046 0)) + (if (S 1100002 p2) ≤ (S 1100002 p3) then (S 1100002 p3) else (S 1100002 p2))) ∧ ((g7 1047 0) = 0 → (S 1047 0) = 0 ∧ sm_KC (g7 26) (g7 27) (g7 28) (g7 29) (g7 1100007) (g7 1100023) (g7 1100024) (g7 1100025) (g7 31) (g7 1100009) (g7 1100027) (g7 1100028) (g7 1100026) (g7 1100030) (S 21) (S 32) (S 33) (g7 1046 0) (g7 1053 0) (S 1056 0) (S 1032 0) (S 1007 0) (g7 1100033 0) ∧ (g7 1100033 0) = (g7 1055 0) ∧ 0 ≤ (g7 1055 0) ∧ (g7 1055 0) ≤ (g7 1046 0) ∧ (S 1046 0) + ((if (0 : Int) = 1 then (0 : Int) else 2) + (if p1 = -1 then (0 : Int) else 1)) ≤ (g7 1046 0) ∧ sm_FC (g7 29) (S 1046 0) (g7 1046 0) (S 1056 0) ∧ (g7 1100007 (g7 1046 0)) = (S 1100007 (S 1046 0)) + ((if (0 : Int) = 1 then (0 : Int) else 2) + (if p1 = -1 then (0 : Int) else 1)) ∧ (g7 1100023 (g7 1046 0)) = (S 1100023 (S 1046 0)) ∧ (g7 1100024 (g7 1046 0)) = (S 1100024 (S 1046 0)) ∧ (g7 1100025 (g7 1046 0)) = (S 1100025 (S 1046 0)) ∧ (g7 1100007 (g7 1100023 (g7 1046 0))) = (S 1100007 (S 1100023 (S 1046 0))) ∧ (g7 1100007 (g7 1100025 (g7 1046 0))) = (S 1100007 (S 1100025 (S 1046 0))) ∧ sm_AP (g7 1100030) (S 1053 0) (g7 1053 0) ∧ sm_HB (g7 1100007) (S 1046 0) (g7 1046 0) (2 * (S 1100007 (S 1046 0)) + ((g7 1046 0) - (S 1046 0)) + 8 * (if (S 1100005 p2) ≤ ((S 1100005 p3) + 1) then ((S 1100005 p3) + 1) else (S 1100005 p2)) + 12) ∧ (g7 1053 0) ≤ (S 1053 0) + 3 * ((g7 1046 0) - (S 1046 0)) ∧ True))) ∧ ((¬ (p1 = (-1 : Int))) → ((((0 : Int) = (0 : Int)) → (0 ≤ (g7 1046 0) ∧ (g7 1046 0) ≤ 600 ∧ 0 ≤ (g7 1047 0) ∧ (g7 1047 0) ≤ 1 ∧ ((g7 1047 0) = 0 → sm_KC (g7 26) (g7 27) (g7 28) (g7 29) (g7 1100007) (g7 1100023) (g7 1100024) (g7 1100025) (g7 31) (g7 1100009) (g7 1100027) (g7 1100028) (g7 1100026) (g7 1100030) (S 21) (S 32) (S 33) (g7 1046 0) (g7 1053 0) (S 1056 0) (S 1032 0) (S 1007 0) (g7 1100033 0) ∧ 0 ≤ (19 : Int) ∧ (19 : Int) ≤ 30 ∧ sm_ci (19 : Int) ((0 : Int)) ((0 : Int)) (g7 1100007 (g7 1046 0)) (g7 1100023 (g7 1046 0)) (g7 1100024 (g7 1046 0)) (g7 1100025 (g7 1046 0)) (g7 1100007 (g7 1100023 (g7 1046 0))) (g7 1100007 (g7 1100025 (g7 1046 0))) (g7 1100023 (g7 1100023 (g7 1046 0))) (g7 1100025 (g7 1100025 (g7 1046 0))) (g7 1046 0) (g7 1100033 0) (S 1032 0) (S 1007 0) (S 21 (0 : Int)) (S 1056 0) ((g7 1100007 (g7 1046 0)) + sm_dl (19 : Int) ((0 : Int))) (sm_nt (19 : Int) (g7 1046 0) (g7 1100023 (g7 1046 0)) (g7 1100023 (g7 1100023 (g7 1046 0)))) (sm_nl (19 : Int) (g7 1046 0) (g7 1100007 (g7 1046 0)) (g7 1100025 (g7 1046 0)) (g7 1100007 (g7 1100025 (g7 1046 0))) (g7 1100025 (g7 1100025 (g7 1046 0)))) (g7 1100009 (0 : Int)) (g7 1100027 (0 : Int)) (g7 1100028 (0 : Int)) ∧ ((21 ≤ (19 : Int) ∧ (19 : Int) ≤ 24) ∨ (19 : Int) = 27 ∨ (19 : Int) = 30 → 0 ≤ (0 : Int) ∧ (0 : Int) < (g7 1053 0) ∧ (g7 1100026 (0 : Int)) = (S 1056 0)) ∧ ((19 : Int) = 1 ∨ (19 : Int) = 2 → sm_vv (S 21) (S 32) (S 33) (S 1056 0) (0 : Int) (0 : Int)))) ∧ (1 + 1 ≤ ((if (S 1100002 p2) ≤ (S 1100002 p3) then (S 1100002 p3) else (S 1100002 p2)) + (600 - (S 1046 0)) + 9)) ∧ (∀ g63 : sv_S, (0 ≤ (g63 1047 0) ∧ (g63 1047 0) ≤ 1 ∧ 1 ≤ (g63 1046 0) ∧ (g7 1046 0) ≤ (g63 1046 0) ∧ (g63 1046 0) ≤ (g7 1046 0) + 1 ∧ (g63 1046 0) ≤ 600 ∧ ((g7 1047 0) = 1 → (g63 1047 0) = 1) ∧ ((g63 1047 0) = 1 → (g7 1047 0) = 1 ∨ (g7 1046 0) = 600) ∧ sm_F1 (g7 26) (g63 26) (g7 1046 0) ∧ sm_F1 (g7 27) (g63 27) (g7 1046 0) ∧ sm_F1 (g7 28) (g63 28) (g7 1046 0) ∧ sm_F1 (g7 29) (g63 29) (g7 1046 0) ∧ sm_F1 (g7 1100007) (g63 1100007) ((g7 1046 0) + 1) ∧ sm_F1 (g7 1100023) (g63 1100023) ((g7 1046 0) + 1) ∧ sm_F1 (g7 1100024) (g63 1100024) ((g7 1046 0) + 1) ∧ sm_F1 (g7 1100025) (g63 1100025) ((g7 1046 0) + 1) ∧ ((g63 1047 0) = 0 → (g7 1047 0) = 0 ∧ (g63 1046 0) = (g7 1046 0) + 1 ∧ sm_KC (g63 26) (g63 27) (g63 28) (g63 29) (g63 1100007) (g63 1100023) (g63 1100024) (g63 1100025) (g7 31) (g7 1100009) (g7 1100027) (g7 1100028) (g7 1100026) (g7 1100030) (S 21) (S 32) (S 33) (g63 1046 0) (g7 1053 0) (S 1056 0) (S 1032 0) (S 1007 0) (g7 1100033 0) ∧ sm_MB (g7 31) (g7 1100030) (g7 1053 0) (g63 1046 0) ∧ (g63 26 (g7 1046 0)) = (19 : Int) ∧ (g63 29 (g7 1046 0)) = (S 1056 0) ∧ (g63 1100007 (g63 1046 0)) = ((g7 1100007 (g7 1046 0)) + sm_dl (19 : Int) ((0 : Int))) ∧ (g63 1100023 (g63 1046 0)) = (sm_nt (19 : Int) (g7 1046 0) (g7 1100023 (g7 1046 0)) (g7 1100023 (g7 1100023 (g7 1046 0)))) ∧ (g63 1100024 (g63 1046 0)) = (sm_nd (19 : Int) (g7 1100024 (g7 1046 0))) ∧ (g63 1100025 (g63 1046 0)) = (sm_nl (19 : Int) (g7 1046 0) (g7 1100007 (g7 1046 0)) (g7 1100025 (g7 1046 0)) (g7 1100007 (g7 1100025 (g7 1046 0))) (g7 1100025 (g7 1100025 (g7 1046 0)))) ∧ (g63 1100007 (g63 1100023 (g63 1046 0))) = sm_nt (19 : Int) (g7 1100007 (g7 1046 0)) (g7 1100007 (g7 1100023 (g7 1046 0))) (g7 1100007 (g7 1100023 (g7 1100023 (g7 1046 0)))) ∧ ((19 : Int) = 29 → (g63 1100007 (g63 1100025 (g63 1046 0))) = (g7 1100007 (g7 1046 0))) ∧ ((19 : Int) = 17 → 0 ≤ (g7 1100025 (g7 1046 0)) → (g7 1100007 (g7 1100025 (g7 1046 0))) = (g7 1100007 (g7 1046 0)) → (g63 1100007 (g63 1100025 (g63 1046 0))) = (g7 1100007 (g7 1100025 (g7 1100025 (g7 1046 0))))) ∧ (¬ (19 : Int) = 29 → ((19 : Int) = 17 → 0 ≤ (g7 1100025 (g7 1046 0)) → (g7 1100007 (g7 1100025 (g7 1046 0))) < (g7 1100007 (g7 1046 0))) → (g63 1100007 (g63 1100025 (g63 1046 0))) = (g7 1100007 (g7 1100025 (g7 1046 0)))))) → (0 ≤ (g63 1046 0) ∧ (g63 1046 0) ≤ 600 ∧ 0 ≤ (g63 1047 0) ∧ (g63 1047 0) ≤ 1 ∧ ((g63 1047 0) = 0 → sm_KC (g63 26) (g63 27) (g63 28) (g63 29) (g63 1100007) (g63 1100023) (g63 1100024) (g63 1100025) (g7 31) (g7 1100009) (g7 1100027) (g7 1100028) (g7 1100026) (g7 1100030) (S 21) (S 32) (S 33) (g63 1046 0) (g7 1053 0) (S 1056 0) (S 1032 0) (S 1007 0) (g7 1100033 0) ∧ 0 ≤ (10 : Int) ∧ (10 : Int) ≤ 30 ∧ sm_ci (10 : Int) ((0 : Int)) ((0 : Int)) (g63 1100007 (g63 1046 0)) (g63 1100023 (g63 1046 0)) (g63 1100024 (g63 1046 0)) (g63 1100025 (g63 1046 0)) (g63 1100007 (g63 1100023 (g63 1046 0))) (g63 1100007 (g63 1100025 (g63 1046 0))) (g63 1100023 (g63 1100023 (g63 1046 0))) (g63 1100025 (g63 1100025 (g63 1046 0))) (g63 1046 0) (g7 1100033 0) (S 1032 0) (S 1007 0) (S 21 (0 : Int)) (S 1056 0) ((g63 1100007 (g63 1046 0)) + sm_dl (10 : Int) ((0 : Int))) (sm_nt (10 : Int) (g63 1046 0) (g63 1100023 (g63 1046 0)) (g63 1100023 (g63 1100023 (g63 1046 0)))) (sm_nl (10 : Int) (g63 1046 0) (g63 1100007 (g63 1046 0)) (g63 1100025 (g63 1046 0)) (g63 1100007 (g63 1100025 (g63 1046 0))) (g63 1100025 (g63 1100025 (g63 1046 0)))) (g7 1100009 (0 : Int)) (g7 1100027 (0 : Int)) (g7 1100028 (0 : Int)) ∧ ((21 ≤ (10 : Int) ∧ (10 : Int) ≤ 24) ∨ (10 : Int) = 27 ∨ (10 : Int) = 30 → 0 ≤ (0 : Int) ∧ (0 : Int) < (g7 1053 0) ∧ (g7 1100026 (0 : Int)) = (S 1056 0)) ∧ ((10 : Int) = 1 ∨ (10 : Int) = 2 → sm_vv (S 21) (S 32) (S 33) (S 1056 0) (0 : Int) (0 : Int)))) ∧ (∀ g70 : sv_S, (0 ≤ (g70 1047 0) ∧ (g70 1047 0) ≤ 1 ∧ 1 ≤ (g70 1046 0) ∧ (g63 1046 0) ≤ (g70 1046 0) ∧ (g70 1046 0) ≤ (g63 1046 0) + 1 ∧ (g70 1046 0) ≤ 600 ∧ ((g63 1047 0) = 1 → (g70 1047 0) = 1) ∧ ((g70 1047 0) = 1 → (g63 1047 0) = 1 ∨ (g63 1046 0) = 600) ∧ sm_F1 (g63 26) (g70 26) (g63 1046 0) ∧ sm_F1 (g63 27) (g70 27) (g63 1046 0) ∧ sm_F1 (g63 28) (g70 28) (g63 1046 0) ∧ sm_F1 (g63 29) (g70 29) (g63 1046 0) ∧ sm_F1 (g63 1100007) (g70 1100007) ((g63 1046 0) + 1) ∧ sm_F1 (g63 1100023) (g70 1100023) ((g63 1046 0) + 1) ∧ sm_F1 (g63 1100024) (g70 1100024) ((g63 1046 0) + 1) ∧ sm_F1 (g63 1100025) (g70 1100025) ((g63 1046 0) + 1) ∧ ((g70 1047 0) = 0 → (g63 1047 0) = 0 ∧ (g70 1046 0) = (g63 1046 0) + 1 ∧ sm_KC (g70 26) (g70 27) (g70 28) (g70 29) (g70 1100007) (g70 1100023) (g70 1100024) (g70 1100025) (g7 31) (g7 1100009) (g7 1100027) (g7 1100028) (g7 1100026) (g7 1100030) (S 21) (S 32) (S 33) (g70 1046 0) (g7 1053 0) (S 1056 0) (S 1032 0) (S 1007 0) (g7 1100033 0) ∧ sm_MB (g7 31) (g7 1100030) (g7 1053 0) (g70 1046 0) ∧ (g70 26 (g63 1046 0)) = (10 : Int) ∧ (g70 29 (g63 1046 0)) = (S 1056 0) ∧ (g70 1100007 (g70 1046 0)) = ((g63 1100007 (g63 1046 0)) + sm_dl (10 : Int) ((0 : Int))) ∧ (g70 1100023 (g70 1046 0)) = (sm_nt (10 : Int) (g63 1046 0) (g63 1100023 (g63 1046 0)) (g63 1100023 (g63 1100023 (g63 1046 0)))) ∧ (g70 1100024 (g70 1046 0)) = (sm_nd (10 : Int) (g63 1100024 (g63 1046 0))) ∧ (g70 1100025 (g70 1046 0)) = (sm_nl (10 : Int) (g63 1046 0) (g63 1100007 (g63 1046 0)) (g63 1100025 (g63 1046 0)) (g63 1100007 (g63 1100025 (g63 1046 0))) (g63 1100025 (g63 1100025 (g63 1046 0)))) ∧ (g70 1100007 (g70 1100023 (g70 1046 0))) = sm_nt (10 : Int) (g63 1100007 (g63 1046 0)) (g63 1100007 (g63 1100023 (g63 1046 0))) (g63 1100007 (g63 1100023 (g63 1100023 (g63 1046 0)))) ∧ ((10 : Int) = 29 → (g70 1100007 (g70 1100025 (g70 1046 0))) = (g63 1100007 (g63 1046 0))) ∧ ((10 : Int) = 17 → 0 ≤ (g63 1100025 (g63 1046 0)) → (g63 1100007 (g63 1100025 (g63 1046 0))) = (g63 1100007 (g63 1046 0)) → (g70 1100007 (g70 1100025 (g70 1046 0))) = (g63 1100007 (g63 1100025 (g63 1100025 (g63 1046 0))))) ∧ (¬ (10 : Int) = 29 → ((10 : Int) = 17 → 0 ≤ (g63 1100025 (g63 1046 0)) → (g63 1100007 (g63 1100025 (g63 1046 0))) < (g63 1100007 (g63 1046 0))) → (g70 1100007 (g70 1100025 (g70 1046 0))) = (g63 1100007 (g63 1100025 (g63 1046 0)))))) → (0 ≤ (g70 1046 0) ∧ (g70 1046 0) ≤ 600 ∧ 0 ≤ (g70 1047 0) ∧ (g70 1047 0) ≤ 1 ∧ 0 ≤ (g7 1053 0) ∧ 0 ≤ (g7 1066 0) ∧ (S 1046 0) ≤ (g70 1046 0) ∧ ((S 1047 0) = 1 → (g70 1047 0) = 1) ∧ sm_F1 (S 26) (g70 26) (S 1046 0) ∧ sm_F1 (S 27) (g70 27) (S 1046 0) ∧ sm_F1 (S 28) (g70 28) (S 1046 0) ∧ sm_F1 (S 29) (g70 29) (S 1046 0) ∧ sm_F1 (S 1100007) (g70 1100007) ((S 1046 0) + 1) ∧ sm_F1 (S 1100023) (g70 1100023) ((S 1046 0) + 1) ∧ sm_F1 (S 1100024) (g70 1100024) ((S 1046 0) + 1) ∧ sm_F1 (S 1100025) (g70 1100025) ((S 1046 0) + 1) ∧ sm_F1 (S 1100009) (g7 1100009) (S 1053 0) ∧ sm_F1 (S 1100027) (g7 1100027) (S 1053 0) ∧ sm_F1 (S 1100028) (g7 1100028) (S 1053 0) ∧ sm_F1 (S 1100026) (g7 1100026) (S 1053 0) ∧ sm_F1 (S 1100030) (g7 1100030) (S 1053 0) ∧ sm_F1 (S 31) (g7 31) (S 1053 0) ∧ (S 1053 0) ≤ (g7 1053 0) ∧ (g7 1066 0) = (S 1066 0) ∧ sm_F1 (S 39) (g7 39) (S 1066 0) ∧ ((S 1047 0) = 1 → (g7 1053 0) = (S 1053 0)) ∧ ((S 1047 0) = 0 → (g7 1053 0) ≤ (S 1053 0) + 3 * (600 - (S 1046 0)) + (if (S 1100002 p2) ≤ (S 1100002 p3) then (S 1100002 p3) else (S 1100002 p2))) ∧ ((g70 1047 0) = 0 → (S 1047 0) = 0 ∧ sm_KC (g70 26) (g70 27) (g70 28) (g70 29) (g70 1100007) (g70 1100023) (g70 1100024) (g70 1100025) (g7 31) (g7 1100009) (g7 1100027) (g7 1100028) (g7 1100026) (g7 1100030) (S 21) (S 32) (S 33) (g70 1046 0) (g7 1053 0) (S 1056 0) (S 1032 0) (S 1007 0) (g7 1100033 0) ∧ (g7 1100033 0) = (g7 1055 0) ∧ 0 ≤ (g7 1055 0) ∧ (g7 1055 0) ≤ (g70 1046 0) ∧ (S 1046 0) + ((if (0 : Int) = 1 then (0 : Int) else 2) + (if p1 = -1 then (0 : Int) else 1)) ≤ (g70 1046 0) ∧ sm_FC (g70 29) (S 1046 0) (g70 1046 0) (S 1056 0) ∧ (g70 1100007 (g70 1046 0)) = (S 1100007 (S 1046 0)) + ((if (0 : Int) = 1 then (0 : Int) else 2) + (if p1 = -1 then (0 : Int) else 1)) ∧ (g70 1100023 (g70 1046 0)) = (S 1100023 (S 1046 0)) ∧ (g70 1100024 (g70 1046 0)) = (S 1100024 (S 1046 0)) ∧ (g70 1100025 (g70 1046 0)) = (S 1100025 (S 1046 0)) ∧ (g70 1100007 (g70 1100023 (g70 1046 0))) = (S 1100007 (S 1100023 (S 1046 0))) ∧ (g70 1100007 (g70 1100025 (g70 1046 0))) = (S 1100007 (S 1100025 (S 1046 0))) ∧ sm_AP (g7 1100030) (S 1053 0) (g7 1053 0) ∧ sm_HB (g70 1100007) (S 1046 0) (g70 1046 0) (2 * (S 1100007 (S 1046 0)) + ((g70 1046 0) - (S 1046 0)) + 8 * (if (S 1100005 p2) ≤ ((S 1100005 p3) + 1) then ((S 1100005 p3) + 1) else (S 1100005 p2)) + 12) ∧ (g7 1053 0) ≤ (S 1053 0) + 3 * ((g70 1046 0) - (S 1046 0)) ∧ True))))) ∧ ((¬ ((0 : Int) = (0 : Int))) → ((sm_WF (S 11) (S 12) (S 13) (S 1100001) (S 1100002) (S 1100005) (S 1100003) (S 1100004) (S 1024 0) (S 1007 0) (S 1009 0) (sm_fn (S 1032 0) (S 21) (S 1056 0)) → 0 ≤ p2 → p2 < (S 1024 0) → (S 1100001 p2) = 1 → (S 11 p2) = 2 → sm_nm (S 1007 0) (S 1009 0) ((S 12 (5 * (p2))))) → ((sm_nm (S 1007 0) (S 1009 0) ((S 12 (5 * p2))) → (S 1009 0) = 0 → 0 ≤ (S 12 (5 * p2)) ∧ (S 12 (5 * p2)) < (S 1007 0)) → (0 ≤ p2 ∧ p2 < 12000 ∧ 0 ≤ (0 : Int) ∧ (0 : Int) ≤ 4) ∧ (0 + 1 ≤ ((if (S 1100002 p2) ≤ (S 1100002 p3) then (S 1100002 p3) else (S 1100002 p2)) + (600 - (S 1046 0)) + 9)) ∧ (0 ≤ (g7 1046 0) ∧ (g7 1046 0) ≤ 600 ∧ 0 ≤ (g7 1047 0) ∧ (g7 1047 0) ≤ 1 ∧ 0 ≤ (S 1056 0) ∧ (S 1056 0) < (S 1032 0) ∧ (S 1032 0) ≤ 11 ∧ sm_VB (S 33) (S 21) (S 1032 0) ∧ (((1 : Int) = 1 ∧ ((3 : Int) = 3 ∨ (3 : Int) = 5)) ∨ ((1 : Int) = 2 ∧ (3 : Int) = 4)) ∧ ((g7 1047 0) = 0 → sm_KC (g7 26) (g7 27) (g7 28) (g7 29) (g7 1100007) (g7 1100023) (g7 1100024) (g7 1100025) (g7 31) (g7 1100009) (g7 1100027) (g7 1100028) (g7 1100026) (g7 1100030) (S 21) (S 32) (S 33) (g7 1046 0) (g7 1053 0) (S 1056 0) (S 1032 0) (S 1007 0) (g7 1100033 0) ∧ 0 ≤ ((S 12 (5 * p2 + (0 : Int)))) ∧ ((S 12 (5 * p2 + (0 : Int)))) < (S 1007 0) ∧ ((1 : Int) = 1 → (0 ≤ (g7 1100023 (g7 1046 0)) → (g7 1100007 (g7 1100023 (g7 1046 0))) ≤ (g7 1100007 (g7 1046 0))) ∧ (0 ≤ (g7 1100025 (g7 1046 0)) → (g7 1100007 (g7 1100025 (g7 1046 0))) ≤ (g7 1100007 (g7 1046 0)))) ∧ ((1 : Int) = 2 → 1 ≤ (g7 1100007 (g7 1046 0)) ∧ (0 ≤ (g7 1100023 (g7 1046 0)) → (g7 1100007 (g7 1100023 (g7 1046 0))) ≤ (g7 1100007 (g7 1046 0)) - 1) ∧ (0 ≤ (g7 1100025 (g7 1046 0)) → (g7 1100007 (g7 1100025 (g7 1046 0))) ≤ (g7 1100007 (g7 1046 0)) - 1)))) ∧ (2 + 1 ≤ ((if (S 1100002 p2) ≤ (S 1100002 p3) then (S 1100002 p3) else (S 1100002 p2)) + (600 - (S 1046 0)) + 9)) ∧ (∀ g82 : sv_S, (0 ≤ (g82 1047 0) ∧ (g82 1047 0) ≤ 1 ∧ 1 ≤ (g82 1046 0) ∧ (g7 1046 0) ≤ (g82 1046 0) ∧ (g82 1046 0) ≤ (g7 1046 0) + 1 ∧ (g82 1046 0) ≤ 600 ∧ ((g7 1047 0) = 1 → (g82 1047 0) = 1) ∧ ((g82 1047 0) = 1 → (g7 1047 0) = 1 ∨ (g7 1046 0) = 600) ∧ sm_F1 (g7 26) (g82 26) (g7 1046 0) ∧ sm_F1 (g7 27) (g82 27) (g7 1046 0) ∧ sm_F1 (g7 28) (g82 28) (g7 1046 0) ∧ sm_F1 (g7 29) (g82 29) (g7 1046 0) ∧ sm_F1 (g7 1100007) (g82 1100007) ((g7 1046 0) + 1) ∧ sm_F1 (g7 1100023) (g82 1100023) ((g7 1046 0) + 1) ∧ sm_F1 (g7 1100024) (g82 1100024) ((g7 1046 0) + 1) ∧ sm_F1 (g7 1100025) (g82 1100025) ((g7 1046 0) + 1) ∧ ((g82 1047 0) = 0 → (g7 1047 0) = 0 ∧ (g82 1046 0) = (g7 1046 0) + 1 ∧ sm_KC (g82 26) (g82 27) (g82 28) (g82 29) (g82 1100007) (g82 1100023) (g82 1100024) (g82 1100025) (g7 31) (g7 1100009) (g7 1100027) (g7 1100028) (g7 1100026) (g7 1100030) (S 21) (S 32) (S 33) (g82 1046 0) (g7 1053 0) (S 1056 0) (S 1032 0) (S 1007 0) (g7 1100033 0) ∧ sm_MB (g7 31) (g7 1100030) (g7 1053 0) (g82 1046 0) ∧ ((g82 26 (g7 1046 0)) = (1 : Int) ∨ (g82 26 (g7 1046 0)) = (3 : Int)) ∧ (g82 29 (g7 1046 0)) = (S 1056 0) ∧ (g82 1100007 (g82 1046 0)) = (g7 1100007 (g7 1046 0)) + (if (1 : Int) = 1 then 1 else 0) ∧ (g82 1100023 (g82 1046 0)) = (g7 1100023 (g7 1046 0)) ∧ (g82 1100024 (g82 1046 0)) = (g7 1100024 (g7 1046 0)) ∧ (g82 1100025 (g82 1046 0)) = (g7 1100025 (g7 1046 0)) ∧ (g82 1100007 (g82 1100023 (g82 1046 0))) = (g7 1100007 (g7 1100023 (g7 1046 0))) ∧ (g82 1100007 (g82 1100025 (g82 1046 0))) = (g7 1100007 (g7 1100025 (g7 1046 0))))) → (0 ≤ (g82 1046 0) ∧ (g82 1046 0) ≤ 600 ∧ 0 ≤ (g82 1047 0) ∧ (g82 1047 0) ≤ 1 ∧ 0 ≤ (g7 1053 0) ∧ 0 ≤ (g7 1066 0) ∧ (S 1046 0) ≤ (g82 1046 0) ∧ ((S 1047 0) = 1 → (g82 1047 0) = 1) ∧ sm_F1 (S 26) (g82 26) (S 1046 0) ∧ sm_F1 (S 27) (g82 27) (S 1046 0) ∧ sm_F1 (S 28) (g82 28) (S 1046 0) ∧ sm_F1 (S 29) (g82 29) (S 1046 0) ∧ sm_F1 (S 1100007) (g82 1100007) ((S 1046 0) + 1) ∧ sm_F1 (S 1100023) (g82 1100023) ((S 1046 0) + 1) ∧ sm_F1 (S 1100024) (g82 1100024) ((S 1046 0) + 1) ∧ sm_F1 (S 1100025) (g82 1100025) ((S 1046 0) + 1) ∧ sm_F1 (S 1100009) (g7 1100009) (S 1053 0) ∧ sm_F1 (S 1100027) (g7 1100027) (S 1053 0) ∧ sm_F1 (S 1100028) (g7 1100028) (S 1053 0) ∧ sm_F1 (S 1100026) (g7 1100026) (S 1053 0) ∧ sm_F1 (S 1100030) (g7 1100030) (S 1053 0) ∧ sm_F1 (S 31) (g7 31) (S 1053 0) ∧ (S 1053 0) ≤ (g7 1053 0) ∧ (g7 1066 0) = (S 1066 0) ∧ sm_F1 (S 39) (g7 39) (S 1066 0) ∧ ((S 1047 0) = 1 → (g7 1053 0) = (S 1053 0)) ∧ ((S 1047 0) = 0 → (g7 1053 0) ≤ (S 1053 0) + 3 * (600 - (S 1046 0)) + (if (S 1100002 p2) ≤ (S 1100002 p3) then (S 1100002 p3) else (S 1100002 p2))) ∧ ((g82 1047 0) = 0 → (S 1047 0) = 0 ∧ sm_KC (g82 26) (g82 27) (g82 28) (g82 29) (g82 1100007) (g82 1100023) (g82 1100024) (g82 1100025) (g7 31) (g7 1100009) (g7 1100027) (g7 1100028) (g7 1100026) (g7 1100030) (S 21) (S 32) (S 33) (g82 1046 0) (g7 1053 0) (S 1056 0) (S 1032 0) (S 1007 0) (g7 1100033 0) ∧ (g7 1100033 0) = (g7 1055 0) ∧ 0 ≤ (g7 1055 0) ∧ (g7 1055 0) ≤ (g82 1046 0) ∧ (S 1046 0) + ((if (0 : Int) = 1 then (0 : Int) else 2) + (if p1 = -1 then (0 : Int) else 1)) ≤ (g82 1046 0) ∧ sm_FC (g82 29) (S 1046 0) (g82 1046 0) (S 1056 0) ∧ (g82 1100007 (g82 1046 0)) = (S 1100007 (S 1046 0)) + ((if (0 : Int) = 1 then (0 : Int) else 2) + (if p1 = -1 then (0 : Int) else 1)) ∧ (g82 1100023 (g82 1046 0)) = (S 1100023 (S 1046 0)) ∧ (g82 1100024 (g82 1046 0)) = (S 1100024 (S 1046 0)) ∧ (g82 1100025 (g82 1046 0)) = (S 1100025 (S 1046 0)) ∧ (g82 1100007 (g82 1100023 (g82 1046 0))) = (S 1100007 (S 1100023 (S 1046 0))) ∧ (g82 1100007 (g82 1100025 (g82 1046 0))) = (S 1100007 (S 1100025 (S 1046 0))) ∧ sm_AP (g7 1100030) (S 1053 0) (g7 1053 0) ∧ sm_HB (g82 1100007) (S 1046 0) (g82 1046 0) (2 * (S 1100007 (S 1046 0)) + ((g82 1046 0) - (S 1046 0)) + 8 * (if (S 1100005 p2) ≤ ((S 1100005 p3) + 1) then ((S 1100005 p3) + 1) else (S 1100005 p2)) + 12) ∧ (g7 1053 0) ≤ (S 1053 0) + 3 * ((g82 1046 0) - (S 1046 0)) ∧ True))))))))))) ∧ (((¬ (0 : Int) = (0 : Int)) → (((0 : Int) = 0 ∨ (0 : Int) = 1) ∧ ((0 : Int) = 1 → (S 11 p2) = 2) ∧ ((0 : Int) = 0 → (S 11 p2) = 7) ∧ 0 ≤ (S 1046 0) ∧ (S 1046 0) ≤ 600 ∧ 0 ≤ (S 1047 0) ∧ (S 1047 0) ≤ 1 ∧ 0 ≤ (S 1053 0) ∧ 0 ≤ (S 1066 0) ∧ (S 1046 0) ≤ (S 1046 0) ∧ ((S 1047 0) = 1 → (S 1047 0) = 1) ∧ sm_F1 (S 26) (S 26) (S 1046 0) ∧ sm_F1 (S 27) (S 27) (S 1046 0) ∧ sm_F1 (S 28) (S 28) (S 1046 0) ∧ sm_F1 (S 29) (S 29) (S 1046 0) ∧ sm_F1 (S 1100007) (S 1100007) ((S 1046 0) + 1) ∧ sm_F1 (S 1100023) (S 1100023) ((S 1046 0) + 1) ∧ sm_F1 (S 1100024) (S 1100024) ((S 1046 0) + 1) ∧ sm_F1 (S 1100025) (S 1100025) ((S 1046 0) + 1) ∧ sm_F1 (S 1100009) (S 1100009) (S 1053 0) ∧ sm_F1 (S 1100027) (S 1100027) (S 1053 0) ∧ sm_F1 (S 1100028) (S 1100028) (S 1053 0) ∧ sm_F1 (S 1100026) (S 1100026) (S 1053 0) ∧ sm_F1 (S 1100030) (S 1100030) (S 1053 0) ∧ sm_F1 (S 31) (S 31) (S 1053 0) ∧ (S 1053 0) ≤ (S 1053 0) ∧ (S 1066 0) = (S 1066 0) ∧ sm_F1 (S 39) (S 39) (S 1066 0) ∧ ((S 1047 0) = 1 → (S 1053 0) = (S 1053 0)) ∧ ((S 1047 0) = 0 → (S 1053 0) ≤ (S 1053 0) + 3 * (600 - (S 1046 0)) + (if (S 1100002 p2) ≤ (S 1100002 p3) then (S 1100002 p3) else (S 1100002 p2))) ∧ ((S 1047 0) = 0 → (S 1047 0) = 0 ∧ sm_KC (S 26) (S 27) (S 28) (S 29) (S 1100007) (S 1100023) (S 1100024) (S 1100025) (S 31) (S 1100009) (S 1100027) (S 1100028) (S 1100026) (S 1100030) (S 21) (S 32) (S 33) (S 1046 0) (S 1053 0) (S 1056 0) (S 1032 0) (S 1007 0) (S 1100033 0) ∧ (S 1100033 0) = (S 1055 0) ∧ 0 ≤ (S 1055 0) ∧ (S 1055 0) ≤ (S 1046 0) ∧ (S 1046 0) + (if (0 : Int) = 1 then (0 : Int) else 2) ≤ (S 1046 0) ∧ sm_FC (S 29) (S 1046 0) (S 1046 0) (S 1056 0) ∧ (S 1100007 (S 1046 0)) = (S 1100007 (S 1046 0)) + (if (0 : Int) = 1 then (0 : Int) else 2) ∧ (S 1100023 (S 1046 0)) = (S 1100023 (S 1046 0)) ∧ (S 1100024 (S 1046 0)) = (S 1100024 (S 1046 0)) ∧ (S 1100025 (S 1046 0)) = (S 1100025 (S 1046 0)) ∧ (S 1100007 (S 1100023 (S 1046 0))) = (S 1100007 (S 1100023 (S 1046 0))) ∧ (S 1100007 (S 1100025 (S 1046 0))) = (S 1100007 (S 1100025 (S 1046 0))) ∧ sm_AP (S 1100030) (S 1053 0) (S 1053 0) ∧ sm_HB (S 1100007) (S 1046 0) (S 1046 0) (2 * (S 1100007 (S 1046 0)) + ((S 1046 0) - (S 1046 0)) + 8 * (if (S 1100005 p2) ≤ ((S 1100005 p3) + 1) then ((S 1100005 p3) + 1) else (S 1100005 p2)) + 12) ∧ (S 1053 0) ≤ (S 1053 0) + 3 * ((S 1046 0) - (S 1046 0)) ∧ True))) ∧ ((¬ (¬ (0 : Int) = (0 : Int))) → ((sm_WF (S 11) (S 12) (S 13) (S 1100001) (S 1100002) (S 1100005) (S 1100003) (S 1100004) (S 1024 0) (S 1007 0) (S 1009 0) (sm_fn (S 1032 0) (S 21) (S 1056 0)) → 0 ≤ p2 → p2 < (S 1024 0) → (S 1100001 p2) = 1 → (S 11 p2) = 7 → sm_ex (S 1100001) (S 1100002) (S 1100005) (S 1024 0) 1 ((S 12 (5 * (p2)))) ((S 1100002 (p2))) ((S 1100005 (p2))) ∧ (S 12 (5 * (p2))) < (p2) ∧ sm_ex (S 1100001) (S 1100002) (S 1100005) (S 1024 0) 1 ((S 12 (5 * (p2) + 1))) (((S 1100002 (p2))) - 1) ((S 1100005 (p2))) ∧ (S 12 (5 * (p2) + 1)) < (p2)) → ((sm_WF (S 11) (S 12) (S 13) (S 1100001) (S 1100002) (S 1100005) (S 1100003) (S 1100004) (S 1024 0) (S 1007 0) (S 1009 0) (sm_fn (S 1032 0) (S 21) (S 1056 0)) → 0 ≤ (S 12 (5 * p2)) → (S 12 (5 * p2)) < (S 1024 0) → ((S 1100001 ((S 12 (5 * p2)))) = 1 → 0 ≤ (S 1100002 ((S 12 (5 * p2)))) ∧ ((S 11 ((S 12 (5 * p2)))) = 3 → (S 12 (5 * ((S 12 (5 * p2))) + 1)) < ((S 12 (5 * p2)))) ∧ ((S 11 ((S 12 (5 * p2)))) = 4 ∨ (S 11 ((S 12 (5 * p2)))) = 5 ∨ (S 11 ((S 12 (5 * p2)))) = 8 ∨ (S 11 ((S 12 (5 * p2)))) = 9 → 17 * (S 1100005 ((S 12 (5 * p2)))) + 2 ≤ (S 1100002 ((S 12 (5 * p2))))) ∧ 0 ≤ (S 1100005 ((S 12 (5 * p2))))) ∧ ((S 1100001 ((S 12 (5 * p2)))) = 2 → 0 ≤ (S 1100005 ((S 12 (5 * p2)))) ∧ (S 1100002 ((S 12 (5 * p2)))) ≤ 17 * (S 1100005 ((S 12 (5 * p2)))) + 5 ∧ ((S 11 ((S 12 (5 * p2)))) = 33 → 1 ≤ (S 1100005 ((S 12 (5 * p2)))))) ∧ ((S 1100001 ((S 12 (5 * p2)))) = 6 → 0 ≤ (S 1100002 ((S 12 (5 * p2)))) ∧ 1 ≤ (S 1100004 ((S 12 (5 * p2)))) ∧ ((S 12 (5 * ((S 12 (5 * p2))))) = - 1 → (S 1100004 ((S 12 (5 * p2)))) = 2)) ∧ ((S 1100001 ((S 12 (5 * p2)))) = 3 → 1 ≤ (S 1100002 ((S 12 (5 * p2)))))) → ((sm_WF (S 11) (S 12) (S 13) (S 1100001) (S 1100002) (S 1100005) (S 1100003) (S 1100004) (S 1024 0) (S 1007 0) (S 1009 0) (sm_fn (S 1032 0) (S 21) (S 1056 0)) → 0 ≤ (S 12 (5 * p2 + 1)) → (S 12 (5 * p2 + 1)) < (S 1024 0) → ((S 1100001 ((S 12 (5 * p2 + 1)))) = 1 → 0 ≤ (S 1100002 ((S 12 (5 * p2 + 1)))) ∧ ((S 11 ((S 12 (5 * p2 + 1)))) = 3 → (S 12 (5 * ((S 12 (5 * p2 + 1))) + 1)) < ((S 12 (5 * p2 + 1)))) ∧ ((S 11 ((S 12 (5 * p2 + 1)))) = 4 ∨ (S 11 ((S 12 (5 * p2 + 1)))) = 5 ∨ (S 11 ((S 12 (5 * p2 + 1)))) = 8 ∨ (S 11 ((S 12 (5 * p2 + 1)))) = 9 → 17 * (S 1100005 ((S 12 (5 * p2 + 1)))) + 2 ≤ (S 1100002 ((S 12 (5 * p2 + 1))))) ∧ 0 ≤ (S 1100005 ((S 12 (5 * p2 + 1))))) ∧ ((S 1100001 ((S 12 (5 * p2 + 1)))) = 2 → 0 ≤ (S 1100005 ((S 12 (5 * p2 + 1)))) ∧ (S 1100002 ((S 12 (5 * p2 + 1)))) ≤ 17 * (S 1100005 ((S 12 (5 * p2 + 1)))) + 5 ∧ ((S 11 ((S 12 (5 * p2 + 1)))) = 33 → 1 ≤ (S 1100005 ((S 12 (5 * p2 + 1)))))) ∧ ((S 1100001 ((S 12 (5 * p2 + 1)))) = 6 → 0 ≤ (S 1100002 ((S 12 (5 * p2 + 1)))) ∧ 1 ≤ (S 1100004 ((S 12 (5 * p2 + 1)))) ∧ ((S 12 (5 * ((S 12 (5 * p2 + 1))))) = - 1 → (S 1100004 ((S 12 (5 * p2 + 1)))) = 2)) ∧ ((S 1100001 ((S 12 (5 * p2 + 1)))) = 3 → 1 ≤ (S 1100002 ((S 12 (5 * p2 + 1)))))) → (((S 1100005 (S 12 (5 * p2 + 0))) = (S 1100005 (S 12 (5 * p2)))) → (((S 1100002 (S 12 (5 * p2 + 0))) = (S 1100002 (S 12 (5 * p2)))) → (0 ≤ p2 ∧ p2 < 12000 ∧ 0 ≤ (0 : Int) ∧ (0 : Int) ≤ 4) ∧ (0 + 1 ≤ ((if (S 1100002 p2) ≤ (S 1100002 p3) then (S 1100002 p3) else (S 1100002 p2)) + (600 - (S 1046 0)) + 9)) ∧ (sm_WF (S 11) (S 12) (S 13) (S 1100001) (S 1100002) (S 1100005) (S 1100003) (S 1100004) (S 1024 0) (S 1007 0) (S 1009 0) (sm_fn (S 1032 0) (S 21) (S 1056 0)) ∧ (S 1009 0) = 0 ∧ 0 ≤ (S 1007 0) ∧ (S 1007 0) ≤ 90 ∧ 0 ≤ (S 1024 0) ∧ (S 1024 0) ≤ 12000 ∧ 1 ≤ (S 1032 0) ∧ (S 1032 0) ≤ 11 ∧ 0 ≤ (S 1056 0) ∧ (S 1056 0) < (S 1032 0) ∧ sm_VB (S 33) (S 21) (S 1032 0) ∧ 0 ≤ (S 1046 0) ∧ (S 1046 0) ≤ 600 ∧ 0 ≤ (S 1047 0) ∧ (S 1047 0) ≤ 1 ∧ 0 ≤ (S 1053 0) ∧ 0 ≤ (S 1066 0) ∧ 0 ≤ ((S 12 (5 * p2 + (0 : Int)))) ∧ ((S 12 (5 * p2 + (0 : Int)))) < (S 1024 0) ∧ (S 1100001 ((S 12 (5 * p2 + (0 : Int))))) = 1 ∧ sm_LF (S 39) (S 1100002) (S 1066 0) (S 1024 0) (12001 * (S 1100002 ((S 12 (5 * p2 + (0 : Int))))) + ((S 12 (5 * p2 + (0 : Int))))) ∧ ((S 1047 0) = 0 → sm_KC (S 26) (S 27) (S 28) (S 29) (S 1100007) (S 1100023) (S 1100024) (S 1100025) (S 31) (S 1100009) (S 1100027) (S 1100028) (S 1100026) (S 1100030) (S 21) (S 32) (S 33) (S 1046 0) (S 1053 0) (S 1056 0) (S 1032 0) (S 1007 0) (S 1100033 0) ∧ (S 1100033 0) = (S 1055 0) ∧ 0 ≤ (S 1055 0) ∧ (S 1055 0) ≤ (S 1046 0) ∧ (0 ≤ (S 1100023 (S 1046 0)) → (S 1100007 (S 1100023 (S 1046 0))) ≤ (S 1100007 (S 1046 0))) ∧ (0 ≤ (S 1100025 (S 1046 0)) → (S 1100007 (S 1100025 (S 1046 0))) ≤ (S 1100007 (S 1046 0))) ∧ (S 1100007 (S 1046 0)) ≤ (S 1046 0) ∧ (S 1053 0) + 3 * (600 - (S 1046 0)) + (S 1100002 ((S 12 (5 * p2 + (0 : Int))))) ≤ 8000)) ∧ (0 ≤ ((if (S 1047 0) = 0 then (S 1100002 ((S 12 (5 * p2 + (0 : Int))))) + (600 - (S 1046 0)) + 8 else 4)) ∧ ((if (S 1047 0) = 0 then (S 1100002 ((S 12 (5 * p2 + (0 : Int))))) + (600 - (S 1046 0)) + 8 else 4)) < d) ∧ (0 ≤ ((if (S 1047 0) = 0 then (S 1100002 ((S 12 (5 * p2 + (0 : Int))))) + (600 - (S 1046 0)) + 8 else 4)) ∧ ((if (S 1047 0) = 0 then (S 1100002 ((S 12 (5 * p2 + (0 : Int))))) + (600 - (S 1046 0)) + 8 else 4)) + 1 ≤ ((if (S 1100002 p2) ≤ (S 1100002 p3) then (S 1100002 p3) else (S 1100002 p2)) + (600 - (S 1046 0)) + 9)) ∧ (∀ g99 : sv_S, (0 ≤ (g99 1046 0) ∧ (g99 1046 0) ≤ 600 ∧ 0 ≤ (g99 1047 0) ∧ (g99 1047 0) ≤ 1 ∧ 0 ≤ (g99 1053 0) ∧ 0 ≤ (g99 1066 0) ∧ (S 1046 0) ≤ (g99 1046 0) ∧ ((S 1047 0) = 1 → (g99 1047 0) = 1) ∧ sm_F1 (S 26) (g99 26) (S 1046 0) ∧ sm_F1 (S 27) (g99 27) (S 1046 0) ∧ sm_F1 (S 28) (g99 28) (S 1046 0) ∧ sm_F1 (S 29) (g99 29) (S 1046 0) ∧ sm_F1 (S 1100007) (g99 1100007) ((S 1046 0) + 1) ∧ sm_F1 (S 1100023) (g99 1100023) ((S 1046 0) + 1) ∧ sm_F1 (S 1100024) (g99 1100024) ((S 1046 0) + 1) ∧ sm_F1 (S 1100025) (g99 1100025) ((S 1046 0) + 1) ∧ sm_F1 (S 1100009) (g99 1100009) (S 1053 0) ∧ sm_F1 (S 1100027) (g99 1100027) (S 1053 0) ∧ sm_F1 (S 1100028) (g99 1100028) (S 1053 0) ∧ sm_F1 (S 1100026) (g99 1100026) (S 1053 0) ∧ sm_F1 (S 1100030) (g99 1100030) (S 1053 0) ∧ sm_F1 (S 31) (g99 31) (S 1053 0) ∧ (S 1053 0) ≤ (g99 1053 0) ∧ (g99 1066 0) = (S 1066 0) ∧ sm_F1 (S 39) (g99 39) (S 1066 0) ∧ ((S 1047 0) = 1 → (g99 1053 0) = (S 1053 0)) ∧ ((S 1047 0) = 0 → (g99 1053 0) ≤ (S 1053 0) + 3 * (600 - (S 1046 0)) + (S 1100002 ((S 12 (5 * p2 + (0 : Int)))))) ∧ ((g99 1047 0) = 0 → (S 1047 0) = 0 ∧ sm_KC (g99 26) (g99 27) (g99 28) (g99 29) (g99 1100007) (g99 1100023) (g99 1100024) (g99 1100025) (g99 31) (g99 1100009) (g99 1100027) (g99 1100028) (g99 1100026) (g99 1100030) (S 21) (S 32) (S 33) (g99 1046 0) (g99 1053 0) (S 1056 0) (S 1032 0) (S 1007 0) (g99 1100033 0) ∧ (g99 1100033 0) = (g99 1055 0) ∧ 0 ≤ (g99 1055 0) ∧ (g99 1055 0) ≤ (g99 1046 0) ∧ (S 1046 0) + 1 ≤ (g99 1046 0) ∧ sm_FC (g99 29) (S 1046 0) (g99 1046 0) (S 1056 0) ∧ (g99 1100007 (g99 1046 0)) = (S 1100007 (S 1046 0)) + 1 ∧ (g99 1100023 (g99 1046 0)) = (S 1100023 (S 1046 0)) ∧ (g99 1100024 (g99 1046 0)) = (S 1100024 (S 1046 0)) ∧ (g99 1100025 (g99 1046 0)) = (S 1100025 (S 1046 0)) ∧ (g99 1100007 (g99 1100023 (g99 1046 0))) = (S 1100007 (S 1100023 (S 1046 0))) ∧ (g99 1100007 (g99 1100025 (g99 1046 0))) = (S 1100007 (S 1100025 (S 1046 0))) ∧ sm_AP (g99 1100030) (S 1053 0) (g99 1053 0) ∧ sm_HB (g99 1100007) (S 1046 0) (g99 1046 0) (2 * (S 1100007 (S 1046 0)) + ((g99 1046 0) - (S 1046 0)) + 8 * (S 1100005 ((S 12 (5 * p2 + (0 : Int))))) + 10) ∧ (g99 1053 0) ≤ (S 1053 0) + 3 * ((g99 1046 0) - (S 1046 0)) ∧ True)) → (0 ≤ p2 ∧ p2 < 12000 ∧ 0 ≤ (1 : Int) ∧ (1 : Int) ≤ 4) ∧ (sm_WF (S 11) (S 12) (S 13) (S 1100001) (S 1100002) (S 1100005) (S 1100003) (S 1100004) (S 1024 0) (S 1007 0) (S 1009 0) (sm_fn (S 1032 0) (S 21) (S 1056 0)) ∧ (S 1009 0) = 0 ∧ 0 ≤ (S 1007 0) ∧ (S 1007 0) ≤ 90 ∧ 0 ≤ (S 1024 0) ∧ (S 1024 0) ≤ 12000 ∧ 1 ≤ (S 1032 0) ∧ (S 1032 0) ≤ 11 ∧ 0 ≤ (S 1056 0) ∧ (S 1056 0) < (S 1032 0) ∧ sm_VB (S 33) (S 21) (S 1032 0) ∧ 0 ≤ (g99 1046 0) ∧ (g99 1046 0) ≤ 600 ∧ 0 ≤ (g99 1047 0) ∧ (g99 1047 0) ≤ 1 ∧ 0 ≤ (g99 1053 0) ∧ 0 ≤ (g99 1066 0) ∧ 0 ≤ ((S 12 (5 * p2 + (1 : Int)))) ∧ ((S 12 (5 * p2 + (1 : Int)))) < (S 1024 0) ∧ (S 1100001 ((S 12 (5 * p2 + (1 : Int))))) = 1 ∧ sm_LF (g99 39) (S 1100002) (g99 1066 0) (S 1024 0) (12001 * (S 1100002 ((S 12 (5 * p2 + (1 : Int))))) + ((S 12 (5 * p2 + (1 : Int))))) ∧ ((g99 1047 0) = 0 → sm_KC (g99 26) (g99 27) (g99 28) (g99 29) (g99 1100007) (g99 1100023) (g99 1100024) (g99 1100025) (g99 31) (g99 1100009) (g99 1100027) (g99 1100028) (g99 1100026) (g99 1100030) (S 21) (S 32) (S 33) (g99 1046 0) (g99 1053 0) (S 1056 0) (S 1032 0) (S 1007 0) (g99 1100033 0) ∧ (g99 1100033 0) = (g99 1055 0) ∧ 0 ≤ (g99 1055 0) ∧ (g99 1055 0) ≤ (g99 1046 0) ∧ (0 ≤ (g99 1100023 (g99 1046 0)) → (g99 1100007 (g99 1100023 (g99 1046 0))) ≤ (g99 1100007 (g99 1046 0))) ∧ (0 ≤ (g99 1100025 (g99 1046 0)) → (g99 1100007 (g99 1100025 (g99 1046 0))) ≤ (g99 1100007 (g99 1046 0))) ∧ (g99 1100007 (g99 1046 0)) ≤ (g99 1046 0) ∧ (g99 1053 0) + 3 * (600 - (g99 1046 0)) + (S 1100002 ((S 12 (5 * p2 + (1 : Int))))) ≤ 8000)) ∧ (0 ≤ ((if (g99 1047 0) = 0 then (S 1100002 ((S 12 (5 * p2 + (1 : Int))))) + (600 - (g99 1046 0)) + 8 else 4)) ∧ ((if (g99 1047 0) = 0 then (S 1100002 ((S 12 (5 * p2 + (1 : Int))))) + (600 - (g99 1046 0)) + 8 else 4)) < d) ∧ (0 ≤ ((if (g99 1047 0) = 0 then (S 1100002 ((S 12 (5 * p2 + (1 : Int))))) + (600 - (g99 1046 0)) + 8 else 4)) ∧ ((if (g99 1047 0) = 0 then (S 1100002 ((S 12 (5 * p2 + (1 : Int))))) + (600 - (g99 1046 0)) + 8 else 4)) + 1 ≤ ((if (S 1100002 p2) ≤ (S 1100002 p3) then (S 1100002 p3) else (S 1100002 p2)) + (600 - (S 1046 0)) + 9)) ∧ (∀ g109 : sv_S, (0 ≤ (g109 1046 0) ∧ (g109 1046 0) ≤ 600 ∧ 0 ≤ (g109 1047 0) ∧ (g109 1047 0) ≤ 1 ∧ 0 ≤ (g109 1053 0) ∧ 0 ≤ (g109 1066 0) ∧ (g99 1046 0) ≤ (g109 1046 0) ∧ ((g99 1047 0) = 1 → (g109 1047 0) = 1) ∧ sm_F1 (g99 26) (g109 26) (g99 1046 0) ∧ sm_F1 (g99 27) (g109 27) (g99 1046 0) ∧ sm_F1 (g99 28) (g109 28) (g99 1046 0) ∧ sm_F1 (g99 29) (g109 29) (g99 1046 0) ∧ sm_F1 (g99 1100007) (g109 1100007) ((g99 1046 0) + 1) ∧ sm_F1 (g99 1100023) (g109 1100023) ((g99 1046 0) + 1) ∧ sm_F1 (g99 1100024) (g109 1100024) ((g99 1046 0) + 1) ∧ sm_F1 (g99 1100025) (g109 1100025) ((g99 1046 0) + 1) ∧ sm_F1 (g99 1100009) (g109 1100009) (g99 1053 0) ∧ sm_F1 (g99 1100027) (g109 1100027) (g99 1053 0) ∧ sm_F1 (g99 1100028) (g109 1100028) (g99 1053 0) ∧ sm_F1 (g99 1100026) (g109 1100026) (g99 1053 0) ∧ sm_F1 (g99 1100030) (g109 1100030) (g99 1053 0) ∧ sm_F1 (g99 31) (g109 31) (g99 1053 0) ∧ (g99 1053 0) ≤ (g109 1053 0) ∧ (g109 1066 0) = (g99 1066 0) ∧ sm_F1 (g99 39) (g109 39) (g99 1066 0) ∧ ((g99 1047 0) = 1 → (g109 1053 0) = (g99 1053 0)) ∧ ((g99 1047 0) = 0 → (g109 1053 0) ≤ (g99 1053 0) + 3 * (600 - (g99 1046 0)) + (S 1100002 ((S 12 (5 * p2 + (1 : Int)))))) ∧ ((g109 1047 0) = 0 → (g99 1047 0) = 0 ∧ sm_KC (g109 26) (g109 27) (g109 28) (g109 29) (g109 1100007) (g109 1100023) (g109 1100024) (g109 1100025) (g109 31) (g109 1100009) (g109 1100027) (g109 1100028) (g109 1100026) (g109 1100030) (S 21) (S 32) (S 33) (g109 1046 0) (g109 1053 0) (S 1056 0) (S 1032 0) (S 1007 0) (g109 1100033 0) ∧ (g109 1100033 0) = (g109 1055 0) ∧ 0 ≤ (g109 1055 0) ∧ (g109 1055 0) ≤ (g109 1046 0) ∧ (g99 1046 0) + 1 ≤ (g109 1046 0) ∧ sm_FC (g109 29) (g99 1046 0) (g109 1046 0) (S 1056 0) ∧ (g109 1100007 (g109 1046 0)) = (g99 1100007 (g99 1046 0)) + 1 ∧ (g109 1100023 (g109 1046 0)) = (g99 1100023 (g99 1046 0)) ∧ (g109 1100024 (g109 1046 0)) = (g99 1100024 (g99 1046 0)) ∧ (g109 1100025 (g109 1046 0)) = (g99 1100025 (g99 1046 0)) ∧ (g109 1100007 (g109 1100023 (g109 1046 0))) = (g99 1100007 (g99 1100023 (g99 1046 0))) ∧ (g109 1100007 (g109 1100025 (g109 1046 0))) = (g99 1100007 (g99 1100025 (g99 1046 0))) ∧ sm_AP (g109 1100030) (g99 1053 0) (g109 1053 0) ∧ sm_HB (g109 1100007) (g99 1046 0) (g109 1046 0) (2 * (g99 1100007 (g99 1046 0)) + ((g109 1046 0) - (g99 1046 0)) + 8 * (S 1100005 ((S 12 (5 * p2 + (1 : Int))))) + 10) ∧ (g109 1053 0) ≤ (g99 1053 0) + 3 * ((g109 1046 0) - (g99 1046 0)) ∧ True)) → (((0 : Int) = 0 ∨ (0 : Int) = 1) ∧ ((0 : Int) = 1 → (S 11 p2) = 2) ∧ ((0 : Int) = 0 → (S 11 p2) = 7) ∧ 0 ≤ (g109 1046 0) ∧ (g109 1046 0) ≤ 600 ∧ 0 ≤ (g109 1047 0) ∧ (g109 1047 0) ≤ 1 ∧ 0 ≤ (g109 1053 0) ∧ 0 ≤ (g109 1066 0) ∧ (S 1046 0) ≤ (g109 1046 0) ∧ ((S 1047 0) = 1 → (g109 1047 0) = 1) ∧ sm_F1 (S 26) (g109 26) (S 1046 0) ∧ sm_F1 (S 27) (g109 27) (S 1046 0) ∧ sm_F1 (S 28) (g109 28) (S 1046 0) ∧ sm_F1 (S 29) (g109 29) (S 1046 0) ∧ sm_F1 (S 1100007) (g109 1100007) ((S 1046 0) + 1) ∧ sm_F1 (S 1100023) (g109 1100023) ((S 1046 0) + 1) ∧ sm_F1 (S 1100024) (g109 1100024) ((S 1046 0) + 1) ∧ sm_F1 (S 1100025) (g109 1100025) ((S 1046 0) + 1) ∧ sm_F1 (S 1100009) (g109 1100009) (S 1053 0) ∧ sm_F1 (S 1100027) (g109 1100027) (S 1053 0) ∧ sm_F1 (S 1100028) (g109 1100028) (S 1053 0) ∧ sm_F1 (S 1100026) (g109 1100026) (S 1053 0) ∧ sm_F1 (S 1100030) (g109 1100030) (S 1053 0) ∧ sm_F1 (S 31) (g109 31) (S 1053 0) ∧ (S 1053 0) ≤ (g109 1053 0) ∧ (g109 1066 0) = (S 1066 0) ∧ sm_F1 (S 39) (g109 39) (S 1066 0) ∧ ((S 1047 0) = 1 → (g109 1053 0) = (S 1053 0)) ∧ ((S 1047 0) = 0 → (g109 1053 0) ≤ (S 1053 0) + 3 * (600 - (S 1046 0)) + (if (S 1100002 p2) ≤ (S 1100002 p3) then (S 1100002 p3) else (S 1100002 p2))) ∧ ((g109 1047 0) = 0 → (S 1047 0) = 0 ∧ sm_KC (g109 26) (g109 27) (g109 28) (g109 29) (g109 1100007) (g109 1100023) (g109 1100024) (g109 1100025) (g109 31) (g109 1100009) (g109 1100027) (g109 1100028) (g109 1100026) (g109 1100030) (S 21) (S 32) (S 33) (g109 1046 0) (g109 1053 0) (S 1056 0) (S 1032 0) (S 1007 0) (g109 1100033 0) ∧ (g109 1100033 0) = (g109 1055 0) ∧ 0 ≤ (g109 1055 0) ∧ (g109 1055 0) ≤ (g109 1046 0) ∧ (S 1046 0) + (if (0 : Int) = 1 then (0 : Int) else 2) ≤ (g109 1046 0) ∧ sm_FC (g109 29) (S 1046 0) (g109 1046 0) (S 1056 0) ∧ (g109 1100007 (g109 1046 0)) = (S 1100007 (S 1046 0)) + (if (0 : Int) = 1 then (0 : Int) else 2) ∧ (g109 1100023 (g109 1046 0)) = (S 1100023 (S 1046 0)) ∧ (g109 1100024 (g109 1046 0)) = (S 1100024 (S 1046 0)) ∧ (g109 1100025 (g109 1046 0)) = (S 1100025 (S 1046 0)) ∧ (g109 1100007 (g109 1100023 (g109 1046 0))) = (S 1100007 (S 1100023 (S 1046 0))) ∧ (g109 1100007 (g109 1100025 (g109 1046 0))) = (S 1100007 (S 1100025 (S 1046 0))) ∧ sm_AP (g109 1100030) (S 1053 0) (g109 1053 0) ∧ sm_HB (g109 1100007) (S 1046 0) (g109 1046 0) (2 * (S 1100007 (S 1046 0)) + ((g109 1046 0) - (S 1046 0)) + 8 * (if (S 1100005 p2) ≤ ((S 1100005 p3) + 1) then ((S 1100005 p3) + 1) else (S 1100005 p2)) + 12) ∧ (g109 1053 0) ≤ (S 1053 0) + 3 * ((g109 1046 0) - (S 1046 0)) ∧ True))))))))))))) ∧ ((¬ (¬ (S 11 p2) = (2 : Int))) → ((∀ g115 : sv_S, (((1 : Int) = 0 ∨ (1 : Int) = 1) ∧ ((1 : Int) = 1 → (S 11 p2) = 2) ∧ ((1 : Int) = 0 → (S 11 p2) = 7) ∧ 0 ≤ (g115 1046 0) ∧ (g115 1046 0) ≤ 600 ∧ 0 ≤ (g115 1047 0) ∧ (g115 1047 0) ≤ 1 ∧ 0 ≤ (g115 1053 0) ∧ 0 ≤ (g115 1066 0) ∧ (S 1046 0) ≤ (g115 1046 0) ∧ ((S 1047 0) = 1 → (g115 1047 0) = 1) ∧ sm_F1 (S 26) (g115 26) (S 1046 0) ∧ sm_F1 (S 27) (g115 27) (S 1046 0) ∧ sm_F1 (S 28) (g115 28) (S 1046 0) ∧ sm_F1 (S 29) (g115 29) (S 1046 0) ∧ sm_F1 (S 1100007) (g115 1100007) ((S 1046 0) + 1) ∧ sm_F1 (S 1100023) (g115 1100023) ((S 1046 0) + 1) ∧ sm_F1 (S 1100024) (g115 1100024) ((S 1046 0) + 1) ∧ sm_F1 (S 1100025) (g115 1100025) ((S 1046 0) + 1) ∧ sm_F1 (S 1100009) (g115 1100009) (S 1053 0) ∧ sm_F1 (S 1100027) (g115 1100027) (S 1053 0) ∧ sm_F1 (S 1100028) (g115 1100028) (S 1053 0) ∧ sm_F1 (S 1100026) (g115 1100026) (S 1053 0) ∧ sm_F1 (S 1100030) (g115 1100030) (S 1053 0) ∧ sm_F1 (S 31) (g115 31) (S 1053 0) ∧ (S 1053 0) ≤ (g115 1053 0) ∧ (g115 1066 0) = (S 1066 0) ∧ sm_F1 (S 39) (g115 39) (S 1066 0) ∧ ((S 1047 0) = 1 → (g115 1053 0) = (S 1053 0)) ∧ ((S 1047 0) = 0 → (g115 1053 0) ≤ (S 1053 0) + 3 * (600 - (S 1046 0)) + (if (S 1100002 p2) ≤ (S 1100002 p3) then (S 1100002 p3) else (S 1100002 p2))) ∧ ((g115 1047 0) = 0 → (S 1047 0) = 0 ∧ sm_KC (g115 26) (g115 27) (g115 28) (g115 29) (g115 1100007) (g115 1100023) (g115 1100024) (g115 1100025) (g115 31) (g115 1100009) (g115 1100027) (g115 1100028) (g115 1100026) (g115 1100030) (S 21) (S 32) (S 33) (g115 1046 0) (g115 1053 0) (S 1056 0) (S 1032 0) (S 1007 0) (g115 1100033 0) ∧ (g115 1100033 0) = (g115 1055 0) ∧ 0 ≤ (g115 1055 0) ∧ (g115 1055 0) ≤ (g115 1046 0) ∧ (S 1046 0) + (if (1 : Int) = 1 then (0 : Int) else 2) ≤ (g115 1046 0) ∧ sm_FC (g115 29) (S 1046 0) (g115 1046 0) (S 1056 0) ∧ (g115 1100007 (g115 1046 0)) = (S 1100007 (S 1046 0)) + (if (1 : Int) = 1 then (0 : Int) else 2) ∧ (g115 1100023 (g115 1046 0)) = (S 1100023 (S 1046 0)) ∧ (g115 1100024 (g115 1046 0)) = (S 1100024 (S 1046 0)) ∧ (g115 1100025 (g115 1046 0)) = (S 1100025 (S 1046 0)) ∧ (g115 1100007 (g115 1100023 (g115 1046 0))) = (S 1100007 (S 1100023 (S 1046 0))) ∧ (g115 1100007 (g115 1100025 (g115 1046 0))) = (S 1100007 (S 1100025 (S 1046 0))) ∧ sm_AP (g115 1100030) (S 1053 0) (g115 1053 0) ∧ sm_HB (g115 1100007) (S 1046 0) (g115 1046 0) (2 * (S 1100007 (S 1046 0)) + ((g115 1046 0) - (S 1046 0)) + 8 * (if (S 1100005 p2) ≤ ((S 1100005 p3) + 1) then ((S 1100005 p3) + 1) else (S 1100005 p2)) + 12) ∧ (g115 1053 0) ≤ (S 1053 0) + 3 * ((g115 1046 0) - (S 1046 0)) ∧ True)) → ((∀ g120 : sv_S, (0 ≤ (g120 1046 0) ∧ (g120 1046 0) ≤ 600 ∧ 0 ≤ (g120 1047 0) ∧ (g120 1047 0) ≤ 1 ∧ 0 ≤ (g120 1053 0) ∧ 0 ≤ (g120 1066 0) ∧ (S 1046 0) ≤ (g120 1046 0) ∧ ((S 1047 0) = 1 → (g120 1047 0) = 1) ∧ sm_F1 (S 26) (g120 26) (S 1046 0) ∧ sm_F1 (S 27) (g120 27) (S 1046 0) ∧ sm_F1 (S 28) (g120 28) (S 1046 0) ∧ sm_F1 (S 29) (g120 29) (S 1046 0) ∧ sm_F1 (S 1100007) (g120 1100007) ((S 1046 0) + 1) ∧ sm_F1 (S 1100023) (g120 1100023) ((S 1046 0) + 1) ∧ sm_F1 (S 1100024) (g120 1100024) ((S 1046 0) + 1) ∧ sm_F1 (S 1100025) (g120 1100025) ((S 1046 0) + 1) ∧ sm_F1 (S 1100009) (g120 1100009) (S 1053 0) ∧ sm_F1 (S 1100027) (g120 1100027) (S 1053 0) ∧ sm_F1 (S 1100028) (g120 1100028) (S 1053 0) ∧ sm_F1 (S 1100026) (g120 1100026) (S 1053 0) ∧ sm_F1 (S 1100030) (g120 1100030) (S 1053 0) ∧ sm_F1 (S 31) (g120 31) (S 1053 0) ∧ (S 1053 0) ≤ (g120 1053 0) ∧ (g120 1066 0) = (S 1066 0) ∧ sm_F1 (S 39) (g120 39) (S 1066 0) ∧ ((S 1047 0) = 1 → (g120 1053 0) = (S 1053 0)) ∧ ((S 1047 0) = 0 → (g120 1053 0) ≤ (S 1053 0) + 3 * (600 - (S 1046 0)) + (if (S 1100002 p2) ≤ (S 1100002 p3) then (S 1100002 p3) else (S 1100002 p2))) ∧ ((g120 1047 0) = 0 → (S 1047 0) = 0 ∧ sm_KC (g120 26) (g120 27) (g120 28) (g120 29) (g120 1100007) (g120 1100023) (g120 1100024) (g120 1100025) (g120 31) (g120 1100009) (g120 1100027) (g120 1100028) (g120 1100026) (g120 1100030) (S 21) (S 32) (S 33) (g120 1046 0) (g120 1053 0) (S 1056 0) (S 1032 0) (S 1007 0) (g120 1100033 0) ∧ (g120 1100033 0) = (g120 1055 0) ∧ 0 ≤ (g120 1055 0) ∧ (g120 1055 0) ≤ (g120 1046 0) ∧ (S 1046 0) + ((if (1 : Int) = 1 then (0 : Int) else 2) + (if p1 = -1 then (0 : Int) else 1)) ≤ (g120 1046 0) ∧ sm_FC (g120 29) (S 1046 0) (g120 1046 0) (S 1056 0) ∧ (g120 1100007 (g120 1046 0)) = (S 1100007 (S 1046 0)) + ((if (1 : Int) = 1 then (0 : Int) else 2) + (if p1 = -1 then (0 : Int) else 1)) ∧ (g120 1100023 (g120 1046 0)) = (S 1100023 (S 1046 0)) ∧ (g120 1100024 (g120 1046 0)) = (S 1100024 (S 1046 0)) ∧ (g120 1100025 (g120 1046 0)) = (S 1100025 (S 1046 0)) ∧ (g120 1100007 (g120 1100023 (g120 1046 0))) = (S 1100007 (S 1100023 (S 1046 0))) ∧ (g120 1100007 (g120 1100025 (g120 1046 0))) = (S 1100007 (S 1100025 (S 1046 0))) ∧ sm_AP (g120 1100030) (S 1053 0) (g120 1053 0) ∧ sm_HB (g120 1100007) (S 1046 0) (g120 1046 0) (2 * (S 1100007 (S 1046 0)) + ((g120 1046 0) - (S 1046 0)) + 8 * (if (S 1100005 p2) ≤ ((S 1100005 p3) + 1) then ((S 1100005 p3) + 1) else (S 1100005 p2)) + 12) ∧ (g120 1053 0) ≤ (S 1053 0) + 3 * ((g120 1046 0) - (S 1046 0)) ∧ True)) → ((0 ≤ (if (1 : Int) = 1 then (0 : Int) else 2) + (if p1 = -1 then (0 : Int) else 1) ∧ (if (1 : Int) = 1 then (0 : Int) else 2) + (if p1 = -1 then (0 : Int) else 1) ≤ 3) → ((∀ g126 : sv_S, (0 ≤ (g126 1046 0) ∧ (g126 1046 0) ≤ 600 ∧ 0 ≤ (g126 1047 0) ∧ (g126 1047 0) ≤ 1 ∧ 0 ≤ (g126 1053 0) ∧ 0 ≤ (g126 1066 0) ∧ (S 1046 0) ≤ (g126 1046 0) ∧ ((S 1047 0) = 1 → (g126 1047 0) = 1) ∧ sm_F1 (S 26) (g126 26) (S 1046 0) ∧ sm_F1 (S 27) (g126 27) (S 1046 0) ∧ sm_F1 (S 28) (g126 28) (S 1046 0) ∧ sm_F1 (S 29) (g126 29) (S 1046 0) ∧ sm_F1 (S 1100007) (g126 1100007) ((S 1046 0) + 1) ∧ sm_F1 (S 1100023) (g126 1100023) ((S 1046 0) + 1) ∧ sm_F1 (S 1100024) (g126 1100024) ((S 1046 0) + 1) ∧ sm_F1 (S 1100025) (g126 1100025) ((S 1046 0) + 1) ∧ sm_F1 (S 1100009) (g126 1100009) (S 1053 0) ∧ sm_F1 (S 1100027) (g126 1100027) (S 1053 0) ∧ sm_F1 (S 1100028) (g126 1100028) (S 1053 0) ∧ sm_F1 (S 1100026) (g126 1100026) (S 1053 0) ∧ sm_F1 (S 1100030) (g126 1100030) (S 1053 0) ∧ sm_F1 (S 31) (g126 31) (S 1053 0) ∧ (S 1053 0) ≤ (g126 1053 0) ∧ (g126 1066 0) = (S 1066 0) ∧ sm_F1 (S 39) (g126 39) (S 1066 0) ∧ ((S 1047 0) = 1 → (g126 1053 0) = (S 1053 0)) ∧ ((S 1047 0) = 0 → (g126 1053 0) ≤ (S 1053 0) + 3 * (600 - (S 1046 0)) + (if (S 1100002 p2) ≤ (S 1100002 p3) then (S 1100002 p3) else (S 1100002 p2))) ∧ ((g126 1047 0) = 0 → (S 1047 0) = 0 ∧ sm_KC (g126 26) (g126 27) (g126 28) (g126 29) (g126 1100007) (g126 1100023) (g126 1100024) (g126 1100025) (g126 31) (g126 1100009) (g126 1100027) (g126 1100028) (g126 1100026) (g126 1100030) (S 21) (S 32) (S 33) (g126 1046 0) (g126 1053 0) (S 1056 0) (S 1032 0) (S 1007 0) (g126 1100033 0) ∧ (g126 1100033 0) = (g126 1055 0) ∧ 0 ≤ (g126 1055 0) ∧ (g126 1055 0) ≤ (g126 1046 0) ∧ (S 1046 0) + ((if (1 : Int) = 1 then (0 : Int) else 2) + 1) ≤ (g126 1046 0) ∧ sm_FC (g126 29) (S 1046 0) (g126 1046 0) (S 1056 0) ∧ (g126 1100007 (g126 1046 0)) = (S 1100007 (S 1046 0)) + ((if (1 : Int) = 1 then (0 : Int) else 2) + 1) ∧ (g126 1100023 (g126 1046 0)) = (S 1100023 (S 1046 0)) ∧ (g126 1100024 (g126 1046 0)) = (S 1100024 (S 1046 0)) ∧ (g126 1100025 (g126 1046 0)) = (S 1100025 (S 1046 0)) ∧ (g126 1100007 (g126 1100023 (g126 1046 0))) = (S 1100007 (S 1100023 (S 1046 0))) ∧ (g126 1100007 (g126 1100025 (g126 1046 0))) = (S 1100007 (S 1100025 (S 1046 0))) ∧ sm_AP (g126 1100030) (S 1053 0) (g126 1053 0) ∧ sm_HB (g126 1100007) (S 1046 0) (g126 1046 0) (2 * (S 1100007 (S 1046 0)) + ((g126 1046 0) - (S 1046 0)) + 8 * (if (S 1100005 p2) ≤ ((S 1100005 p3) + 1) then ((S 1100005 p3) + 1) else (S 1100005 p2)) + 11) ∧ (g126 1053 0) ≤ (S 1053 0) + 3 * ((g126 1046 0) - (S 1046 0)) ∧ True)) → ((((1 : Int) = (0 : Int)) → (0 ≤ (g126 1046 0) ∧ (g126 1046 0) ≤ 600 ∧ 0 ≤ (g126 1047 0) ∧ (g126 1047 0) ≤ 1 ∧ ((g126 1047 0) = 0 → sm_KC (g126 26) (g126 27) (g126 28) (g126 29) (g126 1100007) (g126 1100023) (g126 1100024) (g126 1100025) (g126 31) (g126 1100009) (g126 1100027) (g126 1100028) (g126 1100026) (g126 1100030) (S 21) (S 32) (S 33) (g126 1046 0) (g126 1053 0) (S 1056 0) (S 1032 0) (S 1007 0) (g126 1100033 0) ∧ 0 ≤ (11 : Int) ∧ (11 : Int) ≤ 30 ∧ sm_ci (11 : Int) ((0 : Int)) ((0 : Int)) (g126 1100007 (g126 1046 0)) (g126 1100023 (g126 1046 0)) (g126 1100024 (g126 1046 0)) (g126 1100025 (g126 1046 0)) (g126 1100007 (g126 1100023 (g126 1046 0))) (g126 1100007 (g126 1100025 (g126 1046 0))) (g126 1100023 (g126 1100023 (g126 1046 0))) (g126 1100025 (g126 1100025 (g126 1046 0))) (g126 1046 0) (g126 1100033 0) (S 1032 0) (S 1007 0) (S 21 (0 : Int)) (S 1056 0) ((g126 1100007 (g126 1046 0)) + sm_dl (11 : Int) ((0 : Int))) (sm_nt (11 : Int) (g126 1046 0) (g126 1100023 (g126 1046 0)) (g126 1100023 (g126 1100023 (g126 1046 0)))) (sm_nl (11 : Int) (g126 1046 0) (g126 1100007 (g126 1046 0)) (g126 1100025 (g126 1046 0)) (g126 1100007 (g126 1100025 (g126 1046 0))) (g126 1100025 (g126 1100025 (g126 1046 0)))) (g126 1100009 (0 : Int)) (g126 1100027 (0 : Int)) (g126 1100028 (0 : Int)) ∧ ((21 ≤ (11 : Int) ∧ (11 : Int) ≤ 24) ∨ (11 : Int) = 27 ∨ (11 : Int) = 30 → 0 ≤ (0 : Int) ∧ (0 : Int) < (g126 1053 0) ∧ (g126 1100026 (0 : Int)) = (S 1056 0)) ∧ ((11 : Int) = 1 ∨ (11 : Int) = 2 → sm_vv (S 21) (S 32) (S 33) (S 1056 0) (0 : Int) (0 : Int)))) ∧ (1 + 1 ≤ ((if (S 1100002 p2) ≤ (S 1100002 p3) then (S 1100002 p3) else (S 1100002 p2)) + (600 - (S 1046 0)) + 9)) ∧ (∀ g133 : sv_S, (0 ≤ (g133 1047 0) ∧ (g133 1047 0) ≤ 1 ∧ 1 ≤ (g133 1046 0) ∧ (g126 1046 0) ≤ (g133 1046 0) ∧ (g133 1046 0) ≤ (g126 1046 0) + 1 ∧ (g133 1046 0) ≤ 600 ∧ ((g126 1047 0) = 1 → (g133 1047 0) = 1) ∧ ((g133 1047 0) = 1 → (g126 1047 0) = 1 ∨ (g126 1046 0) = 600) ∧ sm_F1 (g126 26) (g133 26) (g126 1046 0) ∧ sm_F1 (g126 27) (g133 27) (g126 1046 0) ∧ sm_F1 (g126 28) (g133 28) (g126 1046 0) ∧ sm_F1 (g126 29) (g133 29) (g126 1046 0) ∧ sm_F1 (g126 1100007) (g133 1100007) ((g126 1046 0) + 1) ∧ sm_F1 (g126 1100023) (g133 1100023) ((g126 1046 0) + 1) ∧ sm_F1 (g126 1100024) (g133 1100024) ((g126 1046 0) + 1) ∧ sm_F1 (g126 1100025) (g133 1100025) ((g126 1046 0) + 1) ∧ ((g133 1047 0) = 0 → (g126 1047 0) = 0 ∧ (g133 1046 0) = (g126 1046 0) + 1 ∧ sm_KC (g133 26) (g133 27) (g133 28) (g133 29) (g133 1100007) (g133 1100023) (g133 1100024) (g133 1100025) (g126 31) (g126 1100009) (g126 1100027) (g126 1100028) (g126 1100026) (g126 1100030) (S 21) (S 32) (S 33) (g133 1046 0) (g126 1053 0) (S 1056 0) (S 1032 0) (S 1007 0) (g126 1100033 0) ∧ sm_MB (g126 31) (g126 1100030) (g126 1053 0) (g133 1046 0) ∧ (g133 26 (g126 1046 0)) = (11 : Int) ∧ (g133 29 (g126 1046 0)) = (S 1056 0) ∧ (g133 1100007 (g133 1046 0)) = ((g126 1100007 (g126 1046 0)) + sm_dl (11 : Int) ((0 : Int))) ∧ (g133 1100023 (g133 1046 0)) = (sm_nt (11 : Int) (g126 1046 0) (g126 1100023 (g126 1046 0)) (g126 1100023 (g126 1100023 (g126 1046 0)))) ∧ (g133 1100024 (g133 1046 0)) = (sm_nd (11 : Int) (g126 1100024 (g126 1046 0))) ∧ (g133 1100025 (g133 1046 0)) = (sm_nl (11 : Int) (g126 1046 0) (g126 1100007 (g126 1046 0)) (g126 1100025 (g126 1046 0)) (g126 1100007 (g126 1100025 (g126 1046 0))) (g126 1100025 (g126 1100025 (g126 1046 0)))) ∧ (g133 1100007 (g133 1100023 (g133 1046 0))) = sm_nt (11 : Int) (g126 1100007 (g126 1046 0)) (g126 1100007 (g126 1100023 (g126 1046 0))) (g126 1100007 (g126 1100023 (g126 1100023 (g126 1046 0)))) ∧ ((11 : Int) = 29 → (g133 1100007 (g133 1100025 (g133 1046 0))) = (g126 1100007 (g126 1046 0))) ∧ ((11 : Int) = 17 → 0 ≤ (g126 1100025 (g126 1046 0)) → (g126 1100007 (g126 1100025 (g126 1046 0))) = (g126 1100007 (g126 1046 0)) → (g133 1100007 (g133 1100025 (g133 1046 0))) = (g126 1100007 (g126 1100025 (g126 1100025 (g126 1046 0))))) ∧ (¬ (11 : Int) = 29 → ((11 : Int) = 17 → 0 ≤ (g126 1100025 (g126 1046 0)) → (g126 1100007 (g126 1100025 (g126 1046 0))) < (g126 1100007 (g126 1046 0))) → (g133 1100007 (g133 1100025 (g133 1046 0))) = (g126 1100007 (g126 1100025 (g126 1046 0)))))) → (0 ≤ (g133 1046 0) ∧ (g133 1046 0) ≤ 600 ∧ 0 ≤ (g133 1047 0) ∧ (g133 1047 0) ≤ 1 ∧ 0 ≤ (g126 1053 0) ∧ 0 ≤ (g126 1066 0) ∧ (S 1046 0) ≤ (g133 1046 0) ∧ ((S 1047 0) = 1 → (g133 1047 0) = 1) ∧ sm_F1 (S 26) (g133 26) (S 1046 0) ∧ sm_F1 (S 27) (g133 27) (S 1046 0) ∧ sm_F1 (S 28) (g133 28) (S 1046 0) ∧ sm_F1 (S 29) (g133 29) (S 1046 0) ∧ sm_F1 (S 1100007) (g133 1100007) ((S 1046 0) + 1) ∧ sm_F1 (S 1100023) (g133 1100023) ((S 1046 0) + 1) ∧ sm_F1 (S 1100024) (g133 1100024) ((S 1046 0) + 1) ∧ sm_F1 (S 1100025) (g133 1100025) ((S 1046 0) + 1) ∧ sm_F1 (S 1100009) (g126 1100009) (S 1053 0) ∧ sm_F1 (S 1100027) (g126 1100027) (S 1053 0) ∧ sm_F1 (S 1100028) (g126 1100028) (S 1053 0) ∧ sm_F1 (S 1100026) (g126 1100026) (S 1053 0) ∧ sm_F1 (S 1100030) (g126 1100030) (S 1053 0) ∧ sm_F1 (S 31) (g126 31) (S 1053 0) ∧ (S 1053 0) ≤ (g126 1053 0) ∧ (g126 1066 0) = (S 1066 0) ∧ sm_F1 (S 39) (g126 39) (S 1066 0) ∧ ((S 1047 0) = 1 → (g126 1053 0) = (S 1053 0)) ∧ ((S 1047 0) = 0 → (g126 1053 0) ≤ (S 1053 0) + 3 * (600 - (S 1046 0)) + (if (S 1100002 p2) ≤ (S 1100002 p3) then (S 1100002 p3) else (S 1100002 p2))) ∧ ((g133 1047 0) = 0 → (S 1047 0) = 0 ∧ sm_KC (g133 26) (g133 27) (g133 28) (g133 29) (g133 1100007) (g133 1100023) (g133 1100024) (g133 1100025) (g126 31) (g126 1100009) (g126 1100027) (g126 1100028) (g126 1100026) (g126 1100030) (S 21) (S 32) (S 33) (g133 1046 0) (g126 1053 0) (S 1056 0) (S 1032 0) (S 1007 0) (g126 1100033 0) ∧ (g126 1100033 0) = (g126 1055 0) ∧ 0 ≤ (g126 1055 0) ∧ (g126 1055 0) ≤ (g133 1046 0) ∧ (S 1046 0) + 1 ≤ (g133 1046 0) ∧ sm_FC (g133 29) (S 1046 0) (g133 1046 0) (S 1056 0) ∧ (g133 1100007 (g133 1046 0)) = (S 1100007 (S 1046 0)) + 1 ∧ (g133 1100023 (g133 1046 0)) = (S 1100023 (S 1046 0)) ∧ (g133 1100024 (g133 1046 0)) = (S 1100024 (S 1046 0)) ∧ (g133 1100025 (g133 1046 0)) = (S 1100025 (S 1046 0)) ∧ (g133 1100007 (g133 1100023 (g133 1046 0))) = (S 1100007 (S 1100023 (S 1046 0))) ∧ (g133 1100007 (g133 1100025 (g133 1046 0))) = (S 1100007 (S 1100025 (S 1046 0))) ∧ sm_AP (g126 1100030) (S 1053 0) (g126 1053 0) ∧ sm_HB (g133 1100007) (S 1046 0) (g133 1046 0) (2 * (S 1100007 (S 1046 0)) + ((g133 1046 0) - (S 1046 0)) + 8 * (if (S 1100005 p2) ≤ ((S 1100005 p3) + 1) then ((S 1100005 p3) + 1) else (S 1100005 p2)) + 10) ∧ (g126 1053 0) ≤ (S 1053 0) + 3 * ((g133 1046 0) - (S 1046 0)) ∧ True)))) ∧ ((¬ ((1 : Int) = (0 : Int))) → ((sm_WF (S 11) (S 12) (S 13) (S 1100001) (S 1100002) (S 1100005) (S 1100003) (S 1100004) (S 1024 0) (S 1007 0) (S 1009 0) (sm_fn (S 1032 0) (S 21) (S 1056 0)) → 0 ≤ p2 → p2 < (S 1024 0) → (S 1100001 p2) = 1 → (S 11 p2) = 2 → sm_nm (S 1007 0) (S 1009 0) ((S 12 (5 * (p2))))) → ((sm_nm (S 1007 0) (S 1009 0) ((S 12 (5 * p2))) → (S 1009 0) = 0 → 0 ≤ (S 12 (5 * p2)) ∧ (S 12 (5 * p2)) < (S 1007 0)) → (0 ≤ p2 ∧ p2 < 12000 ∧ 0 ≤ (0 : Int) ∧ (0 : Int) ≤ 4) ∧ (0 + 1 ≤ ((if (S 1100002 p2) ≤ (S 1100002 p3) then (S 1100002 p3) else (S 1100002 p2)) + (600 - (S 1046 0)) + 9)) ∧ (0 ≤ (g126 1046 0) ∧ (g126 1046 0) ≤ 600 ∧ 0 ≤ (g126 1047 0) ∧ (g126 1047 0) ≤ 1 ∧ 0 ≤ (S 1056 0) ∧ (S 1056 0) < (S 1032 0) ∧ (S 1032 0) ≤ 11 ∧ sm_VB (S 33) (S 21) (S 1032 0) ∧ (((2 : Int) = 1 ∧ ((4 : Int) = 3 ∨ (4 : Int) = 5)) ∨ ((2 : Int) = 2 ∧ (4 : Int) = 4)) ∧ ((g126 1047 0) = 0 → sm_KC (g126 26) (g126 27) (g126 28) (g126 29) (g126 1100007) (g126 1100023) (g126 1100024) (g126 1100025) (g126 31) (g126 1100009) (g126 1100027) (g126 1100028) (g126 1100026) (g126 1100030) (S 21) (S 32) (S 33) (g126 1046 0) (g126 1053 0) (S 1056 0) (S 1032 0) (S 1007 0) (g126 1100033 0) ∧ 0 ≤ ((S 12 (5 * p2 + (0 : Int)))) ∧ ((S 12 (5 * p2 + (0 : Int)))) < (S 1007 0) ∧ ((2 : Int) = 1 → (0 ≤ (g126 1100023 (g126 1046 0)) → (g126 1100007 (g126 1100023 (g126 1046 0))) ≤ (g126 1100007 (g126 1046 0))) ∧ (0 ≤ (g126 1100025 (g126 1046 0)) → (g126 1100007 (g126 1100025 (g126 1046 0))) ≤ (g126 1100007 (g126 1046 0)))) ∧ ((2 : Int) = 2 → 1 ≤ (g126 1100007 (g126 1046 0)) ∧ (0 ≤ (g126 1100023 (g126 1046 0)) → (g126 1100007 (g126 1100023 (g126 1046 0))) ≤ (g126 1100007 (g126 1046 0)) - 1) ∧ (0 ≤ (g126 1100025 (g126 1046 0)) → (g126 1100007 (g126 1100025 (g126 1046 0))) ≤ (g126 1100007 (g126 1046 0)) - 1)))) ∧ (2 + 1 ≤ ((if (S 1100002 p2) ≤ (S 1100002 p3) then (S 1100002 p3) else (S 1100002 p2)) + (600 - (S 1046 0)) + 9)) ∧ (∀ g144 : sv_S, (0 ≤ (g144 1047 0) ∧ (g144 1047 0) ≤ 1 ∧ 1 ≤ (g144 1046 0) ∧ (g126 1046 0) ≤ (g144 1046 0) ∧ (g144 1046 0) ≤ (g126 1046 0) + 1 ∧ (g144 1046 0) ≤ 600 ∧ ((g126 1047 0) = 1 → (g144 1047 0) = 1) ∧ ((g144 1047 0) = 1 → (g126 1047 0) = 1 ∨ (g126 1046 0) = 600) ∧ sm_F1 (g126 26) (g144 26) (g126 1046 0) ∧ sm_F1 (g126 27) (g144 27) (g126 1046 0) ∧ sm_F1 (g126 28) (g144 28) (g126 1046 0) ∧ sm_F1 (g126 29) (g144 29) (g126 1046 0) ∧ sm_F1 (g126 1100007) (g144 1100007) ((g126 1046 0) + 1) ∧ sm_F1 (g126 1100023) (g144 1100023) ((g126 1046 0) + 1) ∧ sm_F1 (g126 1100024) (g144 1100024) ((g126 1046 0) + 1) ∧ sm_F1 (g126 1100025) (g144 1100025) ((g126 1046 0) + 1) ∧ ((g144 1047 0) = 0 → (g126 1047 0) = 0 ∧ (g144 1046 0) = (g126 1046 0) + 1 ∧ sm_KC (g144 26) (g144 27) (g144 28) (g144 29) (g144 1100007) (g144 1100023) (g144 1100024) (g144 1100025) (g126 31) (g126 1100009) (g126 1100027) (g126 1100028) (g126 1100026) (g126 1100030) (S 21) (S 32) (S 33) (g144 1046 0) (g126 1053 0) (S 1056 0) (S 1032 0) (S 1007 0) (g126 1100033 0) ∧ sm_MB (g126 31) (g126 1100030) (g126 1053 0) (g144 1046 0) ∧ ((g144 26 (g126 1046 0)) = (2 : Int) ∨ (g144 26 (g126 1046 0)) = (4 : Int)) ∧ (g144 29 (g126 1046 0)) = (S 1056 0) ∧ (g144 1100007 (g144 1046 0)) = (g126 1100007 (g126 1046 0)) + (if (2 : Int) = 1 then 1 else 0) ∧ (g144 1100023 (g144 1046 0)) = (g126 1100023 (g126 1046 0)) ∧ (g144 1100024 (g144 1046 0)) = (g126 1100024 (g126 1046 0)) ∧ (g144 1100025 (g144 1046 0)) = (g126 1100025 (g126 1046 0)) ∧ (g144 1100007 (g144 1100023 (g144 1046 0))) = (g126 1100007 (g126 1100023 (g126 1046 0))) ∧ (g144 1100007 (g144 1100025 (g144 1046 0))) = (g126 1100007 (g126 1100025 (g126 1046 0))))) → (0 ≤ (g144 1046 0) ∧ (g144 1046 0) ≤ 600 ∧ 0 ≤ (g144 1047 0) ∧ (g144 1047 0) ≤ 1 ∧ 0 ≤ (g126 1053 0) ∧ 0 ≤ (g126 1066 0) ∧ (S 1046 0) ≤ (g144 1046 0) ∧ ((S 1047 0) = 1 → (g144 1047 0) = 1) ∧ sm_F1 (S 26) (g144 26) (S 1046 0) ∧ sm_F1 (S 27) (g144 27) (S 1046 0) ∧ sm_F1 (S 28) (g144 28) (S 1046 0) ∧ sm_F1 (S 29) (g144 29) (S 1046 0) ∧ sm_F1 (S 1100007) (g144 1100007) ((S 1046 0) + 1) ∧ sm_F1 (S 1100023) (g144 1100023) ((S 1046 0) + 1) ∧ sm_F1 (S 1100024) (g144 1100024) ((S 1046 0) + 1) ∧ sm_F1 (S 1100025) (g144 1100025) ((S 1046 0) + 1) ∧ sm_F1 (S 1100009) (g126 1100009) (S 1053 0) ∧ sm_F1 (S 1100027) (g126 1100027) (S 1053 0) ∧ sm_F1 (S 1100028) (g126 1100028) (S 1053 0) ∧ sm_F1 (S 1100026) (g126 1100026) (S 1053 0) ∧ sm_F1 (S 1100030) (g126 1100030) (S 1053 0) ∧ sm_F1 (S 31) (g126 31) (S 1053 0) ∧ (S 1053 0) ≤ (g126 1053 0) ∧ (g126 1066 0) = (S 1066 0) ∧ sm_F1 (S 39) (g126 39) (S 1066 0) ∧ ((S 1047 0) = 1 → (g126 1053 0) = (S 1053 0)) ∧ ((S 1047 0) = 0 → (g126 1053 0) ≤ (S 1053 0) + 3 * (600 - (S 1046 0)) + (if (S 1100002 p2) ≤ (S 1100002 p3) then (S 1100002 p3) else (S 1100002 p2))) ∧ ((g144 1047 0) = 0 → (S 1047 0) = 0 ∧ sm_KC (g144 26) (g144 27) (g144 28) (g144 29) (g144 1100007) (g144 1100023) (g144 1100024) (g144 1100025) (g126 31) (g126 1100009) (g126 1100027) (g126 1100028) (g126 1100026) (g126 1100030) (S 21) (S 32) (S 33) (g144 1046 0) (g126 1053 0) (S 1056 0) (S 1032 0) (S 1007 0) (g126 1100033 0) ∧ (g126 1100033 0) = (g126 1055 0) ∧ 0 ≤ (g126 1055 0) ∧ (g126 1055 0) ≤ (g144 1046 0) ∧ (S 1046 0) + 1 ≤ (g144 1046 0) ∧ sm_FC (g144 29) (S 1046 0) (g144 1046 0) (S 1056 0) ∧ (g144 1100007 (g144 1046 0)) = (S 1100007 (S 1046 0)) + 1 ∧ (g144 1100023 (g144 1046 0)) = (S 1100023 (S 1046 0)) ∧ (g144 1100024 (g144 1046 0)) = (S 1100024 (S 1046 0)) ∧ (g144 1100025 (g144 1046 0)) = (S 1100025 (S 1046 0)) ∧ (g144 1100007 (g144 1100023 (g144 1046 0))) = (S 1100007 (S 1100023 (S 1046 0))) ∧ (g144 1100007 (g144 1100025 (g144 1046 0))) = (S 1100007 (S 1100025 (S 1046 0))) ∧ sm_AP (g126 1100030) (S 1053 0) (g126 1053 0) ∧ sm_HB (g144 1100007) (S 1046 0) (g144 1046 0) (2 * (S 1100007 (S 1046 0)) + ((g144 1046 0) - (S 1046 0)) + 8 * (if (S 1100005 p2) ≤ ((S 1100005 p3) + 1) then ((S 1100005 p3) + 1) else (S 1100005 p2)) + 10) ∧ (g126 1053 0) ≤ (S 1053 0) + 3 * ((g144 1046 0) - (S 1046 0)) ∧ True)))))))) ∧ ((0 ≤ (if (1 : Int) = 1 then (0 : Int) else 2) + (if p1 = -1 then (0 : Int) else 1) ∧ (if (1 : Int) = 1 then (0 : Int) else 2) + (if p1 = -1 then (0 : Int) else 1) ≤ 3) → (sm_WF (S 11) (S 12) (S 13) (S 1100001) (S 1100002) (S 1100005) (S 1100003) (S 1100004) (S 1024 0) (S 1007 0) (S 1009 0) (sm_fn (S 1032 0) (S 21) (S 1056 0)) ∧ (S 1009 0) = 0 ∧ 0 ≤ (S 1007 0) ∧ (S 1007 0) ≤ 90 ∧ 0 ≤ (S 1024 0) ∧ (S 1024 0) ≤ 12000 ∧ 1 ≤ (S 1032 0) ∧ (S 1032 0) ≤ 11 ∧ 0 ≤ (S 1056 0) ∧ (S 1056 0) < (S 1032 0) ∧ sm_VB (S 33) (S 21) (S 1032 0) ∧ 0 ≤ (g120 1046 0) ∧ (g120 1046 0) ≤ 600 ∧ 0 ≤ (g120 1047 0) ∧ (g120 1047 0) ≤ 1 ∧ 0 ≤ (g120 1053 0) ∧ 0 ≤ (g120 1066 0) ∧ 0 ≤ p3 ∧ p3 < (S 1024 0) ∧ (S 1100001 p3) = 1 ∧ sm_LF (g120 39) (S 1100002) (g120 1066 0) (S 1024 0) (12001 * (S 1100002 p3) + p3) ∧ ((g120 1047 0) = 0 → sm_KC (g120 26) (g120 27) (g120 28) (g120 29) (g120 1100007) (g120 1100023) (g120 1100024) (g120 1100025) (g120 31) (g120 1100009) (g120 1100027) (g120 1100028) (g120 1100026) (g120 1100030) (S 21) (S 32) (S 33) (g120 1046 0) (g120 1053 0) (S 1056 0) (S 1032 0) (S 1007 0) (g120 1100033 0) ∧ (g120 1100033 0) = (g120 1055 0) ∧ 0 ≤ (g120 1055 0) ∧ (g120 1055 0) ≤ (g120 1046 0) ∧ (0 ≤ (g120 1100023 (g120 1046 0)) → (g120 1100007 (g120 1100023 (g120 1046 0))) ≤ (g120 1100007 (g120 1046 0))) ∧ (0 ≤ (g120 1100025 (g120 1046 0)) → (g120 1100007 (g120 1100025 (g120 1046 0))) ≤ (g120 1100007 (g120 1046 0))) ∧ (g120 1100007 (g120 1046 0)) ≤ (g120 1046 0) ∧ (g120 1053 0) + 3 * (600 - (g120 1046 0)) + (S 1100002 p3) ≤ 8000)) ∧ (0 ≤ ((if (g120 1047 0) = 0 then (S 1100002 p3) + (600 - (g120 1046 0)) + 8 else 4)) ∧ ((if (g120 1047 0) = 0 then (S 1100002 p3) + (600 - (g120 1046 0)) + 8 else 4)) < d) ∧ (0 ≤ ((if (g120 1047 0) = 0 then (S 1100002 p3) + (600 - (g120 1046 0)) + 8 else 4)) ∧ ((if (g120 1047 0) = 0 then (S 1100002 p3) + (600 - (g120 1046 0)) + 8 else 4)) + 1 ≤ ((if (S 1100002 p2) ≤ (S 1100002 p3) then (S 1100002 p3) else (S 1100002 p2)) + (600 - (S 1046 0)) + 9)) ∧ (∀ g154 : sv_S, (0 ≤ (g154 1046 0) ∧ (g154 1046 0) ≤ 600 ∧ 0 ≤ (g154 1047 0) ∧ (g154 1047 0) ≤ 1 ∧ 0 ≤ (g154 1053 0) ∧ 0 ≤ (g154 1066 0) ∧ (g120 1046 0) ≤ (g154 1046 0) ∧ ((g120 1047 0) = 1 → (g154 1047 0) = 1) ∧ sm_F1 (g120 26) (g154 26) (g120 1046 0) ∧ sm_F1 (g120 27) (g154 27) (g120 1046 0) ∧ sm_F1 (g120 28) (g154 28) (g120 1046 0) ∧ sm_F1 (g120 29) (g154 29) (g120 1046 0) ∧ sm_F1 (g120 1100007) (g154 1100007) ((g120 1046 0) + 1) ∧ sm_F1 (g120 1100023) (g154 1100023) ((g120 1046 0) + 1) ∧ sm_F1 (g120 1100024) (g154 1100024) ((g120 1046 0) + 1) ∧ sm_F1 (g120 1100025) (g154 1100025) ((g120 1046 0) + 1) ∧ sm_F1 (g120 1100009) (g154 1100009) (g120 1053 0) ∧ sm_F1 (g120 1100027) (g154 1100027) (g120 1053 0) ∧ sm_F1 (g120 1100028) (g154 1100028) (g120 1053 0) ∧ sm_F1 (g120 1100026) (g154 1100026) (g120 1053 0) ∧ sm_F1 (g120 1100030) (g154 1100030) (g120 1053 0) ∧ sm_F1 (g120 31) (g154 31) (g120 1053 0) ∧ (g120 1053 0) ≤ (g154 1053 0) ∧ (g154 1066 0) = (g120 1066 0) ∧ sm_F1 (g120 39) (g154 39) (g120 1066 0) ∧ ((g120 1047 0) = 1 → (g154 1053 0) = (g120 1053 0)) ∧ ((g120 1047 0) = 0 → (g154 1053 0) ≤ (g120 1053 0) + 3 * (600 - (g120 1046 0)) + (S 1100002 p3)) ∧ ((g154 1047 0) = 0 → (g120 1047 0) = 0 ∧ sm_KC (g154 26) (g154 27) (g154 28) (g154 29) (g154 1100007) (g154 1100023) (g154 1100024) (g154 1100025) (g154 31) (g154 1100009) (g154 1100027) (g154 1100028) (g154 1100026) (g154 1100030) (S 21) (S 32) (S 33) (g154 1046 0) (g154 1053 0) (S 1056 0) (S 1032 0) (S 1007 0) (g154 1100033 0) ∧ (g154 1100033 0) = (g154 1055 0) ∧ 0 ≤ (g154 1055 0) ∧ (g154 1055 0) ≤ (g154 1046 0) ∧ (g120 1046 0) + 1 ≤ (g154 1046 0) ∧ sm_FC (g154 29) (g120 1046 0) (g154 1046 0) (S 1056 0) ∧ (g154 1100007 (g154 1046 0)) = (g120 1100007 (g120 1046 0)) + 1 ∧ (g154 1100023 (g154 1046 0)) = (g120 1100023 (g120 1046 0)) ∧ (g154 1100024 (g154 1046 0)) = (g120 1100024 (g120 1046 0)) ∧ (g154 1100025 (g154 1046 0)) = (g120 1100025 (g120 1046 0)) ∧ (g154 1100007 (g154 1100023 (g154 1046 0))) = (g120 1100007 (g120 1100023 (g120 1046 0))) ∧ (g154 1100007 (g154 1100025 (g154 1046 0))) = (g120 1100007 (g120 1100025 (g120 1046 0))) ∧ sm_AP (g154 1100030) (g120 1053 0) (g154 1053 0) ∧ sm_HB (g154 1100007) (g120 1046 0) (g154 1046 0) (2 * (g120 1100007 (g120 1046 0)) + ((g154 1046 0) - (g120 1046 0)) + 8 * (S 1100005 p3) + 10) ∧ (g154 1053 0) ≤ (g120 1053 0) + 3 * ((g154 1046 0) - (g120 1046 0)) ∧ True)) → (((p1 = (-1 : Int)) → (0 ≤ (g154 1046 0) ∧ (g154 1046 0) ≤ 600 ∧ 0 ≤ (g154 1047 0) ∧ (g154 1047 0) ≤ 1 ∧ 0 ≤ (g154 1053 0) ∧ 0 ≤ (g154 1066 0) ∧ (S 1046 0) ≤ (g154 1046 0) ∧ ((S 1047 0) = 1 → (g154 1047 0) = 1) ∧ sm_F1 (S 26) (g154 26) (S 1046 0) ∧ sm_F1 (S 27) (g154 27) (S 1046 0) ∧ sm_F1 (S 28) (g154 28) (S 1046 0) ∧ sm_F1 (S 29) (g154 29) (S 1046 0) ∧ sm_F1 (S 1100007) (g154 1100007) ((S 1046 0) + 1) ∧ sm_F1 (S 1100023) (g154 1100023) ((S 1046 0) + 1) ∧ sm_F1 (S 1100024) (g154 1100024) ((S 1046 0) + 1) ∧ sm_F1 (S 1100025) (g154 1100025) ((S 1046 0) + 1) ∧ sm_F1 (S 1100009) (g154 1100009) (S 1053 0) ∧ sm_F1 (S 1100027) (g154 1100027) (S 1053 0) ∧ sm_F1 (S 1100028) (g154 1100028) (S 1053 0) ∧ sm_F1 (S 1100026) (g154 1100026) (S 1053 0) ∧ sm_F1 (S 1100030) (g154 1100030) (S 1053 0) ∧ sm_F1 (S 31) (g154 31) (S 1053 0) ∧ (S 1053 0) ≤ (g154 1053 0) ∧ (g154 1066 0) = (S 1066 0) ∧ sm_F1 (S 39) (g154 39) (S 1066 0) ∧ ((S 1047 0) = 1 → (g154 1053 0) = (S 1053 0)) ∧ ((S 1047 0) = 0 → (g154 1053 0) ≤ (S 1053 0) + 3 * (600 - (S 1046 0)) + (if (S 1100002 p2) ≤ (S 1100002 p3) then (S 1100002 p3) else (S 1100002 p2))) ∧ ((g154 1047 0) = 0 → (S 1047 0) = 0 ∧ sm_KC (g154 26) (g154 27) (g154 28) (g154 29) (g154 1100007) (g154 1100023) (g154 1100024) (g154 1100025) (g154 31) (g154 1100009) (g154 1100027) (g154 1100028) (g154 1100026) (g154 1100030) (S 21) (S 32) (S 33) (g154 1046 0) (g154 1053 0) (S 1056 0) (S 1032 0) (S 1007 0) (g154 1100033 0) ∧ (g154 1100033 0) = (g154 1055 0) ∧ 0 ≤ (g154 1055 0) ∧ (g154 1055 0) ≤ (g154 1046 0) ∧ (S 1046 0) + ((if (1 : Int) = 1 then (0 : Int) else 2) + 1) ≤ (g154 1046 0) ∧ sm_FC (g154 29) (S 1046 0) (g154 1046 0) (S 1056 0) ∧ (g154 1100007 (g154 1046 0)) = (S 1100007 (S 1046 0)) + ((if (1 : Int) = 1 then (0 : Int) else 2) + 1) ∧ (g154 1100023 (g154 1046 0)) = (S 1100023 (S 1046 0)) ∧ (g154 1100024 (g154 1046 0)) = (S 1100024 (S 1046 0)) ∧ (g154 1100025 (g154 1046 0)) = (S 1100025 (S 1046 0)) ∧ (g154 1100007 (g154 1100023 (g154 1046 0))) = (S 1100007 (S 1100023 (S 1046 0))) ∧ (g154 1100007 (g154 1100025 (g154 1046 0))) = (S 1100007 (S 1100025 (S 1046 0))) ∧ sm_AP (g154 1100030) (S 1053 0) (g154 1053 0) ∧ sm_HB (g154 1100007) (S 1046 0) (g154 1046 0) (2 * (S 1100007 (S 1046 0)) + ((g154 1046 0) - (S 1046 0)) + 8 * (if (S 1100005 p2) ≤ ((S 1100005 p3) + 1) then ((S 1100005 p3) + 1) else (S 1100005 p2)) + 11) ∧ (g154 1053 0) ≤ (S 1053 0) + 3 * ((g154 1046 0) - (S 1046 0)) ∧ True))) ∧ ((¬ (p1 = (-1 : Int))) → (0 ≤ (g154 1046 0) ∧ (g154 1046 0) ≤ 600 ∧ 0 ≤ (g154 1047 0) ∧ (g154 1047 0) ≤ 1 ∧ ((g154 1047 0) = 0 → sm_KC (g154 26) (g154 27) (g154 28) (g154 29) (g154 1100007) (g154 1100023) (g154 1100024) (g154 1100025) (g154 31) (g154 1100009) (g154 1100027) (g154 1100028) (g154 1100026) (g154 1100030) (S 21) (S 32) (S 33) (g154 1046 0) (g154 1053 0) (S 1056 0) (S 1032 0) (S 1007 0) (g154 1100033 0) ∧ 0 ≤ (14 : Int) ∧ (14 : Int) ≤ 30 ∧ sm_ci (14 : Int) (p1) ((0 : Int)) (g154 1100007 (g154 1046 0)) (g154 1100023 (g154 1046 0)) (g154 1100024 (g154 1046 0)) (g154 1100025 (g154 1046 0)) (g154 1100007 (g154 1100023 (g154 1046 0))) (g154 1100007 (g154 1100025 (g154 1046 0))) (g154 1100023 (g154 1100023 (g154 1046 0))) (g154 1100025 (g154 1100025 (g154 1046 0))) (g154 1046 0) (g154 1100033 0) (S 1032 0) (S 1007 0) (S 21 p1) (S 1056 0) ((g154 1100007 (g154 1046 0)) + sm_dl (14 : Int) (p1)) (sm_nt (14 : Int) (g154 1046 0) (g154 1100023 (g154 1046 0)) (g154 1100023 (g154 1100023 (g154 1046 0)))) (sm_nl (14 : Int) (g154 1046 0) (g154 1100007 (g154 1046 0)) (g154 1100025 (g154 1046 0)) (g154 1100007 (g154 1100025 (g154 1046 0))) (g154 1100025 (g154 1100025 (g154 1046 0)))) (g154 1100009 p1) (g154 1100027 p1) (g154 1100028 p1) ∧ ((21 ≤ (14 : Int) ∧ (14 : Int) ≤ 24) ∨ (14 : Int) = 27 ∨ (14 : Int) = 30 → 0 ≤ p1 ∧ p1 < (g154 1053 0) ∧ (g154 1100026 p1) = (S 1056 0)) ∧ ((14 : Int) = 1 ∨ (14 : Int) = 2 → sm_vv (S 21) (S 32) (S 33) (S 1056 0) p1 (0 : Int)))) ∧ (0 + 1 ≤ ((if (S 1100002 p2) ≤ (S 1100002 p3) then (S 1100002 p3) else (S 1100002 p2)) + (600 - (S 1046 0)) + 9)) ∧ (∀ g162 : sv_S, (0 ≤ (g162 1047 0) ∧ (g162 1047 0) ≤ 1 ∧ 1 ≤ (g162 1046 0) ∧ (g154 1046 0) ≤ (g162 1046 0) ∧ (g162 1046 0) ≤ (g154 1046 0) + 1 ∧ (g162 1046 0) ≤ 600 ∧ ((g154 1047 0) = 1 → (g162 1047 0) = 1) ∧ ((g162 1047 0) = 1 → (g154 1047 0) = 1 ∨ (g154 1046 0) = 600) ∧ sm_F1 (g154 26) (g162 26) (g154 1046 0) ∧ sm_F1 (g154 27) (g162 27) (g154 1046 0) ∧ sm_F1 (g154 28) (g162 28) (g154 1046 0) ∧ sm_F1 (g154 29) (g162 29) (g154 1046 0) ∧ sm_F1 (g154 1100007) (g162 1100007) ((g154 1046 0) + 1) ∧ sm_F1 (g154 1100023) (g162 1100023) ((g154 1046 0) + 1) ∧ sm_F1 (g154 1100024) (g162 1100024) ((g154 1046 0) + 1) ∧ sm_F1 (g154 1100025) (g162 1100025) ((g154 1046 0) + 1) ∧ ((g162 1047 0) = 0 → (g154 1047 0) = 0 ∧ (g162 1046 0) = (g154 1046 0) + 1 ∧ sm_KC (g162 26) (g162 27) (g162 28) (g162 29) (g162 1100007) (g162 1100023) (g162 1100024) (g162 1100025) (g154 31) (g154 1100009) (g154 1100027) (g154 1100028) (g154 1100026) (g154 1100030) (S 21) (S 32) (S 33) (g162 1046 0) (g154 1053 0) (S 1056 0) (S 1032 0) (S 1007 0) (g154 1100033 0) ∧ sm_MB (g154 31) (g154 1100030) (g154 1053 0) (g162 1046 0) ∧ (g162 26 (g154 1046 0)) = (14 : Int) ∧ (g162 29 (g154 1046 0)) = (S 1056 0) ∧ (g162 1100007 (g162 1046 0)) = ((g154 1100007 (g154 1046 0)) + sm_dl (14 : Int) (p1)) ∧ (g162 1100023 (g162 1046 0)) = (sm_nt (14 : Int) (g154 1046 0) (g154 1100023 (g154 1046 0)) (g154 1100023 (g154 1100023 (g154 1046 0)))) ∧ (g162 1100024 (g162 1046 0)) = (sm_nd (14 : Int) (g154 1100024 (g154 1046 0))) ∧ (g162 1100025 (g162 1046 0)) = (sm_nl (14 : Int) (g154 1046 0) (g154 1100007 (g154 1046 0)) (g154 1100025 (g154 1046 0)) (g154 1100007 (g154 1100025 (g154 1046 0))) (g154 1100025 (g154 1100025 (g154 1046 0)))) ∧ (g162 1100007 (g162 1100023 (g162 1046 0))) = sm_nt (14 : Int) (g154 1100007 (g154 1046 0)) (g154 1100007 (g154 1100023 (g154 1046 0))) (g154 1100007 (g154 1100023 (g154 1100023 (g154 1046 0)))) ∧ ((14 : Int) = 29 → (g162 1100007 (g162 1100025 (g162 1046 0))) = (g154 1100007 (g154 1046 0))) ∧ ((14 : Int) = 17 → 0 ≤ (g154 1100025 (g154 1046 0)) → (g154 1100007 (g154 1100025 (g154 1046 0))) = (g154 1100007 (g154 1046 0)) → (g162 1100007 (g162 1100025 (g162 1046 0))) = (g154 1100007 (g154 1100025 (g154 1100025 (g154 1046 0))))) ∧ (¬ (14 : Int) = 29 → ((14 : Int) = 17 → 0 ≤ (g154 1100025 (g154 1046 0)) → (g154 1100007 (g154 1100025 (g154 1046 0))) < (g154 1100007 (g154 1046 0))) → (g162 1100007 (g162 1100025 (g162 1046 0))) = (g154 1100007 (g154 1100025 (g154 1046 0)))))) → (0 ≤ (g162 1046 0) ∧ (g162 1046 0) ≤ 600 ∧ 0 ≤ (g162 1047 0) ∧ (g162 1047 0) ≤ 1 ∧ 0 ≤ (g154 1053 0) ∧ 0 ≤ (g154 1066 0) ∧ (S 1046 0) ≤ (g162 1046 0) ∧ ((S 1047 0) = 1 → (g162 1047 0) = 1) ∧ sm_F1 (S 26) (g162 26) (S 1046 0) ∧ sm_F1 (S 27) (g162 27) (S 1046 0) ∧ sm_F1 (S 28) (g162 28) (S 1046 0) ∧ sm_F1 (S 29) (g162 29) (S 1046 0) ∧ sm_F1 (S 1100007) (g162 1100007) ((S 1046 0) + 1) ∧ sm_F1 (S 1100023) (g162 1100023) ((S 1046 0) + 1) ∧ sm_F1 (S 1100024) (g162 1100024) ((S 1046 0) + 1) ∧ sm_F1 (S 1100025) (g162 1100025) ((S 1046 0) + 1) ∧ sm_F1 (S 1100009) (g154 1100009) (S 1053 0) ∧ sm_F1 (S 1100027) (g154 1100027) (S 1053 0) ∧ sm_F1 (S 1100028) (g154 1100028) (S 1053 0) ∧ sm_F1 (S 1100026) (g154 1100026) (S 1053 0) ∧ sm_F1 (S 1100030) (g154 1100030) (S 1053 0) ∧ sm_F1 (S 31) (g154 31) (S 1053 0) ∧ (S 1053 0) ≤ (g154 1053 0) ∧ (g154 1066 0) = (S 1066 0) ∧ sm_F1 (S 39) (g154 39) (S 1066 0) ∧ ((S 1047 0) = 1 → (g154 1053 0) = (S 1053 0)) ∧ ((S 1047 0) = 0 → (g154 1053 0) ≤ (S 1053 0) + 3 * (600 - (S 1046 0)) + (if (S 1100002 p2) ≤ (S 1100002 p3) then (S 1100002 p3) else (S 1100002 p2))) ∧ ((g162 1047 0) = 0 → (S 1047 0) = 0 ∧ sm_KC (g162 26) (g162 27) (g162 28) (g162 29) (g162 1100007) (g162 1100023) (g162 1100024) (g162 1100025) (g154 31) (g154 1100009) (g154 1100027) (g154 1100028) (g154 1100026) (g154 1100030) (S 21) (S 32) (S 33) (g162 1046 0) (g154 1053 0) (S 1056 0) (S 1032 0) (S 1007 0) (g154 1100033 0) ∧ (g154 1100033 0) = (g154 1055 0) ∧ 0 ≤ (g154 1055 0) ∧ (g154 1055 0) ≤ (g162 1046 0) ∧ (S 1046 0) + ((if (1 : Int) = 1 then (0 : Int) else 2) + 1) ≤ (g162 1046 0) ∧ sm_FC (g162 29) (S 1046 0) (g162 1046 0) (S 1056 0) ∧ (g162 1100007 (g162 1046 0)) = (S 1100007 (S 1046 0)) + ((if (1 : Int) = 1 then (0 : Int) else 2) + 1) ∧ (g162 1100023 (g162 1046 0)) = (S 1100023 (S 1046 0)) ∧ (g162 1100024 (g162 1046 0)) = (S 1100024 (S 1046 0)) ∧ (g162 1100025 (g162 1046 0)) = (S 1100025 (S 1046 0)) ∧ (g162 1100007 (g162 1100023 (g162 1046 0))) = (S 1100007 (S 1100023 (S 1046 0))) ∧ (g162 1100007 (g162 1100025 (g162 1046 0))) = (S 1100007 (S 1100025 (S 1046 0))) ∧ sm_AP (g154 1100030) (S 1053 0) (g154 1053 0) ∧ sm_HB (g162 1100007) (S 1046 0) (g162 1046 0) (2 * (S 1100007 (S 1046 0)) + ((g162 1046 0) - (S 1046 0)) + 8 * (if (S 1100005 p2) ≤ ((S 1100005 p3) + 1) then ((S 1100005 p3) + 1) else (S 1100005 p2)) + 11) ∧ (g154 1053 0) ≤ (S 1053 0) + 3 * ((g162 1046 0) - (S 1046 0)) ∧ True)))))))))) ∧ (((p1 = (-1 : Int)) → (0 ≤ (g115 1046 0) ∧ (g115 1046 0) ≤ 600 ∧ 0 ≤ (g115 1047 0) ∧ (g115 1047 0) ≤ 1 ∧ 0 ≤ (g115 1053 0) ∧ 0 ≤ (g115 1066 0) ∧ (S 1046 0) ≤ (g115 1046 0) ∧ ((S 1047 0) = 1 → (g115 1047 0) = 1) ∧ sm_F1 (S 26) (g115 26) (S 1046 0) ∧ sm_F1 (S 27) (g115 27) (S 1046 0) ∧ sm_F1 (S 28) (g115 28) (S 1046 0) ∧ sm_F1 (S 29) (g115 29) (S 1046 0) ∧ sm_F1 (S 1100007) (g115 1100007) ((S 1046 0) + 1) ∧ sm_F1 (S 1100023) (g115 1100023) ((S 1046 0) + 1) ∧ sm_F1 (S 1100024) (g115 1100024) ((S 1046 0) + 1) ∧ sm_F1 (S 1100025) (g115 1100025) ((S 1046 0) + 1) ∧ sm_F1 (S 1100009) (g115 1100009) (S 1053 0) ∧ sm_F1 (S 1100027) (g115 1100027) (S 1053 0) ∧ sm_F1 (S 1100028) (g115 1100028) (S 1053 0) ∧ sm_F1 (S 1100026) (g115 1100026) (S 1053 0) ∧ sm_F1 (S 1100030) (g115 1100030) (S 1053 0) ∧ sm_F1 (S 31) (g115 31) (S 1053 0) ∧ (S 1053 0) ≤ (g115 1053 0) ∧ (g115 1066 0) = (S 1066 0) ∧ sm_F1 (S 39) (g115 39) (S 1066 0) ∧ ((S 1047 0) = 1 → (g115 1053 0) = (S 1053 0)) ∧ ((S 1047 0) = 0 → (g115 1053 0) ≤ (S 1053 0) + 3 * (600 - (S 1046 0)) + (if (S 1100002 p2) ≤ (S 1100002 p3) then (S 1100002 p3) else (S 1100002 p2))) ∧ ((g115 1047 0) = 0 → (S 1047 0) = 0 ∧ sm_KC (g115 26) (g115 27) (g115 28) (g115 29) (g115 1100007) (g115 1100023) (g115 1100024) (g115 1100025) (g115 31) (g115 1100009) (g115 1100027) (g115 1100028) (g115 1100026) (g115 1100030) (S 21) (S 32) (S 33) (g115 1046 0) (g115 1053 0) (S 1056 0) (S 1032 0) (S 1007 0) (g115 1100033 0) ∧ (g115 1100033 0) = (g115 1055 0) ∧ 0 ≤ (g115 1055 0) ∧ (g115 1055 0) ≤ (g115 1046 0) ∧ (S 1046 0) + ((if (1 : Int) = 1 then (0 : Int) else 2) + (if p1 = -1 then (0 : Int) else 1)) ≤ (g115 1046 0) ∧ sm_FC (g115 29) (S 1046 0) (g115 1046 0) (S 1056 0) ∧ (g115 1100007 (g115 1046 0)) = (S 1100007 (S 1046 0)) + ((if (1 : Int) = 1 then (0 : Int) else 2) + (if p1 = -1 then (0 : Int) else 1)) ∧ (g115 1100023 (g115 1046 0)) = (S 1100023 (S 1046 0)) ∧ (g115 1100024 (g115 1046 0)) = (S 1100024 (S 1046 0)) ∧ (g115 1100025 (g115 1046 0)) = (S 1100025 (S 1046 0)) ∧ (g115 1100007 (g115 1100023 (g115 1046 0))) = (S 1100007 (S 1100023 (S 1046 0))) ∧ (g115 1100007 (g115 1100025 (g115 1046 0))) = (S 1100007 (S 1100025 (S 1046 0))) ∧ sm_AP (g115 1100030) (S 1053 0) (g115 1053 0) ∧ sm_HB (g115 1100007) (S 1046 0) (g115 1046 0) (2 * (S 1100007 (S 1046 0)) + ((g115 1046 0) - (S 1046 0)) + 8 * (if (S 1100005 p2) ≤ ((S 1100005 p3) + 1) then ((S 1100005 p3) + 1) else (S 1100005 p2)) + 12) ∧ (g115 1053 0) ≤ (S 1053 0) + 3 * ((g115 1046 0) - (S 1046 0)) ∧ True))) ∧ ((¬ (p1 = (-1 : Int))) → ((((1 : Int) = (0 : Int)) → (0 ≤ (g115 1046 0) ∧ (g115 1046 0) ≤ 600 ∧ 0 ≤ (g115 1047 0) ∧ (g115 1047 0) ≤ 1 ∧ ((g115 1047 0) = 0 → sm_KC (g115 26) (g115 27) (g115 28) (g115 29) (g115 1100007) (g115 1100023) (g115 1100024) (g115 1100025) (g115 31) (g115 1100009) (g115 1100027) (g115 1100028) (g115 1100026) (g115 1100030) (S 21) (S 32) (S 33) (g115 1046 0) (g115 1053 0) (S 1056 0) (S 1032 0) (S 1007 0) (g115 1100033 0) ∧ 0 ≤ (19 : Int) ∧ (19 : Int) ≤ 30 ∧ sm_ci (19 : Int) ((0 : Int)) ((0 : Int)) (g115 1100007 (g115 1046 0)) (g115 1100023 (g115 1046 0)) (g115 1100024 (g115 1046 0)) (g115 1100025 (g115 1046 0)) (g115 1100007 (g115 1100023 (g115 1046 0))) (g115 1100007 (g115 1100025 (g115 1046 0))) (g115 1100023 (g115 1100023 (g115 1046 0))) (g115 1100025 (g115 1100025 (g115 1046 0))) (g115 1046 0) (g115 1100033 0) (S 1032 0) (S 1007 0) (S 21 (0 : Int)) (S 1056 0) ((g115 1100007 (g115 1046 0)) + sm_dl (19 : Int) ((0 : Int))) (sm_nt (19 : Int) (g115 1046 0) (g115 1100023 (g115 1046 0)) (g115 1100023 (g115 1100023 (g115 1046 0)))) (sm_nl (19 : Int) (g115 1046 0) (g115 1100007 (g115 1046 0)) (g115 1100025 (g115 1046 0)) (g115 1100007 (g115 1100025 (g115 1046 0))) (g115 1100025 (g115 1100025 (g115 1046 0)))) (g115 1100009 (0 : Int)) (g115 1100027 (0 : Int)) (g115 1100028 (0 : Int)) ∧ ((21 ≤ (19 : Int) ∧ (19 : Int) ≤ 24) ∨ (19 : Int) = 27 ∨ (19 : Int) = 30 → 0 ≤ (0 : Int) ∧ (0 : Int) < (g115 1053 0) ∧ (g115 1100026 (0 : Int)) = (S 1056 0)) ∧ ((19 : Int) = 1 ∨ (19 : Int) = 2 → sm_vv (S 21) (S 32) (S 33) (S 1056 0) (0 : Int) (0 : Int)))) ∧ (1 + 1 ≤ ((if (S 1100002 p2) ≤ (S 1100002 p3) then (S 1100002 p3) else (S 1100002 p2)) + (600 - (S 1046 0)) + 9)) ∧ (∀ g171 : sv_S, (0 ≤ (g171 1047 0) ∧ (g171 1047 0) ≤ 1 ∧ 1 ≤ (g171 1046 0) ∧ (g115 1046 0) ≤ (g171 1046 0) ∧ (g171 1046 0) ≤ (g115 1046 0) + 1 ∧ (g171 1046 0) ≤ 600 ∧ ((g115 1047 0) = 1 → (g171 1047 0) = 1) ∧ ((g171 1047 0) = 1 → (g115 1047 0) = 1 ∨ (g115 1046 0) = 600) ∧ sm_F1 (g115 26) (g171 26) (g115 1046 0) ∧ sm_F1 (g115 27) (g171 27) (g115 1046 0) ∧ sm_F1 (g115 28) (g171 28) (g115 1046 0) ∧ sm_F1 (g115 29) (g171 29) (g115 1046 0) ∧ sm_F1 (g115 1100007) (g171 1100007) ((g115 1046 0) + 1) ∧ sm_F1 (g115 1100023) (g171 1100023) ((g115 1046 0) + 1) ∧ sm_F1 (g115 1100024) (g171 1100024) ((g115 1046 0) + 1) ∧ sm_F1 (g115 1100025) (g171 1100025) ((g115 1046 0) + 1) ∧ ((g171 1047 0) = 0 → (g115 1047 0) = 0 ∧ (g171 1046 0) = (g115 1046 0) + 1 ∧ sm_KC (g171 26) (g171 27) (g171 28) (g171 29) (g171 1100007) (g171 1100023) (g171 1100024) (g171 1100025) (g115 31) (g115 1100009) (g115 1100027) (g115 1100028) (g115 1100026) (g115 1100030) (S 21) (S 32) (S 33) (g171 1046 0) (g115 1053 0) (S 1056 0) (S 1032 0) (S 1007 0) (g115 1100033 0) ∧ sm_MB (g115 31) (g115 1100030) (g115 1053 0) (g171 1046 0) ∧ (g171 26 (g115 1046 0)) = (19 : Int) ∧ (g171 29 (g115 1046 0)) = (S 1056 0) ∧ (g171 1100007 (g171 1046 0)) = ((g115 1100007 (g115 1046 0)) + sm_dl (19 : Int) ((0 : Int))) ∧ (g171 1100023 (g171 1046 0)) = (sm_nt (19 : Int) (g115 1046 0) (g115 1100023 (g115 1046 0)) (g115 1100023 (g115 1100023 (g115 1046 0)))) ∧ (g171 1100024 (g171 1046 0)) = (sm_nd (19 : Int) (g115 1100024 (g115 1046 0))) ∧ (g171 1100025 (g171 1046 0)) = (sm_nl (19 : Int) (g115 1046 0) (g115 1100007 (g115 1046 0)) (g115 1100025 (g115 1046 0)) (g115 1100007 (g115 1100025 (g115 1046 0))) (g115 1100025 (g115 1100025 (g115 1046 0)))) ∧ (g171 1100007 (g171 1100023 (g171 1046 0))) = sm_nt (19 : Int) (g115 1100007 (g115 1046 0)) (g115 1100007 (g115 1100023 (g115 1046 0))) (g115 1100007 (g115 1100023 (g115 1100023 (g115 1046 0)))) ∧ ((19 : Int) = 29 → (g171 1100007 (g171 1100025 (g171 1046 0))) = (g115 1100007 (g115 1046 0))) ∧ ((19 : Int) = 17 → 0 ≤ (g115 1100025 (g115 1046 0)) → (g115 1100007 (g115 1100025 (g115 1046 0))) = (g115 1100007 (g115 1046 0)) → (g171 1100007 (g171 1100025 (g171 1046 0))) = (g115 1100007 (g115 1100025 (g115 1100025 (g115 1046 0))))) ∧ (¬ (19 : Int) = 29 → ((19 : Int) = 17 → 0 ≤ (g115 1100025 (g115 1046 0)) → (g115 1100007 (g115 1100025 (g115 1046 0))) < (g115 1100007 (g115 1046 0))) → (g171 1100007 (g171 1100025 (g171 1046 0))) = (g115 1100007 (g115 1100025 (g115 1046 0)))))) → (0 ≤ (g171 1046 0) ∧ (g171 1046 0) ≤ 600 ∧ 0 ≤ (g171 1047 0) ∧ (g171 1047 0) ≤ 1 ∧ ((g171 1047 0) = 0 → sm_KC (g171 26) (g171 27) (g171 28) (g171 29) (g171 1100007) (g171 1100023) (g171 1100024) (g171 1100025) (g115 31) (g115 1100009) (g115 1100027) (g115 1100028) (g115 1100026) (g115 1100030) (S 21) (S 32) (S 33) (g171 1046 0) (g115 1053 0) (S 1056 0) (S 1032 0) (S 1007 0) (g115 1100033 0) ∧ 0 ≤ (10 : Int) ∧ (10 : Int) ≤ 30 ∧ sm_ci (10 : Int) ((0 : Int)) ((0 : Int)) (g171 1100007 (g171 1046 0)) (g171 1100023 (g171 1046 0)) (g171 1100024 (g171 1046 0)) (g171 1100025 (g171 1046 0)) (g171 1100007 (g171 1100023 (g171 1046 0))) (g171 1100007 (g171 1100025 (g171 1046 0))) (g171 1100023 (g171 1100023 (g171 1046 0))) (g171 1100025 (g171 1100025 (g171 1046 0))) (g171 1046 0) (g115 1100033 0) (S 1032 0) (S 1007 0) (S 21 (0 : Int)) (S 1056 0) ((g171 1100007 (g171 1046 0)) + sm_dl (10 : Int) ((0 : Int))) (sm_nt (10 : Int) (g171 1046 0) (g171 1100023 (g171 1046 0)) (g171 1100023 (g171 1100023 (g171 1046 0)))) (sm_nl (10 : Int) (g171 1046 0) (g171 1100007 (g171 1046 0)) (g171 1100025 (g171 1046 0)) (g171 1100007 (g171 1100025 (g171 1046 0))) (g171 1100025 (g171 1100025 (g171 1046 0)))) (g115 1100009 (0 : Int)) (g115 1100027 (0 : Int)) (g115 1100028 (0 : Int)) ∧ ((21 ≤ (10 : Int) ∧ (10 : Int) ≤ 24) ∨ (10 : Int) = 27 ∨ (10 : Int) = 30 → 0 ≤ (0 : Int) ∧ (0 : Int) < (g115 1053 0) ∧ (g115 1100026 (0 : Int)) = (S 1056 0)) ∧ ((10 : Int) = 1 ∨ (10 : Int) = 2 → sm_vv (S 21) (S 32) (S 33) (S 1056 0) (0 : Int) (0 : Int)))) ∧ (∀ g178 : sv_S, (0 ≤ (g178 1047 0) ∧ (g178 1047 0) ≤ 1 ∧ 1 ≤ (g178 1046 0) ∧ (g171 1046 0) ≤ (g178 1046 0) ∧ (g178 1046 0) ≤ (g171 1046 0) + 1 ∧ (g178 1046 0) ≤ 600 ∧ ((g171 1047 0) = 1 → (g178 1047 0) = 1) ∧ ((g178 1047 0) = 1 → (g171 1047 0) = 1 ∨ (g171 1046 0) = 600) ∧ sm_F1 (g171 26) (g178 26) (g171 1046 0) ∧ sm_F1 (g171 27) (g178 27) (g171 1046 0) ∧ sm_F1 (g171 28) (g178 28) (g171 1046 0) ∧ sm_F1 (g171 29) (g178 29) (g171 1046 0) ∧ sm_F1 (g171 1100007) (g178 1100007) ((g171 1046 0) + 1) ∧ sm_F1 (g171 1100023) (g178 1100023) ((g171 1046 0) + 1) ∧ sm_F1 (g171 1100024) (g178 1100024) ((g171 1046 0) + 1) ∧ sm_F1 (g171 1100025) (g178 1100025) ((g171 1046 0) + 1) ∧ ((g178 1047 0) = 0 → (g171 1047 0) = 0 ∧ (g178 1046 0) = (g171 1046 0) + 1 ∧ sm_KC (g178 26) (g178 27) (g178 28) (g178 29) (g178 1100007) (g178 1100023) (g178 1100024) (g178 1100025) (g115 31) (g115 1100009) (g115 1100027) (g115 1100028) (g115 1100026) (g115 1100030) (S 21) (S 32) (S 33) (g178 1046 0) (g115 1053 0) (S 1056 0) (S 1032 0) (S 1007 0) (g115 1100033 0) ∧ sm_MB (g115 31) (g115 1100030) (g115 1053 0) (g178 1046 0) ∧ (g178 26 (g171 1046 0)) = (10 : Int) ∧ (g178 29 (g171 1046 0)) = (S 1056 0) ∧ (g178 1100007 (g178 1046 0)) = ((g171 1100007 (g171 1046 0)) + sm_dl (10 : Int) ((0 : Int))) ∧ (g178 1100023 (g178 1046 0)) = (sm_nt (10 : Int) (g171 1046 0) (g171 1100023 (g171 1046 0)) (g171 1100023 (g171 1100023 (g171 1046 0)))) ∧ (g178 1100024 (g178 1046 0)) = (sm_nd (10 : Int) (g171 1100024 (g171 1046 0))) ∧ (g178 1100025 (g178 1046 0)) = (sm_nl (10 : Int) (g171 1046 0) (g171 1100007 (g171 1046 0)) (g171 1100025 (g171 1046 0)) (g171 1100007 (g171 1100025 (g171 1046 0))) (g171 1100025 (g171 1100025 (g171 1046 0)))) ∧ (g178 1100007 (g178 1100023 (g178 1046 0))) = sm_nt (10 : Int) (g171 1100007 (g171 1046 0)) (g171 1100007 (g171 1100023 (g171 1046 0))) (g171 1100007 (g171 1100023 (g171 1100023 (g171 1046 0)))) ∧ ((10 : Int) = 29 → (g178 1100007 (g178 1100025 (g178 1046 0))) = (g171 1100007 (g171 1046 0))) ∧ ((10 : Int) = 17 → 0 ≤ (g171 1100025 (g171 1046 0)) → (g171 1100007 (g171 1100025 (g171 1046 0))) = (g171 1100007 (g171 1046 0)) → (g178 1100007 (g178 1100025 (g178 1046 0))) = (g171 1100007 (g171 1100025 (g171 1100025 (g171 1046 0))))) ∧ (¬ (10 : Int) = 29 → ((10 : Int) = 17 → 0 ≤ (g171 1100025 (g171 1046 0)) → (g171 1100007 (g171 1100025 (g171 1046 0))) < (g171 1100007 (g171 1046 0))) → (g178 1100007 (g178 1100025 (g178 1046 0))) = (g171 1100007 (g171 1100025 (g171 1046 0)))))) → (0 ≤ (g178 1046 0) ∧ (g178 1046 0) ≤ 600 ∧ 0 ≤ (g178 1047 0) ∧ (g178 1047 0) ≤ 1 ∧ 0 ≤ (g115 1053 0) ∧ 0 ≤ (g115 1066 0) ∧ (S 1046 0) ≤ (g178 1046 0) ∧ ((S 1047 0) = 1 → (g178 1047 0) = 1) ∧ sm_F1 (S 26) (g178 26) (S 1046 0) ∧ sm_F1 (S 27) (g178 27) (S 1046 0) ∧ sm_F1 (S 28) (g178 28) (S 1046 0) ∧ sm_F1 (S 29) (g178 29) (S 1046 0) ∧ sm_F1 (S 1100007) (g178 1100007) ((S 1046 0) + 1) ∧ sm_F1 (S 1100023) (g178 1100023) ((S 1046 0) + 1) ∧ sm_F1 (S 1100024) (g178 1100024) ((S 1046 0) + 1) ∧ sm_F1 (S 1100025) (g178 1100025) ((S 1046 0) + 1) ∧ sm_F1 (S 1100009) (g115 1100009) (S 1053 0) ∧ sm_F1 (S 1100027) (g115 1100027) (S 1053 0) ∧ sm_F1 (S 1100028) (g115 1100028) (S 1053 0) ∧ sm_F1 (S 1100026) (g115 1100026) (S 1053 0) ∧ sm_F1 (S 1100030) (g115 1100030) (S 1053 0) ∧ sm_F1 (S 31) (g115 31) (S 1053 0) ∧ (S 1053 0) ≤ (g115 1053 0) ∧ (g115 1066 0) = (S 1066 0) ∧ sm_F1 (S 39) (g115 39) (S 1066 0) ∧ ((S 1047 0) = 1 → (g115 1053 0) = (S 1053 0)) ∧ ((S 1047 0) = 0 → (g115 1053 0) ≤ (S 1053 0) + 3 * (600 - (S 1046 0)) + (if (S 1100002 p2) ≤ (S 1100002 p3) then (S 1100002 p3) else (S 1100002 p2))) ∧ ((g178 1047 0) = 0 → (S 1047 0) = 0 ∧ sm_KC (g178 26) (g178 27) (g178 28) (g178 29) (g178 1100007) (g178 1100023) (g178 1100024) (g178 1100025) (g115 31) (g115 1100009) (g115 1100027) (g115 1100028) (g115 1100026) (g115 1100030) (S 21) (S 32) (S 33) (g178 1046 0) (g115 1053 0) (S 1056 0) (S 1032 0) (S 1007 0) (g115 1100033 0) ∧ (g115 1100033 0) = (g115 1055 0) ∧ 0 ≤ (g115 1055 0) ∧ (g115 1055 0) ≤ (g178 1046 0) ∧ (S 1046 0) + ((if (1 : Int) = 1 then (0 : Int) else 2) + (if p1 = -1 then (0 : Int) else 1)) ≤ (g178 1046 0) ∧ sm_FC (g178 29) (S 1046 0) (g178 1046 0) (S 1056 0) ∧ (g178 1100007 (g178 1046 0)) = (S 1100007 (S 1046 0)) + ((if (1 : Int) = 1 then (0 : Int) else 2) + (if p1 = -1 then (0 : Int) else 1)) ∧ (g178 1100023 (g178 1046 0)) = (S 1100023 (S 1046 0)) ∧ (g178 1100024 (g178 1046 0)) = (S 1100024 (S 1046 0)) ∧ (g178 1100025 (g178 1046 0)) = (S 1100025 (S 1046 0)) ∧ (g178 1100007 (g178 1100023 (g178 1046 0))) = (S 1100007 (S 1100023 (S 1046 0))) ∧ (g178 1100007 (g178 1100025 (g178 1046 0))) = (S 1100007 (S 1100025 (S 1046 0))) ∧ sm_AP (g115 1100030) (S 1053 0) (g115 1053 0) ∧ sm_HB (g178 1100007) (S 1046 0) (g178 1046 0) (2 * (S 1100007 (S 1046 0)) + ((g178 1046 0) - (S 1046 0)) + 8 * (if (S 1100005 p2) ≤ ((S 1100005 p3) + 1) then ((S 1100005 p3) + 1) else (S 1100005 p2)) + 12) ∧ (g115 1053 0) ≤ (S 1053 0) + 3 * ((g178 1046 0) - (S 1046 0)) ∧ True))))) ∧ ((¬ ((1 : Int) = (0 : Int))) → ((sm_WF (S 11) (S 12) (S 13) (S 1100001) (S 1100002) (S 1100005) (S 1100003) (S 1100004) (S 1024 0) (S 1007 0) (S 1009 0) (sm_fn (S 1032 0) (S 21) (S 1056 0)) → 0 ≤ p2 → p2 < (S 1024 0) → (S 1100001 p2) = 1 → (S 11 p2) = 2 → sm_nm (S 1007 0) (S 1009 0) ((S 12 (5 * (p2))))) → ((sm_nm (S 1007 0) (S 1009 0) ((S 12 (5 * p2))) → (S 1009 0) = 0 → 0 ≤ (S 12 (5 * p2)) ∧ (S 12 (5 * p2)) < (S 1007 0)) → (0 ≤ p2 ∧ p2 < 12000 ∧ 0 ≤ (0 : Int) ∧ (0 : Int) ≤ 4) ∧ (0 + 1 ≤ ((if (S 1100002 p2) ≤ (S 1100002 p3) then (S 1100002 p3) else (S 1100002 p2)) + (600 - (S 1046 0)) + 9)) ∧ (0 ≤ (g115 1046 0) ∧ (g115 1046 0) ≤ 600 ∧ 0 ≤ (g115 1047 0) ∧ (g115 1047 0) ≤ 1 ∧ 0 ≤ (S 1056 0) ∧ (S 1056 0) < (S 1032 0) ∧ (S 1032 0) ≤ 11 ∧ sm_VB (S 33) (S 21) (S 1032 0) ∧ (((1 : Int) = 1 ∧ ((3 : Int) = 3 ∨ (3 : Int) = 5)) ∨ ((1 : Int) = 2 ∧ (3 : Int) = 4)) ∧ ((g115 1047 0) = 0 → sm_KC (g115 26) (g115 27) (g115 28) (g115 29) (g115 1100007) (g115 1100023) (g115 1100024) (g115 1100025) (g115 31) (g115 1100009) (g115 1100027) (g115 1100028) (g115 1100026) (g115 1100030) (S 21) (S 32) (S 33) (g115 1046 0) (g115 1053 0) (S 1056 0) (S 1032 0) (S 1007 0) (g115 1100033 0) ∧ 0 ≤ ((S 12 (5 * p2 + (0 : Int)))) ∧ ((S 12 (5 * p2 + (0 : Int)))) < (S 1007 0) ∧ ((1 : Int) = 1 → (0 ≤ (g115 1100023 (g115 1046 0)) → (g115 1100007 (g115 1100023 (g115 1046 0))) ≤ (g115 1100007 (g115 1046 0))) ∧ (0 ≤ (g115 1100025 (g115 1046 0)) → (g115 1100007 (g115 1100025 (g115 1046 0))) ≤ (g115 1100007 (g115 1046 0)))) ∧ ((1 : Int) = 2 → 1 ≤ (g115 1100007 (g115 1046 0)) ∧ (0 ≤ (g115 1100023 (g115 1046 0)) → (g115 1100007 (g115 1100023 (g115 1046 0))) ≤ (g115 1100007 (g115 1046 0)) - 1) ∧ (0 ≤ (g115 1100025 (g115 1046 0)) → (g115 1100007 (g115 1100025 (g115 1046 0))) ≤ (g115 1100007 (g115 1046 0)) - 1)))) ∧ (2 + 1 ≤ ((if (S 1100002 p2) ≤ (S 1100002 p3) then (S 1100002 p3) else (S 1100002 p2)) + (600 - (S 1046 0)) + 9)) ∧ (∀ g190 : sv_S, (0 ≤ (g190 1047 0) ∧ (g190 1047 0) ≤ 1 ∧ 1 ≤ (g190 1046 0) ∧ (g115 1046 0) ≤ (g190 1046 0) ∧ (g190 1046 0) ≤ (g115 1046 0) + 1 ∧ (g190 1046 0) ≤ 600 ∧ ((g115 1047 0) = 1 → (g190 1047 0) = 1) ∧ ((g190 1047 0) = 1 → (g115 1047 0) = 1 ∨ (g115 1046 0) = 600) ∧ sm_F1 (g115 26) (g190 26) (g115 1046 0) ∧ sm_F1 (g115 27) (g190 27) (g115 1046 0) ∧ sm_F1 (g115 28) (g190 28) (g115 1046 0) ∧ sm_F1 (g115 29) (g190 29) (g115 1046 0) ∧ sm_F1 (g115 1100007) (g190 1100007) ((g115 1046 0) + 1) ∧ sm_F1 (g115 1100023) (g190 1100023) ((g115 1046 0) + 1) ∧ sm_F1 (g115 1100024) (g190 1100024) ((g115 1046 0) + 1) ∧ sm_F1 (g115 1100025) (g190 1100025) ((g115 1046 0) + 1) ∧ ((g190 1047 0) = 0 → (g115 1047 0) = 0 ∧ (g190 1046 0) = (g115 1046 0) + 1 ∧ sm_KC (g190 26) (g190 27) (g190 28) (g190 29) (g190 1100007) (g190 1100023) (g190 1100024) (g190 1100025) (g115 31) (g115 1100009) (g115 1100027) (g115 1100028) (g115 1100026) (g115 1100030) (S 21) (S 32) (S 33) (g190 1046 0) (g115 1053 0) (S 1056 0) (S 1032 0) (S 1007 0) (g115 1100033 0) ∧ sm_MB (g115 31) (g115 1100030) (g115 1053 0) (g190 1046 0) ∧ ((g190 26 (g115 1046 0)) = (1 : Int) ∨ (g190 26 (g115 1046 0)) = (3 : Int)) ∧ (g190 29 (g115 1046 0)) = (S 1056 0) ∧ (g190 1100007 (g190 1046 0)) = (g115 1100007 (g115 1046 0)) + (if (1 : Int) = 1 then 1 else 0) ∧ (g190 1100023 (g190 1046 0)) = (g115 1100023 (g115 1046 0)) ∧ (g190 1100024 (g190 1046 0)) = (g115 1100024 (g115 1046 0)) ∧ (g190 1100025 (g190 1046 0)) = (g115 1100025 (g115 1046 0)) ∧ (g190 1100007 (g190 1100023 (g190 1046 0))) = (g115 1100007 (g115 1100023 (g115 1046 0))) ∧ (g190 1100007 (g190 1100025 (g190 1046 0))) = (g115 1100007 (g115 1100025 (g115 1046 0))))) → (0 ≤ (g190 1046 0) ∧ (g190 1046 0) ≤ 600 ∧ 0 ≤ (g190 1047 0) ∧ (g190 1047 0) ≤ 1 ∧ 0 ≤ (g115 1053 0) ∧ 0 ≤ (g115 1066 0) ∧ (S 1046 0) ≤ (g190 1046 0) ∧ ((S 1047 0) = 1 → (g190 1047 0) = 1) ∧ sm_F1 (S 26) (g190 26) (S 1046 0) ∧ sm_F1 (S 27) (g190 27) (S 1046 0) ∧ sm_F1 (S 28) (g190 28) (S 1046 0) ∧ sm_F1 (S 29) (g190 29) (S 1046 0) ∧ sm_F1 (S 1100007) (g190 1100007) ((S 1046 0) + 1) ∧ sm_F1 (S 1100023) (g190 1100023) ((S 1046 0) + 1) ∧ sm_F1 (S 1100024) (g190 1100024) ((S 1046 0) + 1) ∧ sm_F1 (S 1100025) (g190 1100025) ((S 1046 0) + 1) ∧ sm_F1 (S 1100009) (g115 1100009) (S 1053 0) ∧ sm_F1 (S 1100027) (g115 1100027) (S 1053 0) ∧ sm_F1 (S 1100028) (g115 1100028) (S 1053 0) ∧ sm_F1 (S 1100026) (g115 1100026) (S 1053 0) ∧ sm_F1 (S 1100030) (g115 1100030) (S 1053 0) ∧ sm_F1 (S 31) (g115 31) (S 1053 0) ∧ (S 1053 0) ≤ (g115 1053 0) ∧ (g115 1066 0) = (S 1066 0) ∧ sm_F1 (S 39) (g115 39) (S 1066 0) ∧ ((S 1047 0) = 1 → (g115 1053 0) = (S 1053 0)) ∧ ((S 1047 0) = 0 → (g115 1053 0) ≤ (S 1053 0) + 3 * (600 - (S 1046 0)) + (if (S 1100002 p2) ≤ (S 1100002 p3) then (S 1100002 p3) else (S 1100002 p2))) ∧ ((g190 1047 0) = 0 → (S 1047 0) = 0 ∧ sm_KC (g190 26) (g190 27) (g190 28) (g190 29) (g190 1100007) (g190 1100023) (g190 1100024) (g190 1100025) (g115 31) (g115 1100009) (g115 1100027) (g115 1100028) (g115 1100026) (g115 1100030) (S 21) (S 32) (S 33) (g190 1046 0) (g115 1053 0) (S 1056 0) (S 1032 0) (S 1007 0) (g115 1100033 0) ∧ (g115 1100033 0) = (g115 1055 0) ∧ 0 ≤ (g115 1055 0) ∧ (g115 1055 0) ≤ (g190 1046 0) ∧ (S 1046 0) + ((if (1 : Int) = 1 then (0 : Int) else 2) + (if p1 = -1 then (0 : Int) else 1)) ≤ (g190 1046 0) ∧ sm_FC (g190 29) (S 1046 0) (g190 1046 0) (S 1056 0) ∧ (g190 1100007 (g190 1046 0)) = (S 1100007 (S 1046 0)) + ((if (1 : Int) = 1 then (0 : Int) else 2) + (if p1 = -1 then (0 : Int) else 1)) ∧ (g190 1100023 (g190 1046 0)) = (S 1100023 (S 1046 0)) ∧ (g190 1100024 (g190 1046 0)) = (S 1100024 (S 1046 0)) ∧ (g190 1100025 (g190 1046 0)) = (S 1100025 (S 1046 0)) ∧ (g190 1100007 (g190 1100023 (g190 1046 0))) = (S 1100007 (S 1100023 (S 1046 0))) ∧ (g190 1100007 (g190 1100025 (g190 1046 0))) = (S 1100007 (S 1100025 (S 1046 0))) ∧ sm_AP (g115 1100030) (S 1053 0) (g115 1053 0) ∧ sm_HB (g190 1100007) (S 1046 0) (g190 1046 0) (2 * (S 1100007 (S 1046 0)) + ((g190 1046 0) - (S 1046 0)) + 8 * (if (S 1100005 p2) ≤ ((S 1100005 p3) + 1) then ((S 1100005 p3) + 1) else (S 1100005 p2)) + 12) ∧ (g115 1053 0) ≤ (S 1053 0) + 3 * ((g190 1046 0) - (S 1046 0)) ∧ True))))))))))) ∧ (((¬ (1 : Int) = (0 : Int)) → (((1 : Int) = 0 ∨ (1 : Int) = 1) ∧ ((1 : Int) = 1 → (S 11 p2) = 2) ∧ ((1 : Int) = 0 → (S 11 p2) = 7) ∧ 0 ≤ (S 1046 0) ∧ (S 1046 0) ≤ 600 ∧ 0 ≤ (S 1047 0) ∧ (S 1047 0) ≤ 1 ∧ 0 ≤ (S 1053 0) ∧ 0 ≤ (S 1066 0) ∧ (S 1046 0) ≤ (S 1046 0) ∧ ((S 1047 0) = 1 → (S 1047 0) = 1) ∧ sm_F1 (S 26) (S 26) (S 1046 0) ∧ sm_F1 (S 27) (S 27) (S 1046 0) ∧ sm_F1 (S 28) (S 28) (S 1046 0) ∧ sm_F1 (S 29) (S 29) (S 1046 0) ∧ sm_F1 (S 1100007) (S 1100007) ((S 1046 0) + 1) ∧ sm_F1 (S 1100023) (S 1100023) ((S 1046 0) + 1) ∧ sm_F1 (S 1100024) (S 1100024) ((S 1046 0) + 1) ∧ sm_F1 (S 1100025) (S 1100025) ((S 1046 0) + 1) ∧ sm_F1 (S 1100009) (S 1100009) (S 1053 0) ∧ sm_F1 (S 1100027) (S 1100027) (S 1053 0) ∧ sm_F1 (S 1100028) (S 1100028) (S 1053 0) ∧ sm_F1 (S 1100026) (S 1100026) (S 1053 0) ∧ sm_F1 (S 1100030) (S 1100030) (S 1053 0) ∧ sm_F1 (S 31) (S 31) (S 1053 0) ∧ (S 1053 0) ≤ (S 1053 0) ∧ (S 1066 0) = (S 1066 0) ∧ sm_F1 (S 39) (S 39) (S 1066 0) ∧ ((S 1047 0) = 1 → (S 1053 0) = (S 1053 0)) ∧ ((S 1047 0) = 0 → (S 1053 0) ≤ (S 1053 0) + 3 * (600 - (S 1046 0)) + (if (S 1100002 p2) ≤ (S 1100002 p3) then (S 1100002 p3) else (S 1100002 p2))) ∧ ((S 1047 0) = 0 → (S 1047 0) = 0 ∧ sm_KC (S 26) (S 27) (S 28) (S 29) (S 1100007) (S 1100023) (S 1100024) (S 1100025) (S 31) (S 1100009) (S 1100027) (S 1100028) (S 1100026) (S 1100030) (S 21) (S 32) (S 33) (S 1046 0) (S 1053 0) (S 1056 0) (S 1032 0) (S 1007 0) (S 1100033 0) ∧ (S 1100033 0) = (S 1055 0) ∧ 0 ≤ (S 1055 0) ∧ (S 1055 0) ≤ (S 1046 0) ∧ (S 1046 0) + (if (1 : Int) = 1 then (0 : Int) else 2) ≤ (S 1046 0) ∧ sm_FC (S 29) (S 1046 0) (S 1046 0) (S 1056 0) ∧ (S 1100007 (S 1046 0)) = (S 1100007 (S 1046 0)) + (if (1 : Int) = 1 then (0 : Int) else 2) ∧ (S 1100023 (S 1046 0)) = (S 1100023 (S 1046 0)) ∧ (S 1100024 (S 1046 0)) = (S 1100024 (S 1046 0)) ∧ (S 1100025 (S 1046 0)) = (S 1100025 (S 1046 0)) ∧ (S 1100007 (S 1100023 (S 1046 0))) = (S 1100007 (S 1100023 (S 1046 0))) ∧ (S 1100007 (S 1100025 (S 1046 0))) = (S 1100007 (S 1100025 (S 1046 0))) ∧ sm_AP (S 1100030) (S 1053 0) (S 1053 0) ∧ sm_HB (S 1100007) (S 1046 0) (S 1046 0) (2 * (S 1100007 (S 1046 0)) + ((S 1046 0) - (S 1046 0)) + 8 * (if (S 1100005 p2) ≤ ((S 1100005 p3) + 1) then ((S 1100005 p3) + 1) else (S 1100005 p2)) + 12) ∧ (S 1053 0) ≤ (S 1053 0) + 3 * ((S 1046 0) - (S 1046 0)) ∧ True))) ∧ ((¬ (¬ (1 : Int) = (0 : Int))) → ((sm_WF (S 11) (S 12) (S 13) (S 1100001) (S 1100002) (S 1100005) (S 1100003) (S 1100004) (S 1024 0) (S 1007 0) (S 1009 0) (sm_fn (S 1032 0) (S 21) (S 1056 0)) → 0 ≤ p2 → p2 < (S 1024 0) → (S 1100001 p2) = 1 → (S 11 p2) = 7 → sm_ex (S 1100001) (S 1100002) (S 1100005) (S 1024 0) 1 ((S 12 (5 * (p2)))) ((S 1100002 (p2))) ((S 1100005 (p2))) ∧ (S 12 (5 * (p2))) < (p2) ∧ sm_ex (S 1100001) (S 1100002) (S 1100005) (S 1024 0) 1 ((S 12 (5 * (p2) + 1))) (((S 1100002 (p2))) - 1) ((S 1100005 (p2))) ∧ (S 12 (5 * (p2) + 1)) < (p2)) → ((sm_WF (S 11) (S 12) (S 13) (S 1100001) (S 1100002) (S 1100005) (S 1100003) (S 1100004) (S 1024 0) (S 1007 0) (S 1009 0) (sm_fn (S 1032 0) (S 21) (S 1056 0)) → 0 ≤ (S 12 (5 * p2)) → (S 12 (5 * p2)) < (S 1024 0) → ((S 1100001 ((S 12 (5 * p2)))) = 1 → 0 ≤ (S 1100002 ((S 12 (5 * p2)))) ∧ ((S 11 ((S 12 (5 * p2)))) = 3 → (S 12 (5 * ((S 12 (5 * p2))) + 1)) < ((S 12 (5 * p2)))) ∧ ((S 11 ((S 12 (5 * p2)))) = 4 ∨ (S 11 ((S 12 (5 * p2)))) = 5 ∨ (S 11 ((S 12 (5 * p2)))) = 8 ∨ (S 11 ((S 12 (5 * p2)))) = 9 → 17 * (S 1100005 ((S 12 (5 * p2)))) + 2 ≤ (S 1100002 ((S 12 (5 * p2))))) ∧ 0 ≤ (S 1100005 ((S 12 (5 * p2))))) ∧ ((S 1100001 ((S 12 (5 * p2)))) = 2 → 0 ≤ (S 1100005 ((S 12 (5 * p2)))) ∧ (S 1100002 ((S 12 (5 * p2)))) ≤ 17 * (S 1100005 ((S 12 (5 * p2)))) + 5 ∧ ((S 11 ((S 12 (5 * p2)))) = 33 → 1 ≤ (S 1100005 ((S 12 (5 * p2)))))) ∧ ((S 1100001 ((S 12 (5 * p2)))) = 6 → 0 ≤ (S 1100002 ((S 12 (5 * p2)))) ∧ 1 ≤ (S 1100004 ((S 12 (5 * p2)))) ∧ ((S 12 (5 * ((S 12 (5 * p2))))) = - 1 → (S 1100004 ((S 12 (5 * p2)))) = 2)) ∧ ((S 1100001 ((S 12 (5 * p2)))) = 3 → 1 ≤ (S 1100002 ((S 12 (5 * p2)))))) → ((sm_WF (S 11) (S 12) (S 13) (S 1100001) (S 1100002) (S 1100005) (S 1100003) (S 1100004) (S 1024 0) (S 1007 0) (S 1009 0) (sm_fn (S 1032 0) (S 21) (S 1056 0)) → 0 ≤ (S 12 (5 * p2 + 1)) → (S 12 (5 * p2 + 1)) < (S 1024 0) → ((S 1100001 ((S 12 (5 * p2 + 1)))) = 1 → 0 ≤ (S 1100002 ((S 12 (5 * p2 + 1)))) ∧ ((S 11 ((S 12 (5 * p2 + 1)))) = 3 → (S 12 (5 * ((S 12 (5 * p2 + 1))) + 1)) < ((S 12 (5 * p2 + 1)))) ∧ ((S 11 ((S 12 (5 * p2 + 1)))) = 4 ∨ (S 11 ((S 12 (5 * p2 + 1)))) = 5 ∨ (S 11 ((S 12 (5 * p2 + 1)))) = 8 ∨ (S 11 ((S 12 (5 * p2 + 1)))) = 9 → 17 * (S 1100005 ((S 12 (5 * p2 + 1)))) + 2 ≤ (S 1100002 ((S 12 (5 * p2 + 1))))) ∧ 0 ≤ (S 1100005 ((S 12 (5 * p2 + 1))))) ∧ ((S 1100001 ((S 12 (5 * p2 + 1)))) = 2 → 0 ≤ (S 1100005 ((S 12 (5 * p2 + 1)))) ∧ (S 1100002 ((S 12 (5 * p2 + 1)))) ≤ 17 * (S 1100005 ((S 12 (5 * p2 + 1)))) + 5 ∧ ((S 11 ((S 12 (5 * p2 + 1)))) = 33 → 1 ≤ (S 1100005 ((S 12 (5 * p2 + 1)))))) ∧ ((S 1100001 ((S 12 (5 * p2 + 1)))) = 6 → 0 ≤ (S 1100002 ((S 12 (5 * p2 + 1)))) ∧ 1 ≤ (S 1100004 ((S 12 (5 * p2 + 1)))) ∧ ((S 12 (5 * ((S 12 (5 * p2 + 1))))) = - 1 → (S 1100004 ((S 12 (5 * p2 + 1)))) = 2)) ∧ ((S 1100001 ((S 12 (5 * p2 + 1)))) = 3 → 1 ≤ (S 1100002 ((S 12 (5 * p2 + 1)))))) → (((S 1100005 (S 12 (5 * p2 + 0))) = (S 1100005 (S 12 (5 * p2)))) → (((S 1100002 (S 12 (5 * p2 + 0))) = (S 1100002 (S 12 (5 * p2)))) → (0 ≤ p2 ∧ p2 < 12000 ∧ 0 ≤ (0 : Int) ∧ (0 : Int) ≤ 4) ∧ (0 + 1 ≤ ((if (S 1100002 p2) ≤ (S 1100002 p3) then (S 1100002 p3) else (S 1100002 p2)) + (600 - (S 1046 0)) + 9)) ∧ (sm_WF (S 11) (S 12) (S 13) (S 1100001) (S 1100002) (S 1100005) (S 1100003) (S 1100004) (S 1024 0) (S 1007 0) (S 1009 0) (sm_fn (S 1032 0) (S 21) (S 1056 0)) ∧ (S 1009 0) = 0 ∧ 0 ≤ (S 1007 0) ∧ (S 1007 0) ≤ 90 ∧ 0 ≤ (S 1024 0) ∧ (S 1024 0) ≤ 12000 ∧ 1 ≤ (S 1032 0) ∧ (S 1032 0) ≤ 11 ∧ 0 ≤ (S 1056 0) ∧ (S 1056 0) < (S 1032 0) ∧ sm_VB (S 33) (S 21) (S 1032 0) ∧ 0 ≤ (S 1046 0) ∧ (S 1046 0) ≤ 600 ∧ 0 ≤ (S 1047 0) ∧ (S 1047 0) ≤ 1 ∧ 0 ≤ (S 1053 0) ∧ 0 ≤ (S 1066 0) ∧ 0 ≤ ((S 12 (5 * p2 + (0 : Int)))) ∧ ((S 12 (5 * p2 + (0 : Int)))) < (S 1024 0) ∧ (S 1100001 ((S 12 (5 * p2 + (0 : Int))))) = 1 ∧ sm_LF (S 39) (S 1100002) (S 1066 0) (S 1024 0) (12001 * (S 1100002 ((S 12 (5 * p2 + (0 : Int))))) + ((S 12 (5 * p2 + (0 : Int))))) ∧ ((S 1047 0) = 0 → sm_KC (S 26) (S 27) (S 28) (S 29) (S 1100007) (S 1100023) (S 1100024) (S 1100025) (S 31) (S 1100009) (S 1100027) (S 1100028) (S 1100026) (S 1100030) (S 21) (S 32) (S 33) (S 1046 0) (S 1053 0) (S 1056 0) (S 1032 0) (S 1007 0) (S 1100033 0) ∧ (S 1100033 0) = (S 1055 0) ∧ 0 ≤ (S 1055 0) ∧ (S 1055 0) ≤ (S 1046 0) ∧ (0 ≤ (S 1100023 (S 1046 0)) → (S 1100007 (S 1100023 (S 1046 0))) ≤ (S 1100007 (S 1046 0))) ∧ (0 ≤ (S 1100025 (S 1046 0)) → (S 1100007 (S 1100025 (S 1046 0))) ≤ (S 1100007 (S 1046 0))) ∧ (S 1100007 (S 1046 0)) ≤ (S 1046 0) ∧ (S 1053 0) + 3 * (600 - (S 1046 0)) + (S 1100002 ((S 12 (5 * p2 + (0 : Int))))) ≤ 8000)) ∧ (0 ≤ ((if (S 1047 0) = 0 then (S 1100002 ((S 12 (5 * p2 + (0 : Int))))) + (600 - (S 1046 0)) + 8 else 4)) ∧ ((if (S 1047 0) = 0 then (S 1100002 ((S 12 (5 * p2 + (0 : Int))))) + (600 - (S 1046 0)) + 8 else 4)) < d) ∧ (0 ≤ ((if (S 1047 0) = 0 then (S 1100002 ((S 12 (5 * p2 + (0 : Int))))) + (600 - (S 1046 0)) + 8 else 4)) ∧ ((if (S 1047 0) = 0 then (S 1100002 ((S 12 (5 * p2 + (0 : Int))))) + (600 - (S 1046 0)) + 8 else 4)) + 1 ≤ ((if (S 1100002 p2) ≤ (S 1100002 p3) then (S 1100002 p3) else (S 1100002 p2)) + (600 - (S 1046 0)) + 9)) ∧ (∀ g207 : sv_S, (0 ≤ (g207 1046 0) ∧ (g207 1046 0) ≤ 600 ∧ 0 ≤ (g207 1047 0) ∧ (g207 1047 0) ≤ 1 ∧ 0 ≤ (g207 1053 0) ∧ 0 ≤ (g207 1066 0) ∧ (S 1046 0) ≤ (g207 1046 0) ∧ ((S 1047 0) = 1 → (g207 1047 0) = 1) ∧ sm_F1 (S 26) (g207 26) (S 1046 0) ∧ sm_F1 (S 27) (g207 27) (S 1046 0) ∧ sm_F1 (S 28) (g207 28) (S 1046 0) ∧ sm_F1 (S 29) (g207 29) (S 1046 0) ∧ sm_F1 (S 1100007) (g207 1100007) ((S 1046 0) + 1) ∧ sm_F1 (S 1100023) (g207 1100023) ((S 1046 0) + 1) ∧ sm_F1 (S 1100024) (g207 1100024) ((S 1046 0) + 1) ∧ sm_F1 (S 1100025) (g207 1100025) ((S 1046 0) + 1) ∧ sm_F1 (S 1100009) (g207 1100009) (S 1053 0) ∧ sm_F1 (S 1100027) (g207 1100027) (S 1053 0) ∧ sm_F1 (S 1100028) (g207 1100028) (S 1053 0) ∧ sm_F1 (S 1100026) (g207 1100026) (S 1053 0) ∧ sm_F1 (S 1100030) (g207 1100030) (S 1053 0) ∧ sm_F1 (S 31) (g207 31) (S 1053 0) ∧ (S 1053 0) ≤ (g207 1053 0) ∧ (g207 1066 0) = (S 1066 0) ∧ sm_F1 (S 39) (g207 39) (S 1066 0) ∧ ((S 1047 0) = 1 → (g207 1053 0) = (S 1053 0)) ∧ ((S 1047 0) = 0 → (g207 1053 0) ≤ (S 1053 0) + 3 * (600 - (S 1046 0)) + (S 1100002 ((S 12 (5 * p2 + (0 : Int)))))) ∧ ((g207 1047 0) = 0 → (S 1047 0) = 0 ∧ sm_KC (g207 26) (g207 27) (g207 28) (g207 29) (g207 1100007) (g207 1100023) (g207 1100024) (g207 1100025) (g207 31) (g207 1100009) (g207 1100027) (g207 1100028) (g207 1100026) (g207 1100030) (S 21) (S 32) (S 33) (g207 1046 0) (g207 1053 0) (S 1056 0) (S 1032 0) (S 1007 0) (g207 1100033 0) ∧ (g207 1100033 0) = (g207 1055 0) ∧ 0 ≤ (g207 1055 0) ∧ (g207 1055 0) ≤ (g207 1046 0) ∧ (S 1046 0) + 1 ≤ (g207 1046 0) ∧ sm_FC (g207 29) (S 1046 0) (g207 1046 0) (S 1056 0) ∧ (g207 1100007 (g207 1046 0)) = (S 1100007 (S 1046 0)) + 1 ∧ (g207 1100023 (g207 1046 0)) = (S 1100023 (S 1046 0)) ∧ (g207 1100024 (g207 1046 0)) = (S 1100024 (S 1046 0)) ∧ (g207 1100025 (g207 1046 0)) = (S 1100025 (S 1046 0)) ∧ (g207 1100007 (g207 1100023 (g207 1046 0))) = (S 1100007 (S 1100023 (S 1046 0))) ∧ (g207 1100007 (g207 1100025 (g207 1046 0))) = (S 1100007 (S 1100025 (S 1046 0))) ∧ sm_AP (g207 1100030) (S 1053 0) (g207 1053 0) ∧ sm_HB (g207 1100007) (S 1046 0) (g207 1046 0) (2 * (S 1100007 (S 1046 0)) + ((g207 1046 0) - (S 1046 0)) + 8 * (S 1100005 ((S 12 (5 * p2 + (0 : Int))))) + 10) ∧ (g207 1053 0) ≤ (S 1053 0) + 3 * ((g207 1046 0) - (S 1046 0)) ∧ True)) → (0 ≤ p2 ∧ p2 < 12000 ∧ 0 ≤ (1 : Int) ∧ (1 : Int) ≤ 4) ∧ (sm_WF (S 11) (S 12) (S 13) (S 1100001) (S 1100002) (S 1100005) (S 1100003) (S 1100004) (S 1024 0) (S 1007 0) (S 1009 0) (sm_fn (S 1032 0) (S 21) (S 1056 0)) ∧ (S 1009 0) = 0 ∧ 0 ≤ (S 1007 0) ∧ (S 1007 0) ≤ 90 ∧ 0 ≤ (S 1024 0) ∧ (S 1024 0) ≤ 12000 ∧ 1 ≤ (S 1032 0) ∧ (S 1032 0) ≤ 11 ∧ 0 ≤ (S 1056 0) ∧ (S 1056 0) < (S 1032 0) ∧ sm_VB (S 33) (S 21) (S 1032 0) ∧ 0 ≤ (g207 1046 0) ∧ (g207 1046 0) ≤ 600 ∧ 0 ≤ (g207 1047 0) ∧ (g207 1047 0) ≤ 1 ∧ 0 ≤ (g207 1053 0) ∧ 0 ≤ (g207 1066 0) ∧ 0 ≤ ((S 12 (5 * p2 + (1 : Int)))) ∧ ((S 12 (5 * p2 + (1 : Int)))) < (S 1024 0) ∧ (S 1100001 ((S 12 (5 * p2 + (1 : Int))))) = 1 ∧ sm_LF (g207 39) (S 1100002) (g207 1066 0) (S 1024 0) (12001 * (S 1100002 ((S 12 (5 * p2 + (1 : Int))))) + ((S 12 (5 * p2 + (1 : Int))))) ∧ ((g207 1047 0) = 0 → sm_KC (g207 26) (g207 27) (g207 28) (g207 29) (g207 1100007) (g207 1100023) (g207 1100024) (g207 1100025) (g207 31) (g207 1100009) (g207 1100027) (g207 1100028) (g207 1100026) (g207 1100030) (S 21) (S 32) (S 33) (g207 1046 0) (g207 1053 0) (S 1056 0) (S 1032 0) (S 1007 0) (g207 1100033 0) ∧ (g207 1100033 0) = (g207 1055 0) ∧ 0 ≤ (g207 1055 0) ∧ (g207 1055 0) ≤ (g207 1046 0) ∧ (0 ≤ (g207 1100023 (g207 1046 0)) → (g207 1100007 (g207 1100023 (g207 1046 0))) ≤ (g207 1100007 (g207 1046 0))) ∧ (0 ≤ (g207 1100025 (g207 1046 0)) → (g207 1100007 (g207 1100025 (g207 1046 0))) ≤ (g207 1100007 (g207 1046 0))) ∧ (g207 1100007 (g207 1046 0)) ≤ (g207 1046 0) ∧ (g207 1053 0) + 3 * (600 - (g207 1046 0)) + (S 1100002 ((S 12 (5 * p2 + (1 : Int))))) ≤ 8000)) ∧ (0 ≤ ((if (g207 1047 0) = 0 then (S 1100002 ((S 12 (5 * p2 + (1 : Int))))) + (600 - (g207 1046 0)) + 8 else 4)) ∧ ((if (g207 1047 0) = 0 then (S 1100002 ((S 12 (5 * p2 + (1 : Int))))) + (600 - (g207 1046 0)) + 8 else 4)) < d) ∧ (0 ≤ ((if (g207 1047 0) = 0 then (S 1100002 ((S 12 (5 * p2 + (1 : Int))))) + (600 - (g207 1046 0)) + 8 else 4)) ∧ ((if (g207 1047 0) = 0 then (S 1100002 ((S 12 (5 * p2 + (1 : Int))))) + (600 - (g207 1046 0)) + 8 else 4)) + 1 ≤ ((if (S 1100002 p2) ≤ (S 1100002 p3) then (S 1100002 p3) else (S 1100002 p2)) + (600 - (S 1046 0)) + 9)) ∧ (∀ g217 : sv_S, (0 ≤ (g217 1046 0) ∧ (g217 1046 0) ≤ 600 ∧ 0 ≤ (g217 1047 0) ∧ (g217 1047 0) ≤ 1 ∧ 0 ≤ (g217 1053 0) ∧ 0 ≤ (g217 1066 0) ∧ (g207 1046 0) ≤ (g217 1046 0) ∧ ((g207 1047 0) = 1 → (g217 1047 0) = 1) ∧ sm_F1 (g207 26) (g217 26) (g207 1046 0) ∧ sm_F1 (g207 27) (g217 27) (g207 1046 0) ∧ sm_F1 (g207 28) (g217 28) (g207 1046 0) ∧ sm_F1 (g207 29) (g217 29) (g207 1046 0) ∧ sm_F1 (g207 1100007) (g217 1100007) ((g207 1046 0) + 1) ∧ sm_F1 (g207 1100023) (g217 1100023) ((g207 1046 0) + 1) ∧ sm_F1 (g207 1100024) (g217 1100024) ((g207 1046 0) + 1) ∧ sm_F1 (g207 1100025) (g217 1100025) ((g207 1046 0) + 1) ∧ sm_F1 (g207 1100009) (g217 1100009) (g207 1053 0) ∧ sm_F1 (g207 1100027) (g217 1100027) (g207 1053 0) ∧ sm_F1 (g207 1100028) (g217 1100028) (g207 1053 0) ∧ sm_F1 (g207 1100026) (g217 1100026) (g207 1053 0) ∧ sm_F1 (g207 1100030) (g217 1100030) (g207 1053 0) ∧ sm_F1 (g207 31) (g217 31) (g207 1053 0) ∧ (g207 1053 0) ≤ (g217 1053 0) ∧ (g217 1066 0) = (g207 1066 0) ∧ sm_F1 (g207 39) (g217 39) (g207 1066 0) ∧ ((g207 1047 0) = 1 → (g217 1053 0) = (g207 1053 0)) ∧ ((g207 1047 0) = 0 → (g217 1053 0) ≤ (g207 1053 0) + 3 * (600 - (g207 1046 0)) + (S 1100002 ((S 12 (5 * p2 + (1 : Int)))))) ∧ ((g217 1047 0) = 0 → (g207 1047 0) = 0 ∧ sm_KC (g217 26) (g217 27) (g217 28) (g217 29) (g217 1100007) (g217 1100023) (g217 1100024) (g217 1100025) (g217 31) (g217 1100009) (g217 1100027) (g217 1100028) (g217 1100026) (g217 1100030) (S 21) (S 32) (S 33) (g217 1046 0) (g217 1053 0) (S 1056 0) (S 1032 0) (S 1007 0) (g217 1100033 0) ∧ (g217 1100033 0) = (g217 1055 0) ∧ 0 ≤ (g217 1055 0) ∧ (g217 1055 0) ≤ (g217 1046 0) ∧ (g207 1046 0) + 1 ≤ (g217 1046 0) ∧ sm_FC (g217 29) (g207 1046 0) (g217 1046 0) (S 1056 0) ∧ (g217 1100007 (g217 1046 0)) = (g207 1100007 (g207 1046 0)) + 1 ∧ (g217 1100023 (g217 1046 0)) = (g207 1100023 (g207 1046 0)) ∧ (g217 1100024 (g217 1046 0)) = (g207 1100024 (g207 1046 0)) ∧ (g217 1100025 (g217 1046 0)) = (g207 1100025 (g207 1046 0)) ∧ (g217 1100007 (g217 1100023 (g217 1046 0))) = (g207 1100007 (g207 1100023 (g207 1046 0))) ∧ (g217 1100007 (g217 1100025 (g217 1046 0))) = (g207 1100007 (g207 1100025 (g207 1046 0))) ∧ sm_AP (g217 1100030) (g207 1053 0) (g217 1053 0) ∧ sm_HB (g217 1100007) (g207 1046 0) (g217 1046 0) (2 * (g207 1100007 (g207 1046 0)) + ((g217 1046 0) - (g207 1046 0)) + 8 * (S 1100005 ((S 12 (5 * p2 + (1 : Int))))) + 10) ∧ (g217 1053 0) ≤ (g207 1053 0) + 3 * ((g217 1046 0) - (g207 1046 0)) ∧ True)) → (((1 : Int) = 0 ∨ (1 : Int) = 1) ∧ ((1 : Int) = 1 → (S 11 p2) = 2) ∧ ((1 : Int) = 0 → (S 11 p2) = 7) ∧ 0 ≤ (g217 1046 0) ∧ (g217 1046 0) ≤ 600 ∧ 0 ≤ (g217 1047 0) ∧ (g217 1047 0) ≤ 1 ∧ 0 ≤ (g217 1053 0) ∧ 0 ≤ (g217 1066 0) ∧ (S 1046 0) ≤ (g217 1046 0) ∧ ((S 1047 0) = 1 → (g217 1047 0) = 1) ∧ sm_F1 (S 26) (g217 26) (S 1046 0) ∧ sm_F1 (S 27) (g217 27) (S 1046 0) ∧ sm_F1 (S 28) (g217 28) (S 1046 0) ∧ sm_F1 (S 29) (g217 29) (S 1046 0) ∧ sm_F1 (S 1100007) (g217 1100007) ((S 1046 0) + 1) ∧ sm_F1 (S 1100023) (g217 1100023) ((S 1046 0) + 1) ∧ sm_F1 (S 1100024) (g217 1100024) ((S 1046 0) + 1) ∧ sm_F1 (S 1100025) (g217 1100025) ((S 1046 0) + 1) ∧ sm_F1 (S 1100009) (g217 1100009) (S 1053 0) ∧ sm_F1 (S 1100027) (g217 1100027) (S 1053 0) ∧ sm_F1 (S 1100028) (g217 1100028) (S 1053 0) ∧ sm_F1 (S 1100026) (g217 1100026) (S 1053 0) ∧ sm_F1 (S 1100030) (g217 1100030) (S 1053 0) ∧ sm_F1 (S 31) (g217 31) (S 1053 0) ∧ (S 1053 0) ≤ (g217 1053 0) ∧ (g217 1066 0) = (S 1066 0) ∧ sm_F1 (S 39) (g217 39) (S 1066 0) ∧ ((S 1047 0) = 1 → (g217 1053 0) = (S 1053 0)) ∧ ((S 1047 0) = 0 → (g217 1053 0) ≤ (S 1053 0) + 3 * (600 - (S 1046 0)) + (if (S 1100002 p2) ≤ (S 1100002 p3) then (S 1100002 p3) else (S 1100002 p2))) ∧ ((g217 1047 0) = 0 → (S 1047 0) = 0 ∧ sm_KC (g217 26) (g217 27) (g217 28) (g217 29) (g217 1100007) (g217 1100023) (g217 1100024) (g217 1100025) (g217 31) (g217 1100009) (g217 1100027) (g217 1100028) (g217 1100026) (g217 1100030) (S 21) (S 32) (S 33) (g217 1046 0) (g217 1053 0) (S 1056 0) (S 1032 0) (S 1007 0) (g217 1100033 0) ∧ (g217 1100033 0) = (g217 1055 0) ∧ 0 ≤ (g217 1055 0) ∧ (g217 1055 0) ≤ (g217 1046 0) ∧ (S 1046 0) + (if (1 : Int) = 1 then (0 : Int) else 2) ≤ (g217 1046 0) ∧ sm_FC (g217 29) (S 1046 0) (g217 1046 0) (S 1056 0) ∧ (g217 1100007 (g217 1046 0)) = (S 1100007 (S 1046 0)) + (if (1 : Int) = 1 then (0 : Int) else 2) ∧ (g217 1100023 (g217 1046 0)) = (S 1100023 (S 1046 0)) ∧ (g217 1100024 (g217 1046 0)) = (S 1100024 (S 1046 0)) ∧ (g217 1100025 (g217 1046 0)) = (S 1100025 (S 1046 0)) ∧ (g217 1100007 (g217 1100023 (g217 1046 0))) = (S 1100007 (S 1100023 (S 1046 0))) ∧ (g217 1100007 (g217 1100025 (g217 1046 0))) = (S 1100007 (S 1100025 (S 1046 0))) ∧ sm_AP (g217 1100030) (S 1053 0) (g217 1053 0) ∧ sm_HB (g217 1100007) (S 1046 0) (g217 1046 0) (2 * (S 1100007 (S 1046 0)) + ((g217 1046 0) - (S 1046 0)) + 8 * (if (S 1100005 p2) ≤ ((S 1100005 p3) + 1) then ((S 1100005 p3) + 1) else (S 1100005 p2)) + 12) ∧ (g217 1053 0) ≤ (S 1053 0) + 3 * ((g217 1046 0) - (S 1046 0)) ∧ True))))))))))))))))))) := by
  intro d
  intro p1
  intro p2
  intro p3
  intro S
  intro h1_
  intro h2_
  intro h3_
  intro h4_
  rintro ⟨h5_, ⟨h6_, ⟨h7_, ⟨h8_, ⟨h9_, ⟨h10_, ⟨h11_, ⟨h12_, ⟨h13_, ⟨h14_, ⟨h15_, ⟨h16_, ⟨h17_, ⟨h18_, ⟨h19_, ⟨h20_, ⟨h21_, ⟨h22_, ⟨h23_, ⟨h24_, ⟨h25_, ⟨h26_, ⟨h27_, ⟨h28_, ⟨h29_, ⟨h30_, ⟨h31_, ⟨h32_, ⟨h33_, ⟨h34_, ⟨h35_, ⟨h36_, ⟨h37_, ⟨h38_, ⟨h39_, ⟨h40_, h41_⟩⟩⟩⟩⟩⟩⟩⟩⟩⟩⟩⟩⟩⟩⟩⟩⟩⟩⟩⟩⟩⟩⟩⟩⟩⟩⟩⟩⟩⟩⟩⟩⟩⟩⟩⟩
  intro h42_
  intro h43_
  have h44_ := (h43_ h5_)
  have h45_ := (h44_ h24_)
  obtain ⟨h46_, ⟨h47_, ⟨h48_, h49_⟩⟩⟩ := (h45_ h25_)
  obtain ⟨h50_, ⟨h51_, ⟨h52_, h53_⟩⟩⟩ := (h46_ h26_)
  intro h54_
  have h55_ := (h54_ h5_)
  have h56_ := (h55_ h28_)
  obtain ⟨h57_, ⟨h58_, ⟨h59_, h60_⟩⟩⟩ := (h56_ h29_)
  obtain ⟨h61_, ⟨h62_, ⟨h63_, h64_⟩⟩⟩ := (h57_ h30_)
  rintro ⟨h65_, h66_⟩
  rintro ⟨h67_, h68_⟩
  refine ⟨(la_give_3 h10_ h24_ h25_), ?_⟩
  intro h69_
  refine ⟨?_, ?_⟩
  · skip
    intro h70_
    have h71_ := (h27_.resolve_left h70_)
    refine ⟨?_, ?_⟩
    · skip
      intro g7
      rintro ⟨h72_, ⟨h73_, ⟨h74_, ⟨h75_, ⟨h76_, ⟨h77_, ⟨h78_, ⟨h79_, ⟨h80_, ⟨h81_, ⟨h82_, ⟨h83_, ⟨h84_, ⟨h85_, ⟨h86_, ⟨h87_, ⟨h88_, ⟨h89_, ⟨h90_, ⟨h91_, ⟨h92_, ⟨h93_, ⟨h94_, ⟨h95_, ⟨h96_, ⟨h97_, ⟨h98_, ⟨h99_, ⟨h100_, ⟨h101_, h102_⟩⟩⟩⟩⟩⟩⟩⟩⟩⟩⟩⟩⟩⟩⟩⟩⟩⟩⟩⟩⟩⟩⟩⟩⟩⟩⟩⟩⟩⟩
      have e103_ : (if (0 : Int) = 1 then 0 else 2 : Int) = 2 := if_neg la_give_8
      have h104_ := (h72_.resolve_right la_give_8)
      have h105_ := (h74_ h104_)
      have h106_ := (h101_ h33_)
      refine ⟨?_, ?_⟩
      · skip
        intro g12
        rintro ⟨h107_, ⟨h108_, ⟨h109_, ⟨h110_, ⟨h111_, ⟨h112_, ⟨h113_, ⟨h114_, ⟨h115_, ⟨h116_, ⟨h117_, ⟨h118_, ⟨h119_, ⟨h120_, ⟨h121_, ⟨h122_, ⟨h123_, ⟨h124_, ⟨h125_, ⟨h126_, ⟨h127_, ⟨h128_, ⟨h129_, ⟨h130_, ⟨h131_, ⟨h132_, ⟨h133_, h134_⟩⟩⟩⟩⟩⟩⟩⟩⟩⟩⟩⟩⟩⟩⟩⟩⟩⟩⟩⟩⟩⟩⟩⟩⟩⟩⟩
        have h135_ := (h133_ h33_)
        rintro ⟨h136_, h137_⟩
        refine ⟨?_, ?_⟩
        · skip
          intro g18
          rintro ⟨h138_, ⟨h139_, ⟨h140_, ⟨h141_, ⟨h142_, ⟨h143_, ⟨h144_, ⟨h145_, ⟨h146_, ⟨h147_, ⟨h148_, ⟨h149_, ⟨h150_, ⟨h151_, ⟨h152_, ⟨h153_, ⟨h154_, ⟨h155_, ⟨h156_, ⟨h157_, ⟨h158_, ⟨h159_, ⟨h160_, ⟨h161_, ⟨h162_, ⟨h163_, ⟨h164_, h165_⟩⟩⟩⟩⟩⟩⟩⟩⟩⟩⟩⟩⟩⟩⟩⟩⟩⟩⟩⟩⟩⟩⟩⟩⟩⟩⟩
          have h166_ := (h164_ h33_)
          refine ⟨?_, ?_⟩
          · skip
            intro h167_
            refine ⟨?_, ?_⟩
            · skip
              refine ⟨h138_, ?_⟩
              refine ⟨h139_, ?_⟩
              refine ⟨h140_, ?_⟩
              refine ⟨h141_, ?_⟩
              intro h168_
              obtain ⟨h169_, ⟨h170_, ⟨h171_, ⟨h172_, ⟨h173_, ⟨h174_, ⟨h175_, ⟨h176_, ⟨h177_, ⟨h178_, ⟨h179_, ⟨h180_, ⟨h181_, ⟨h182_, ⟨h183_, ⟨h184_, -⟩⟩⟩⟩⟩⟩⟩⟩⟩⟩⟩⟩⟩⟩⟩⟩ := (h165_ h168_)
              refine ⟨h170_, ?_⟩
              refine ⟨la_give_10, ?_⟩
              refine ⟨la_give_11, ?_⟩
              refine ⟨(sm_ci_11 (la_give_12 (sm_KC_n h34_).2.1.1 h38_ h39_ e103_ h176_ h177_ h179_ h180_ h181_ (sm_dl_11 : sm_dl 11 0 = (-2)) (sm_nt_11 : sm_nt 11 (g18 1046 0) (g18 1100023 (g18 1046 0)) (g18 1100023 (g18 1100023 (g18 1046 0))) = g18 1100023 (g18 1046 0)) (sm_nl_11 : sm_nl 11 (g18 1046 0) (g18 1100007 (g18 1046 0)) (g18 1100025 (g18 1046 0)) (g18 1100007 (g18 1100025 (g18 1046 0))) (g18 1100025 (g18 1100025 (g18 1046 0))) = g18 1100025 (g18 1046 0)))), ?_⟩
              refine ⟨la_give_13, ?_⟩
              intro h185_
              have h186_ := (h185_.resolve_left la_give_14)
              have h187_ := (h38_ (la_give_16 h186_))
              have h188_ := (h39_ (la_give_16 h186_))
              have h189_ := (h63_ (la_give_17 h186_))
              have e190_ : (if S 1100002 p2 ≤ S 1100002 p3 then S 1100002 p3 else S 1100002 p2 : Int) = S 1100002 p3 := if_pos (la_give_18 h186_)
              have e191_ : (if S 1100005 p2 ≤ S 1100005 p3 + 1 then S 1100005 p3 + 1 else S 1100005 p2 : Int) = S 1100005 p3 + 1 := if_pos (la_give_19 h186_)
              have e192_ : S 11 p3 = S 11 p2 := congrArg ((S 11)) (la_give_20 h186_)
              have e193_ : S 1100001 p3 = S 1100001 p2 := congrArg ((S 1100001)) (la_give_20 h186_)
              have e194_ : S 1100002 p3 = S 1100002 p2 := congrArg ((S 1100002)) (la_give_20 h186_)
              have e195_ : S 1100005 p3 = S 1100005 p2 := congrArg ((S 1100005)) (la_give_20 h186_)
              have e196_ : S 1100007 (S 1100023 (S 1046 0)) = S 1100007 (S 1046 0) := congrArg ((S 1100007)) (la_give_20 h186_)
              have e197_ : S 1100007 (S 1100025 (S 1046 0)) = S 1100007 (S 1046 0) := congrArg ((S 1100007)) (la_give_20 h186_)
              have e198_ : S 1100007 (S 1100025 (S 1046 0)) = S 1100007 (S 1100023 (S 1046 0)) := congrArg ((S 1100007)) (la_give_20 h186_)
              have e199_ : S 1100007 (g18 1046 0) = S 1100007 (S 1046 0) := congrArg ((S 1100007)) (la_give_20 h186_)
              have e200_ : S 1100007 (g18 1046 0) = S 1100007 (S 1100023 (S 1046 0)) := congrArg ((S 1100007)) (la_give_20 h186_)
              have e201_ : S 1100007 (g18 1046 0) = S 1100007 (S 1100025 (S 1046 0)) := congrArg ((S 1100007)) (la_give_20 h186_)
              have e202_ : S 1100007 (g18 1100023 (g18 1046 0)) = S 1100007 (S 1046 0) := congrArg ((S 1100007)) (la_give_20 h186_)
              have e203_ : S 1100007 (g18 1100023 (g18 1046 0)) = S 1100007 (S 1100023 (S 1046 0)) := congrArg ((S 1100007)) h177_
              have e204_ : S 1100007 (g18 1100023 (g18 1046 0)) = S 1100007 (S 1100025 (S 1046 0)) := congrArg ((S 1100007)) (la_give_20 h186_)
              have e205_ : S 1100007 (g18 1100023 (g18 1046 0)) = S 1100007 (g18 1046 0) := congrArg ((S 1100007)) (la_give_20 h186_)
              have e206_ : S 1100007 (g18 1100025 (g18 1046 0)) = S 1100007 (S 1046 0) := congrArg ((S 1100007)) (la_give_20 h186_)
              have e207_ : S 1100007 (g18 1100025 (g18 1046 0)) = S 1100007 (S 1100023 (S 1046 0)) := congrArg ((S 1100007)) (la_give_20 h186_)
              have e208_ : S 1100007 (g18 1100025 (g18 1046 0)) = S 1100007 (S 1100025 (S 1046 0)) := congrArg ((S 1100007)) h179_
              have e209_ : S 1100007 (g18 1100025 (g18 1046 0)) = S 1100007 (g18 1046 0) := congrArg ((S 1100007)) (la_give_20 h186_)
              have e210_ : S 1100007 (g18 1100025 (g18 1046 0)) = S 1100007 (g18 1100023 (g18 1046 0)) := congrArg ((S 1100007)) (la_give_20 h186_)
              have e211_ : S 1100023 (g18 1046 0) = S 1100023 (S 1046 0) := congrArg ((S 1100023)) (la_give_20 h186_)
              have e212_ : S 1100024 (g18 1046 0) = S 1100024 (S 1046 0) := congrArg ((S 1100024)) (la_give_20 h186_)
              have e213_ : S 1100025 (g18 1046 0) = S 1100025 (S 1046 0) := congrArg ((S 1100025)) (la_give_20 h186_)
              have e214_ : g18 1100007 (g18 1100023 (g18 1046 0)) = g18 1100007 (g18 1046 0) := congrArg ((g18 1100007)) (la_give_20 h186_)
              have e215_ : g18 1100007 (g18 1100025 (g18 1046 0)) = g18 1100007 (g18 1046 0) := congrArg ((g18 1100007)) (la_give_20 h186_)
              have e216_ : g18 1100007 (g18 1100025 (g18 1046 0)) = g18 1100007 (g18 1100023 (g18 1046 0)) := congrArg ((g18 1100007)) (la_give_20 h186_)
              have e217_ : g18 1100023 (g18 1100023 (g18 1046 0)) = g18 1100023 (g18 1046 0) := congrArg ((g18 1100023)) (la_give_20 h186_)
              have e218_ : g18 1100025 (g18 1100025 (g18 1046 0)) = g18 1100025 (g18 1046 0) := congrArg ((g18 1100025)) (la_give_20 h186_)
              have h219_ := (h62_ (la_give_21 h186_))
              have e220_ : S 1100023 (g18 1100023 (g18 1046 0)) = S 1100023 (S 1046 0) := congrArg ((S 1100023)) (la_give_20 h186_)
              have e221_ : S 1100023 (g18 1100023 (g18 1046 0)) = S 1100023 (g18 1046 0) := congrArg ((S 1100023)) (la_give_20 h186_)
              have e222_ : S 1100025 (g18 1100025 (g18 1046 0)) = S 1100025 (S 1046 0) := congrArg ((S 1100025)) (la_give_20 h186_)
              have e223_ : S 1100025 (g18 1100025 (g18 1046 0)) = S 1100025 (g18 1046 0) := congrArg ((S 1100025)) (la_give_20 h186_)
              exact ((la_give_22 h186_)).elim
            refine ⟨(la_give_23 h50_ h65_ h97_ h106_), ?_⟩
            intro g25
            rintro ⟨h224_, ⟨h225_, ⟨h226_, ⟨h227_, ⟨h228_, ⟨h229_, ⟨h230_, ⟨h231_, ⟨h232_, ⟨h233_, ⟨h234_, ⟨h235_, ⟨h236_, ⟨h237_, ⟨h238_, ⟨h239_, h240_⟩⟩⟩⟩⟩⟩⟩⟩⟩⟩⟩⟩⟩⟩⟩⟩
            refine ⟨(la_give_24 h226_), ?_⟩
            refine ⟨h229_, ?_⟩
            refine ⟨h224_, ?_⟩
            refine ⟨h225_, ?_⟩
            refine ⟨h142_, ?_⟩
            refine ⟨h143_, ?_⟩
            refine ⟨(la_give_25 h144_ h227_), ?_⟩
            refine ⟨(la_give_26 h33_ h225_), ?_⟩
            refine ⟨(sm_F1_tr (sm_F1_le h146_ (Int.le_refl _)) h232_ h144_), ?_⟩
            refine ⟨(sm_F1_tr (sm_F1_le h147_ (Int.le_refl _)) h233_ h144_), ?_⟩
            refine ⟨(sm_F1_tr (sm_F1_le h148_ (Int.le_refl _)) h234_ h144_), ?_⟩
            refine ⟨(sm_F1_tr (sm_F1_le h149_ (Int.le_refl _)) h235_ h144_), ?_⟩
            refine ⟨(sm_F1_tr (sm_F1_le h150_ (Int.le_refl _)) h236_ (la_give_27 h144_)), ?_⟩
            refine ⟨(sm_F1_tr (sm_F1_le h151_ (Int.le_refl _)) h237_ (la_give_27 h144_)), ?_⟩
            refine ⟨(sm_F1_tr (sm_F1_le h152_ (Int.le_refl _)) h238_ (la_give_27 h144_)), ?_⟩
            refine ⟨(sm_F1_tr (sm_F1_le h153_ (Int.le_refl _)) h239_ (la_give_27 h144_)), ?_⟩
            refine ⟨h154_, ?_⟩
            refine ⟨h155_, ?_⟩
            refine ⟨h156_, ?_⟩
            refine ⟨h157_, ?_⟩
            refine ⟨h158_, ?_⟩
            refine ⟨h159_, ?_⟩
            refine ⟨h160_, ?_⟩
            refine ⟨h161_, ?_⟩
            refine ⟨h162_, ?_⟩
            refine ⟨h163_, ?_⟩
            refine ⟨h164_, ?_⟩
            intro h241_
            have h242_ : ¬ (g18 1047 0 = 1) := fun q_ => (la_give_9 h241_) (h230_ q_)
            obtain ⟨h243_, ⟨h244_, ⟨h245_, ⟨h246_, ⟨h247_, ⟨h248_, ⟨h249_, ⟨h250_, ⟨h251_, ⟨h252_, ⟨h253_, ⟨h254_, ⟨h255_, h256_⟩⟩⟩⟩⟩⟩⟩⟩⟩⟩⟩⟩⟩ := (h240_ h241_)
            have h257_ := (h256_ la_give_29)
            obtain ⟨h258_, ⟨h259_, ⟨h260_, ⟨h261_, ⟨h262_, ⟨h263_, ⟨h264_, ⟨h265_, ⟨h266_, ⟨h267_, ⟨h268_, ⟨h269_, ⟨h270_, ⟨h271_, ⟨h272_, ⟨h273_, -⟩⟩⟩⟩⟩⟩⟩⟩⟩⟩⟩⟩⟩⟩⟩⟩ := (h165_ h243_)
            have h274_ := (h257_ la_give_31)
            refine ⟨h33_, ?_⟩
            refine ⟨h245_, ?_⟩
            refine ⟨h260_, ?_⟩
            refine ⟨h261_, ?_⟩
            refine ⟨(la_give_32 h244_ h262_), ?_⟩
            refine ⟨(la_give_33 e103_ h244_ h263_), ?_⟩
            refine ⟨(sm_FC_s (sm_FC_F h264_ (sm_F1_le h235_ (Int.le_refl _)) (Int.le_refl _) (Int.le_refl _) (Int.le_refl _) rfl) (sm_FC_1 h248_ (sm_FC_0 h228_))), ?_⟩
            refine ⟨(la_give_35 e103_ h249_ (sm_dl_11 : sm_dl 11 0 = (-2)) h265_), ?_⟩
            refine ⟨(la_give_36 h250_ (sm_nt_11 : sm_nt 11 (g18 1046 0) (g18 1100023 (g18 1046 0)) (g18 1100023 (g18 1100023 (g18 1046 0))) = g18 1100023 (g18 1046 0)) h266_), ?_⟩
            refine ⟨(la_give_36 h251_ (sm_nd_11 : sm_nd 11 (g18 1100024 (g18 1046 0)) = g18 1100024 (g18 1046 0)) h267_), ?_⟩
            refine ⟨(la_give_36 h252_ (sm_nl_11 : sm_nl 11 (g18 1046 0) (g18 1100007 (g18 1046 0)) (g18 1100025 (g18 1046 0)) (g18 1100007 (g18 1100025 (g18 1046 0))) (g18 1100025 (g18 1100025 (g18 1046 0))) = g18 1100025 (g18 1046 0)) h268_), ?_⟩
            refine ⟨(la_give_36 h253_ (sm_nt_11 : sm_nt 11 (g18 1100007 (g18 1046 0)) (g18 1100007 (g18 1100023 (g18 1046 0))) (g18 1100007 (g18 1100023 (g18 1100023 (g18 1046 0)))) = g18 1100007 (g18 1100023 (g18 1046 0))) h269_), ?_⟩
            refine ⟨(la_give_37 h270_ h274_), ?_⟩
            refine ⟨h271_, ?_⟩
            refine ⟨(sm_HB_1 (by rw [((sm_F1_at h236_ (S 1046 0) (la_give_38 e103_ h263_)).trans ((sm_F1_at h150_ (S 1046 0) la_give_39).trans rfl))]; exact (la_give_40 h64_ h68_ e103_ h244_ h263_)) (sm_HB_s (sm_HB_F h272_ (sm_F1_le h236_ la_give_42) (Int.le_refl _) la_give_42 (Int.le_refl _) (la_give_44 h244_)) (sm_HB_1 (by rw [((sm_F1_at h236_ (g18 1046 0) la_give_39).trans rfl)]; exact (la_give_45 h64_ h68_ e103_ h244_ h263_ h265_)) (sm_HB_0 h228_)))), ?_⟩
            refine ⟨(la_give_46 h244_ h273_), ?_⟩
            exact trivial
          intro h275_
          intro h276_
          have h277_ := (h276_ h5_)
          have h278_ := (h277_ h24_)
          have h279_ := (h278_ h25_)
          have h280_ := (h279_ h26_)
          have h281_ := (h280_ (la_give_49 (la_give_48 la_give_47 h275_)))
          intro h282_
          have h283_ := (h282_ h281_)
          obtain ⟨h284_, h285_⟩ := (h283_ h6_)
          refine ⟨(la_give_50 (la_give_48 la_give_47 h275_)), ?_⟩
          refine ⟨(la_give_51 (la_give_48 la_give_47 h275_)), ?_⟩
          refine ⟨?_, ?_⟩
          · skip
            refine ⟨h138_, ?_⟩
            refine ⟨h139_, ?_⟩
            refine ⟨h140_, ?_⟩
            refine ⟨h141_, ?_⟩
            refine ⟨h13_, ?_⟩
            refine ⟨h14_, ?_⟩
            refine ⟨h12_, ?_⟩
            refine ⟨h15_, ?_⟩
            refine ⟨la_give_52, ?_⟩
            intro h286_
            obtain ⟨h287_, ⟨h288_, ⟨h289_, ⟨h290_, ⟨h291_, ⟨h292_, ⟨h293_, ⟨h294_, ⟨h295_, ⟨h296_, ⟨h297_, ⟨h298_, ⟨h299_, ⟨h300_, ⟨h301_, ⟨h302_, -⟩⟩⟩⟩⟩⟩⟩⟩⟩⟩⟩⟩⟩⟩⟩⟩ := (h165_ h286_)
            have e303_ : (if S 1100002 p2 ≤ S 1100002 p3 then S 1100002 p3 else S 1100002 p2 : Int) = S 1100002 p3 := if_pos (la_give_53 (la_give_48 la_give_47 h275_))
            have e304_ : (if S 1100005 p2 ≤ S 1100005 p3 + 1 then S 1100005 p3 + 1 else S 1100005 p2 : Int) = S 1100005 p3 + 1 := if_pos (la_give_54 (la_give_48 la_give_47 h275_))
            have h305_ := (h38_ (la_give_55 (la_give_48 la_give_47 h275_)))
            have h306_ := (h39_ (la_give_55 (la_give_48 la_give_47 h275_)))
            have h307_ := (h62_ (la_give_56 (la_give_48 la_give_47 h275_)))
            have h308_ := (h63_ (la_give_57 (la_give_48 la_give_47 h275_)))
            refine ⟨h288_, ?_⟩
            refine ⟨(la_give_55 (la_give_48 la_give_47 h275_)), ?_⟩
            refine ⟨(la_give_58 (la_give_48 la_give_47 h275_)), ?_⟩
            refine ⟨la_give_59, ?_⟩
            intro h309_
            refine ⟨(la_give_60 (la_give_48 la_give_47 h275_)), ?_⟩
            refine ⟨(la_give_61 (la_give_48 la_give_47 h275_)), ?_⟩
            intro h310_
            exact (la_give_62 (la_give_48 la_give_47 h275_))
          refine ⟨(la_give_63 (la_give_48 la_give_47 h275_)), ?_⟩
          intro g36
          rintro ⟨h311_, ⟨h312_, ⟨h313_, ⟨h314_, ⟨h315_, ⟨h316_, ⟨h317_, ⟨h318_, ⟨h319_, ⟨h320_, ⟨h321_, ⟨h322_, ⟨h323_, ⟨h324_, ⟨h325_, ⟨h326_, h327_⟩⟩⟩⟩⟩⟩⟩⟩⟩⟩⟩⟩⟩⟩⟩⟩
          have e328_ : (if S 1100002 p2 ≤ S 1100002 p3 then S 1100002 p3 else S 1100002 p2 : Int) = S 1100002 p3 := if_pos (la_give_53 (la_give_48 la_give_47 h275_))
          have e329_ : (if (2 : Int) = 1 then 1 else 0 : Int) = 1 := if_pos (la_give_64 (la_give_48 la_give_47 h275_))
          have h330_ := (h38_ (la_give_55 (la_give_48 la_give_47 h275_)))
          have h331_ := (h39_ (la_give_55 (la_give_48 la_give_47 h275_)))
          have h332_ := (h62_ (la_give_56 (la_give_48 la_give_47 h275_)))
          have h333_ := (h63_ (la_give_57 (la_give_48 la_give_47 h275_)))
          have h334_ := (h317_ (la_give_65 (la_give_48 la_give_47 h275_)))
          have h335_ := (h318_ h334_)
          obtain ⟨h336_, ⟨h337_, ⟨h338_, ⟨h339_, ⟨h340_, ⟨h341_, ⟨h342_, ⟨h343_, ⟨h344_, ⟨h345_, ⟨h346_, ⟨h347_, ⟨h348_, ⟨h349_, ⟨h350_, ⟨h351_, -⟩⟩⟩⟩⟩⟩⟩⟩⟩⟩⟩⟩⟩⟩⟩⟩ := (h165_ (la_give_66 (la_give_48 la_give_47 h275_)))
          obtain ⟨h352_, ⟨h353_, ⟨h354_, ⟨h355_, ⟨h356_, ⟨h357_, ⟨h358_, ⟨h359_, ⟨h360_, ⟨h361_, ⟨h362_, h363_⟩⟩⟩⟩⟩⟩⟩⟩⟩⟩⟩ := (h327_ (la_give_66 (la_give_48 la_give_47 h275_)))
          have e364_ : (if S 1100005 p2 ≤ S 1100005 p3 + 1 then S 1100005 p3 + 1 else S 1100005 p2 : Int) = S 1100005 p3 + 1 := if_pos (la_give_54 (la_give_48 la_give_47 h275_))
          have h365_ := (h335_.resolve_left (la_give_67 (la_give_48 la_give_47 h275_)))
          have h366_ := (h356_.resolve_left (la_give_68 (la_give_48 la_give_47 h275_)))
          refine ⟨(sm_KC_n h354_).1.1, ?_⟩
          refine ⟨h316_, ?_⟩
          refine ⟨h311_, ?_⟩
          refine ⟨h312_, ?_⟩
          refine ⟨h142_, ?_⟩
          refine ⟨h143_, ?_⟩
          refine ⟨(la_give_53 (la_give_48 la_give_47 h275_)), ?_⟩
          refine ⟨(la_give_69 (la_give_48 la_give_47 h275_)), ?_⟩
          refine ⟨(sm_F1_tr (sm_F1_le h146_ (Int.le_refl _)) h319_ h144_), ?_⟩
          refine ⟨(sm_F1_tr (sm_F1_le h147_ (Int.le_refl _)) h320_ h144_), ?_⟩
          refine ⟨(sm_F1_tr (sm_F1_le h148_ (Int.le_refl _)) h321_ h144_), ?_⟩
          refine ⟨(sm_F1_tr (sm_F1_le h149_ (Int.le_refl _)) h322_ h144_), ?_⟩
          refine ⟨(sm_F1_tr (sm_F1_le h150_ (Int.le_refl _)) h323_ (la_give_70 (la_give_48 la_give_47 h275_))), ?_⟩
          refine ⟨(sm_F1_tr (sm_F1_le h151_ (Int.le_refl _)) h324_ (la_give_70 (la_give_48 la_give_47 h275_))), ?_⟩
          refine ⟨(sm_F1_tr (sm_F1_le h152_ (Int.le_refl _)) h325_ (la_give_70 (la_give_48 la_give_47 h275_))), ?_⟩
          refine ⟨(sm_F1_tr (sm_F1_le h153_ (Int.le_refl _)) h326_ (la_give_70 (la_give_48 la_give_47 h275_))), ?_⟩
          refine ⟨h154_, ?_⟩
          refine ⟨h155_, ?_⟩
          refine ⟨h156_, ?_⟩
          refine ⟨h157_, ?_⟩
          refine ⟨h158_, ?_⟩
          refine ⟨h159_, ?_⟩
          refine ⟨h160_, ?_⟩
          refine ⟨h161_, ?_⟩
          refine ⟨h162_, ?_⟩
          refine ⟨h163_, ?_⟩
          refine ⟨h164_, ?_⟩
          intro h367_
          refine ⟨h33_, ?_⟩
          refine ⟨h354_, ?_⟩
          refine ⟨h338_, ?_⟩
          refine ⟨h339_, ?_⟩
          refine ⟨(la_give_53 (la_give_48 la_give_47 h275_)), ?_⟩
          refine ⟨(la_give_71 (la_give_48 la_give_47 h275_)), ?_⟩
          refine ⟨(sm_FC_0 (la_give_53 (la_give_48 la_give_47 h275_))), ?_⟩
          refine ⟨(la_give_72 (la_give_48 la_give_47 h275_)), ?_⟩
          refine ⟨(la_give_73 (la_give_48 la_give_47 h275_)), ?_⟩
          refine ⟨(la_give_73 (la_give_48 la_give_47 h275_)), ?_⟩
          refine ⟨(la_give_73 (la_give_48 la_give_47 h275_)), ?_⟩
          refine ⟨(la_give_73 (la_give_48 la_give_47 h275_)), ?_⟩
          refine ⟨(la_give_73 (la_give_48 la_give_47 h275_)), ?_⟩
          refine ⟨h349_, ?_⟩
          refine ⟨(sm_HB_0 (la_give_53 (la_give_48 la_give_47 h275_))), ?_⟩
          refine ⟨(la_give_74 (la_give_48 la_give_47 h275_)), ?_⟩
          exact trivial
        rintro ⟨h368_, h369_⟩
        refine ⟨?_, ?_⟩
        · skip
          refine ⟨h5_, ?_⟩
          refine ⟨h6_, ?_⟩
          refine ⟨h7_, ?_⟩
          refine ⟨h8_, ?_⟩
          refine ⟨h9_, ?_⟩
          refine ⟨h10_, ?_⟩
          refine ⟨h11_, ?_⟩
          refine ⟨h12_, ?_⟩
          refine ⟨h13_, ?_⟩
          refine ⟨h14_, ?_⟩
          refine ⟨h15_, ?_⟩
          refine ⟨h107_, ?_⟩
          refine ⟨h108_, ?_⟩
          refine ⟨h109_, ?_⟩
          refine ⟨h110_, ?_⟩
          refine ⟨h111_, ?_⟩
          refine ⟨h112_, ?_⟩
          refine ⟨h28_, ?_⟩
          refine ⟨h29_, ?_⟩
          refine ⟨h30_, ?_⟩
          refine ⟨(sm_LF_w h32_ (sm_F1_le h131_ (la_give_75 h130_)) (Int.le_refl _) (la_give_75 h130_) h112_ (Int.le_refl _)), ?_⟩
          intro h370_
          obtain ⟨h371_, ⟨h372_, ⟨h373_, ⟨h374_, ⟨h375_, ⟨h376_, ⟨h377_, ⟨h378_, ⟨h379_, ⟨h380_, ⟨h381_, ⟨h382_, ⟨h383_, ⟨h384_, ⟨h385_, ⟨h386_, -⟩⟩⟩⟩⟩⟩⟩⟩⟩⟩⟩⟩⟩⟩⟩⟩ := (h134_ h370_)
          refine ⟨h372_, ?_⟩
          refine ⟨h373_, ?_⟩
          refine ⟨h374_, ?_⟩
          refine ⟨h375_, ?_⟩
          refine ⟨(la_give_76 h38_ h136_ h378_ h379_ h382_), ?_⟩
          refine ⟨(la_give_76 h39_ h136_ h378_ h381_ h383_), ?_⟩
          refine ⟨(la_give_77 h40_ h376_ h378_), ?_⟩
          exact (la_give_78 h41_ h66_ h386_)
        refine ⟨?_, ?_⟩
        · skip
          refine ⟨?_, ?_⟩
          · skip
            by_cases c387_ : g12 1047 0 = 0
            · skip
              have e388_ : (if g12 1047 0 = 0 then S 1100002 p3 + (600 - g12 1046 0) + 8 else 4 : Int) = S 1100002 p3 + (600 - g12 1046 0) + 8 := if_pos c387_
              obtain ⟨h389_, ⟨h390_, ⟨h391_, ⟨h392_, ⟨h393_, ⟨h394_, ⟨h395_, ⟨h396_, ⟨h397_, ⟨h398_, ⟨h399_, ⟨h400_, ⟨h401_, ⟨h402_, ⟨h403_, ⟨h404_, -⟩⟩⟩⟩⟩⟩⟩⟩⟩⟩⟩⟩⟩⟩⟩⟩ := (h134_ c387_)
              exact (la_give_79 h61_ h108_ e388_)
            · skip
              have e405_ : (if g12 1047 0 = 0 then S 1100002 p3 + (600 - g12 1046 0) + 8 else 4 : Int) = 4 := if_neg c387_
              exact (la_give_81 e405_)
          by_cases c406_ : g12 1047 0 = 0
          · skip
            have e407_ : (if g12 1047 0 = 0 then S 1100002 p3 + (600 - g12 1046 0) + 8 else 4 : Int) = S 1100002 p3 + (600 - g12 1046 0) + 8 := if_pos c406_
            obtain ⟨h408_, ⟨h409_, ⟨h410_, ⟨h411_, ⟨h412_, ⟨h413_, ⟨h414_, ⟨h415_, ⟨h416_, ⟨h417_, ⟨h418_, ⟨h419_, ⟨h420_, ⟨h421_, ⟨h422_, ⟨h423_, -⟩⟩⟩⟩⟩⟩⟩⟩⟩⟩⟩⟩⟩⟩⟩⟩ := (h134_ c406_)
            exact (la_give_82 h42_ h66_ h113_ e407_)
          · skip
            have e424_ : (if g12 1047 0 = 0 then S 1100002 p3 + (600 - g12 1046 0) + 8 else 4 : Int) = 4 := if_neg c406_
            exact (la_give_83 h42_ h50_ h65_ h97_ h106_ e424_)
        refine ⟨?_, ?_⟩
        · skip
          refine ⟨?_, ?_⟩
          · skip
            by_cases c425_ : g12 1047 0 = 0
            · skip
              have e426_ : (if g12 1047 0 = 0 then S 1100002 p3 + (600 - g12 1046 0) + 8 else 4 : Int) = S 1100002 p3 + (600 - g12 1046 0) + 8 := if_pos c425_
              obtain ⟨h427_, ⟨h428_, ⟨h429_, ⟨h430_, ⟨h431_, ⟨h432_, ⟨h433_, ⟨h434_, ⟨h435_, ⟨h436_, ⟨h437_, ⟨h438_, ⟨h439_, ⟨h440_, ⟨h441_, ⟨h442_, -⟩⟩⟩⟩⟩⟩⟩⟩⟩⟩⟩⟩⟩⟩⟩⟩ := (h134_ c425_)
              exact (la_give_79 h61_ h108_ e426_)
            · skip
              have e443_ : (if g12 1047 0 = 0 then S 1100002 p3 + (600 - g12 1046 0) + 8 else 4 : Int) = 4 := if_neg c425_
              exact (la_give_81 e443_)
          by_cases c444_ : 0 ≤ S 1100023 (S 1046 0)
          · skip
            have h445_ := (h38_ c444_)
            by_cases c448_ : g12 1047 0 = 0
            · skip
              have e449_ : (if g12 1047 0 = 0 then S 1100002 p3 + (600 - g12 1046 0) + 8 else 4 : Int) = S 1100002 p3 + (600 - g12 1046 0) + 8 := if_pos c448_
              obtain ⟨h450_, ⟨h451_, ⟨h452_, ⟨h453_, ⟨h454_, ⟨h455_, ⟨h456_, ⟨h457_, ⟨h458_, ⟨h459_, ⟨h460_, ⟨h461_, ⟨h462_, ⟨h463_, ⟨h464_, ⟨h465_, -⟩⟩⟩⟩⟩⟩⟩⟩⟩⟩⟩⟩⟩⟩⟩⟩ := (h134_ c448_)
              exact (la_give_84 h66_ h113_ e449_)
            · skip
              have e466_ : (if g12 1047 0 = 0 then S 1100002 p3 + (600 - g12 1046 0) + 8 else 4 : Int) = 4 := if_neg c448_
              exact (la_give_85 h50_ h65_ h97_ h106_ e466_)
          · skip
            by_cases c469_ : g12 1047 0 = 0
            · skip
              have e470_ : (if g12 1047 0 = 0 then S 1100002 p3 + (600 - g12 1046 0) + 8 else 4 : Int) = S 1100002 p3 + (600 - g12 1046 0) + 8 := if_pos c469_
              obtain ⟨h471_, ⟨h472_, ⟨h473_, ⟨h474_, ⟨h475_, ⟨h476_, ⟨h477_, ⟨h478_, ⟨h479_, ⟨h480_, ⟨h481_, ⟨h482_, ⟨h483_, ⟨h484_, ⟨h485_, ⟨h486_, -⟩⟩⟩⟩⟩⟩⟩⟩⟩⟩⟩⟩⟩⟩⟩⟩ := (h134_ c469_)
              exact (la_give_84 h66_ h113_ e470_)
            · skip
              have e487_ : (if g12 1047 0 = 0 then S 1100002 p3 + (600 - g12 1046 0) + 8 else 4 : Int) = 4 := if_neg c469_
              exact (la_give_85 h50_ h65_ h129_ h135_ e487_)
        intro g46
        rintro ⟨h488_, ⟨h489_, ⟨h490_, ⟨h491_, ⟨h492_, ⟨h493_, ⟨h494_, ⟨h495_, ⟨h496_, ⟨h497_, ⟨h498_, ⟨h499_, ⟨h500_, ⟨h501_, ⟨h502_, ⟨h503_, ⟨h504_, ⟨h505_, ⟨h506_, ⟨h507_, ⟨h508_, ⟨h509_, ⟨h510_, ⟨h511_, ⟨h512_, ⟨h513_, ⟨h514_, h515_⟩⟩⟩⟩⟩⟩⟩⟩⟩⟩⟩⟩⟩⟩⟩⟩⟩⟩⟩⟩⟩⟩⟩⟩⟩⟩⟩
        refine ⟨?_, ?_⟩
        · skip
          intro h516_
          have e517_ : (if p1 = (-1) then 0 else 1 : Int) = 0 := if_pos h516_
          refine ⟨h488_, ?_⟩
          refine ⟨h489_, ?_⟩
          refine ⟨h490_, ?_⟩
          refine ⟨h491_, ?_⟩
          refine ⟨h492_, ?_⟩
          refine ⟨h493_, ?_⟩
          refine ⟨(la_give_25 h113_ h494_), ?_⟩
          refine ⟨(la_give_26 h33_ h491_), ?_⟩
          refine ⟨(sm_F1_tr (sm_F1_le h115_ (Int.le_refl _)) h496_ h113_), ?_⟩
          refine ⟨(sm_F1_tr (sm_F1_le h116_ (Int.le_refl _)) h497_ h113_), ?_⟩
          refine ⟨(sm_F1_tr (sm_F1_le h117_ (Int.le_refl _)) h498_ h113_), ?_⟩
          refine ⟨(sm_F1_tr (sm_F1_le h118_ (Int.le_refl _)) h499_ h113_), ?_⟩
          refine ⟨(sm_F1_tr (sm_F1_le h119_ (Int.le_refl _)) h500_ (la_give_27 h113_)), ?_⟩
          refine ⟨(sm_F1_tr (sm_F1_le h120_ (Int.le_refl _)) h501_ (la_give_27 h113_)), ?_⟩
          refine ⟨(sm_F1_tr (sm_F1_le h121_ (Int.le_refl _)) h502_ (la_give_27 h113_)), ?_⟩
          refine ⟨(sm_F1_tr (sm_F1_le h122_ (Int.le_refl _)) h503_ (la_give_27 h113_)), ?_⟩
          refine ⟨(sm_F1_tr (sm_F1_le h123_ (Int.le_refl _)) h504_ h129_), ?_⟩
          refine ⟨(sm_F1_tr (sm_F1_le h124_ (Int.le_refl _)) h505_ h129_), ?_⟩
          refine ⟨(sm_F1_tr (sm_F1_le h125_ (Int.le_refl _)) h506_ h129_), ?_⟩
          refine ⟨(sm_F1_tr (sm_F1_le h126_ (Int.le_refl _)) h507_ h129_), ?_⟩
          refine ⟨(sm_F1_tr (sm_F1_le h127_ (Int.le_refl _)) h508_ h129_), ?_⟩
          refine ⟨(sm_F1_tr (sm_F1_le h128_ (Int.le_refl _)) h509_ h129_), ?_⟩
          refine ⟨(la_give_25 h129_ h510_), ?_⟩
          refine ⟨(la_give_37 h130_ h511_), ?_⟩
          refine ⟨(sm_F1_tr (sm_F1_le h131_ (Int.le_refl _)) h512_ (la_give_86 h130_)), ?_⟩
          refine ⟨(la_give_87 h33_), ?_⟩
          refine ⟨?_, ?_⟩
          · skip
            intro h518_
            by_cases c519_ : g12 1047 0 = 1
            · skip
              have h520_ := (h495_ c519_)
              have h521_ := (h513_ c519_)
              exact (la_give_89 h135_ h521_)
            · skip
              obtain ⟨h522_, ⟨h523_, ⟨h524_, ⟨h525_, ⟨h526_, ⟨h527_, ⟨h528_, ⟨h529_, ⟨h530_, ⟨h531_, ⟨h532_, ⟨h533_, ⟨h534_, ⟨h535_, ⟨h536_, ⟨h537_, -⟩⟩⟩⟩⟩⟩⟩⟩⟩⟩⟩⟩⟩⟩⟩⟩ := (h134_ (la_give_90 h109_ (la_give_28 h110_ c519_)))
              have h538_ := (h514_ (la_give_90 h109_ (la_give_28 h110_ c519_)))
              exact (la_give_91 h66_ h537_ h538_)
          intro h539_
          have h540_ : ¬ (g12 1047 0 = 1) := fun q_ => (la_give_9 h539_) (h495_ q_)
          obtain ⟨h541_, ⟨h542_, ⟨h543_, ⟨h544_, ⟨h545_, ⟨h546_, ⟨h547_, ⟨h548_, ⟨h549_, ⟨h550_, ⟨h551_, ⟨h552_, ⟨h553_, ⟨h554_, ⟨h555_, ⟨h556_, -⟩⟩⟩⟩⟩⟩⟩⟩⟩⟩⟩⟩⟩⟩⟩⟩ := (h515_ h539_)
          have h557_ := (h514_ h541_)
          obtain ⟨h558_, ⟨h559_, ⟨h560_, ⟨h561_, ⟨h562_, ⟨h563_, ⟨h564_, ⟨h565_, ⟨h566_, ⟨h567_, ⟨h568_, ⟨h569_, ⟨h570_, ⟨h571_, ⟨h572_, ⟨h573_, -⟩⟩⟩⟩⟩⟩⟩⟩⟩⟩⟩⟩⟩⟩⟩⟩ := (h134_ h541_)
          refine ⟨h33_, ?_⟩
          refine ⟨h542_, ?_⟩
          refine ⟨h543_, ?_⟩
          refine ⟨h544_, ?_⟩
          refine ⟨h545_, ?_⟩
          refine ⟨(la_give_92 e517_ h546_ h563_), ?_⟩
          refine ⟨(sm_FC_s (sm_FC_F h564_ (sm_F1_le h499_ (Int.le_refl _)) (Int.le_refl _) (Int.le_refl _) (Int.le_refl _) rfl) (sm_FC_F h547_ sm_F1_rf (Int.le_refl _) (Int.le_refl _) (Int.le_refl _) rfl)), ?_⟩
          refine ⟨(la_give_94 e517_ h548_ h565_), ?_⟩
          refine ⟨(la_give_95 h549_ h566_), ?_⟩
          refine ⟨(la_give_95 h550_ h567_), ?_⟩
          refine ⟨(la_give_95 h551_ h568_), ?_⟩
          refine ⟨(la_give_95 h552_ h569_), ?_⟩
          refine ⟨(la_give_95 h553_ h570_), ?_⟩
          refine ⟨(sm_AP_s (sm_AP_F h571_ (sm_F1_le h508_ (Int.le_refl _)) (Int.le_refl _) (Int.le_refl _) (Int.le_refl _)) (sm_AP_F h554_ sm_F1_rf (Int.le_refl _) (Int.le_refl _) (Int.le_refl _))), ?_⟩
          refine ⟨(sm_HB_1 (by rw [((sm_F1_at h500_ (S 1046 0) (la_give_96 e103_ e517_ h563_)).trans ((sm_F1_at h119_ (S 1046 0) la_give_39).trans rfl))]; exact (la_give_97 h64_ h68_ e103_ e517_ h546_ h563_)) (sm_HB_s (sm_HB_F h572_ (sm_F1_le h500_ la_give_42) (Int.le_refl _) la_give_42 (Int.le_refl _) (la_give_100 h546_)) (sm_HB_1 (by rw [((sm_F1_at h500_ (g12 1046 0) la_give_39).trans rfl)]; exact (la_give_101 h64_ h68_ e103_ e517_ h546_ h563_ h565_)) (sm_HB_F h555_ sm_F1_rf (Int.le_refl _) la_give_42 (Int.le_refl _) (la_give_102 h68_ e103_ e517_ h563_ h565_))))), ?_⟩
          refine ⟨(la_give_103 h556_ h573_), ?_⟩
          exact trivial
        intro h574_
        have e575_ : (if p1 = (-1) then 0 else 1 : Int) = 1 := if_neg h574_
        refine ⟨?_, ?_⟩
        · skip
          refine ⟨h488_, ?_⟩
          refine ⟨h489_, ?_⟩
          refine ⟨h490_, ?_⟩
          refine ⟨h491_, ?_⟩
          intro h576_
          have h577_ : ¬ (g12 1047 0 = 1) := fun q_ => (la_give_9 h576_) (h495_ q_)
          obtain ⟨h578_, ⟨h579_, ⟨h580_, ⟨h581_, ⟨h582_, ⟨h583_, ⟨h584_, ⟨h585_, ⟨h586_, ⟨h587_, ⟨h588_, ⟨h589_, ⟨h590_, ⟨h591_, ⟨h592_, ⟨h593_, -⟩⟩⟩⟩⟩⟩⟩⟩⟩⟩⟩⟩⟩⟩⟩⟩ := (h515_ h576_)
          have h594_ := (h514_ h578_)
          obtain ⟨h595_, ⟨h596_, ⟨h597_, ⟨h598_, ⟨h599_, ⟨h600_, ⟨h601_, ⟨h602_, ⟨h603_, ⟨h604_, ⟨h605_, ⟨h606_, ⟨h607_, ⟨h608_, ⟨h609_, ⟨h610_, -⟩⟩⟩⟩⟩⟩⟩⟩⟩⟩⟩⟩⟩⟩⟩⟩ := (h134_ h578_)
          refine ⟨h579_, ?_⟩
          refine ⟨la_give_105, ?_⟩
          refine ⟨la_give_106, ?_⟩
          refine ⟨(sm_ci_14 (la_give_107 h23_ (sm_KC_n h34_).2.1.1 h38_ h39_ e103_ e575_ (la_give_104 h22_ h574_) h585_ h586_ h588_ h589_ h590_ h602_ h603_ h605_ h606_ h607_ (sm_dl_14 : sm_dl 14 p1 = (-1)) (sm_nt_14 : sm_nt 14 (g46 1046 0) (g46 1100023 (g46 1046 0)) (g46 1100023 (g46 1100023 (g46 1046 0))) = g46 1100023 (g46 1046 0)) (sm_nl_14 : sm_nl 14 (g46 1046 0) (g46 1100007 (g46 1046 0)) (g46 1100025 (g46 1046 0)) (g46 1100007 (g46 1100025 (g46 1046 0))) (g46 1100025 (g46 1100025 (g46 1046 0))) = g46 1100025 (g46 1046 0)))), ?_⟩
          refine ⟨la_give_108, ?_⟩
          intro h611_
          have h612_ := (h611_.resolve_left la_give_109)
          have e613_ : (if S 1100002 p2 ≤ S 1100002 p3 then S 1100002 p3 else S 1100002 p2 : Int) = S 1100002 p3 := if_pos (la_give_111 h612_)
          have e614_ : (if S 1100005 p2 ≤ S 1100005 p3 + 1 then S 1100005 p3 + 1 else S 1100005 p2 : Int) = S 1100005 p3 + 1 := if_pos (la_give_112 h612_)
          have h615_ := (h38_ (la_give_113 h612_))
          have h616_ := (h39_ (la_give_113 h612_))
          have h617_ := (h62_ (la_give_114 h612_))
          have h618_ := (h63_ (la_give_115 h612_))
          have e619_ : S 1100001 p3 = S 1100001 p2 := congrArg ((S 1100001)) (la_give_116 h612_)
          have e620_ : S 1100002 p3 = S 1100002 p2 := congrArg ((S 1100002)) (la_give_116 h612_)
          have e621_ : S 1100005 p3 = S 1100005 p2 := congrArg ((S 1100005)) (la_give_116 h612_)
          have e622_ : S 1100007 (S 1100023 (S 1046 0)) = S 1100007 (S 1046 0) := congrArg ((S 1100007)) (la_give_116 h612_)
          have e623_ : S 1100007 (S 1100025 (S 1046 0)) = S 1100007 (S 1046 0) := congrArg ((S 1100007)) (la_give_116 h612_)
          have e624_ : S 1100007 (S 1100025 (S 1046 0)) = S 1100007 (S 1100023 (S 1046 0)) := congrArg ((S 1100007)) (la_give_116 h612_)
          have e625_ : S 1100007 (g12 1046 0) = S 1100007 (S 1046 0) := congrArg ((S 1100007)) (la_give_116 h612_)
          have e626_ : S 1100007 (g12 1046 0) = S 1100007 (S 1100023 (S 1046 0)) := congrArg ((S 1100007)) (la_give_116 h612_)
          have e627_ : S 1100007 (g12 1046 0) = S 1100007 (S 1100025 (S 1046 0)) := congrArg ((S 1100007)) (la_give_116 h612_)
          have e628_ : S 1100007 (g12 1100023 (g12 1046 0)) = S 1100007 (S 1046 0) := congrArg ((S 1100007)) (la_give_116 h612_)
          have e629_ : S 1100007 (g12 1100023 (g12 1046 0)) = S 1100007 (S 1100023 (S 1046 0)) := congrArg ((S 1100007)) h603_
          have e630_ : S 1100007 (g12 1100023 (g12 1046 0)) = S 1100007 (S 1100025 (S 1046 0)) := congrArg ((S 1100007)) (la_give_116 h612_)
          have e631_ : S 1100007 (g12 1100023 (g12 1046 0)) = S 1100007 (g12 1046 0) := congrArg ((S 1100007)) (la_give_116 h612_)
          have e632_ : S 1100007 (g12 1100025 (g12 1046 0)) = S 1100007 (S 1046 0) := congrArg ((S 1100007)) (la_give_116 h612_)
          have e633_ : S 1100007 (g12 1100025 (g12 1046 0)) = S 1100007 (S 1100023 (S 1046 0)) := congrArg ((S 1100007)) (la_give_116 h612_)
          have e634_ : S 1100007 (g12 1100025 (g12 1046 0)) = S 1100007 (S 1100025 (S 1046 0)) := congrArg ((S 1100007)) h605_
          have e635_ : S 1100007 (g12 1100025 (g12 1046 0)) = S 1100007 (g12 1046 0) := congrArg ((S 1100007)) (la_give_116 h612_)
          have e636_ : S 1100007 (g12 1100025 (g12 1046 0)) = S 1100007 (g12 1100023 (g12 1046 0)) := congrArg ((S 1100007)) (la_give_116 h612_)
          have e637_ : S 1100007 (g46 1046 0) = S 1100007 (S 1046 0) := congrArg ((S 1100007)) (la_give_116 h612_)
          have e638_ : S 1100007 (g46 1046 0) = S 1100007 (S 1100023 (S 1046 0)) := congrArg ((S 1100007)) (la_give_116 h612_)
          have e639_ : S 1100007 (g46 1046 0) = S 1100007 (S 1100025 (S 1046 0)) := congrArg ((S 1100007)) (la_give_116 h612_)
          have e640_ : S 1100007 (g46 1046 0) = S 1100007 (g12 1046 0) := congrArg ((S 1100007)) (la_give_116 h612_)
          have e641_ : S 1100007 (g46 1046 0) = S 1100007 (g12 1100023 (g12 1046 0)) := congrArg ((S 1100007)) (la_give_116 h612_)
          have e642_ : S 1100007 (g46 1046 0) = S 1100007 (g12 1100025 (g12 1046 0)) := congrArg ((S 1100007)) (la_give_116 h612_)
          have e643_ : S 1100007 (g46 1100023 (g46 1046 0)) = S 1100007 (S 1046 0) := congrArg ((S 1100007)) (la_give_116 h612_)
          have e644_ : S 1100007 (g46 1100023 (g46 1046 0)) = S 1100007 (S 1100023 (S 1046 0)) := congrArg ((S 1100007)) (la_give_116 h612_)
          have e645_ : S 1100007 (g46 1100023 (g46 1046 0)) = S 1100007 (S 1100025 (S 1046 0)) := congrArg ((S 1100007)) (la_give_116 h612_)
          have e646_ : S 1100007 (g46 1100023 (g46 1046 0)) = S 1100007 (g12 1046 0) := congrArg ((S 1100007)) (la_give_116 h612_)
          have e647_ : S 1100007 (g46 1100023 (g46 1046 0)) = S 1100007 (g12 1100023 (g12 1046 0)) := congrArg ((S 1100007)) h586_
          have e648_ : S 1100007 (g46 1100023 (g46 1046 0)) = S 1100007 (g12 1100025 (g12 1046 0)) := congrArg ((S 1100007)) (la_give_116 h612_)
          have e649_ : S 1100007 (g46 1100023 (g46 1046 0)) = S 1100007 (g46 1046 0) := congrArg ((S 1100007)) (la_give_116 h612_)
          have e650_ : S 1100007 (g46 1100025 (g46 1046 0)) = S 1100007 (S 1046 0) := congrArg ((S 1100007)) (la_give_116 h612_)
          have e651_ : S 1100007 (g46 1100025 (g46 1046 0)) = S 1100007 (S 1100023 (S 1046 0)) := congrArg ((S 1100007)) (la_give_116 h612_)
          have e652_ : S 1100007 (g46 1100025 (g46 1046 0)) = S 1100007 (S 1100025 (S 1046 0)) := congrArg ((S 1100007)) (la_give_116 h612_)
          have e653_ : S 1100007 (g46 1100025 (g46 1046 0)) = S 1100007 (g12 1046 0) := congrArg ((S 1100007)) (la_give_116 h612_)
          have e654_ : S 1100007 (g46 1100025 (g46 1046 0)) = S 1100007 (g12 1100023 (g12 1046 0)) := congrArg ((S 1100007)) (la_give_116 h612_)
          have e655_ : S 1100007 (g46 1100025 (g46 1046 0)) = S 1100007 (g12 1100025 (g12 1046 0)) := congrArg ((S 1100007)) h588_
          have e656_ : S 1100007 (g46 1100025 (g46 1046 0)) = S 1100007 (g46 1046 0) := congrArg ((S 1100007)) (la_give_116 h612_)
          have e657_ : S 1100007 (g46 1100025 (g46 1046 0)) = S 1100007 (g46 1100023 (g46 1046 0)) := congrArg ((S 1100007)) (la_give_116 h612_)
          have e658_ : S 1100023 (g12 1046 0) = S 1100023 (S 1046 0) := congrArg ((S 1100023)) (la_give_116 h612_)
          have e659_ : S 1100023 (g46 1046 0) = S 1100023 (S 1046 0) := congrArg ((S 1100023)) (la_give_116 h612_)
          have e660_ : S 1100023 (g46 1046 0) = S 1100023 (g12 1046 0) := congrArg ((S 1100023)) (la_give_116 h612_)
          have e661_ : S 1100024 (g12 1046 0) = S 1100024 (S 1046 0) := congrArg ((S 1100024)) (la_give_116 h612_)
          have e662_ : S 1100024 (g46 1046 0) = S 1100024 (S 1046 0) := congrArg ((S 1100024)) (la_give_116 h612_)
          have e663_ : S 1100024 (g46 1046 0) = S 1100024 (g12 1046 0) := congrArg ((S 1100024)) (la_give_116 h612_)
          have e664_ : S 1100025 (g12 1046 0) = S 1100025 (S 1046 0) := congrArg ((S 1100025)) (la_give_116 h612_)
          have e665_ : S 1100025 (g46 1046 0) = S 1100025 (S 1046 0) := congrArg ((S 1100025)) (la_give_116 h612_)
          have e666_ : S 1100025 (g46 1046 0) = S 1100025 (g12 1046 0) := congrArg ((S 1100025)) (la_give_116 h612_)
          have e667_ : g12 1100007 (g12 1100023 (g12 1046 0)) = g12 1100007 (g12 1046 0) := congrArg ((g12 1100007)) (la_give_116 h612_)
          have e668_ : g12 1100007 (g12 1100025 (g12 1046 0)) = g12 1100007 (g12 1046 0) := congrArg ((g12 1100007)) (la_give_116 h612_)
          have e669_ : g12 1100007 (g12 1100025 (g12 1046 0)) = g12 1100007 (g12 1100023 (g12 1046 0)) := congrArg ((g12 1100007)) (la_give_116 h612_)
          have e670_ : g12 1100007 (g46 1046 0) = g12 1100007 (g12 1046 0) := congrArg ((g12 1100007)) (la_give_116 h612_)
          have e671_ : g12 1100007 (g46 1046 0) = g12 1100007 (g12 1100023 (g12 1046 0)) := congrArg ((g12 1100007)) (la_give_116 h612_)
          have e672_ : g12 1100007 (g46 1046 0) = g12 1100007 (g12 1100025 (g12 1046 0)) := congrArg ((g12 1100007)) (la_give_116 h612_)
          have e673_ : g12 1100007 (g46 1100023 (g46 1046 0)) = g12 1100007 (g12 1046 0) := congrArg ((g12 1100007)) (la_give_116 h612_)
          have e674_ : g12 1100007 (g46 1100023 (g46 1046 0)) = g12 1100007 (g12 1100023 (g12 1046 0)) := congrArg ((g12 1100007)) h586_
          have e675_ : g12 1100007 (g46 1100023 (g46 1046 0)) = g12 1100007 (g12 1100025 (g12 1046 0)) := congrArg ((g12 1100007)) (la_give_116 h612_)
          have e676_ : g12 1100007 (g46 1100023 (g46 1046 0)) = g12 1100007 (g46 1046 0) := congrArg ((g12 1100007)) (la_give_116 h612_)
          have e677_ : g12 1100007 (g46 1100025 (g46 1046 0)) = g12 1100007 (g12 1046 0) := congrArg ((g12 1100007)) (la_give_116 h612_)
          have e678_ : g12 1100007 (g46 1100025 (g46 1046 0)) = g12 1100007 (g12 1100023 (g12 1046 0)) := congrArg ((g12 1100007)) (la_give_116 h612_)
          have e679_ : g12 1100007 (g46 1100025 (g46 1046 0)) = g12 1100007 (g12 1100025 (g12 1046 0)) := congrArg ((g12 1100007)) h588_
          have e680_ : g12 1100007 (g46 1100025 (g46 1046 0)) = g12 1100007 (g46 1046 0) := congrArg ((g12 1100007)) (la_give_116 h612_)
          have e681_ : g12 1100007 (g46 1100025 (g46 1046 0)) = g12 1100007 (g46 1100023 (g46 1046 0)) := congrArg ((g12 1100007)) (la_give_116 h612_)
          have e682_ : g12 1100023 (g46 1046 0) = g12 1100023 (g12 1046 0) := congrArg ((g12 1100023)) (la_give_116 h612_)
          have e683_ : g12 1100024 (g46 1046 0) = g12 1100024 (g12 1046 0) := congrArg ((g12 1100024)) (la_give_116 h612_)
          have e684_ : g12 1100025 (g46 1046 0) = g12 1100025 (g12 1046 0) := congrArg ((g12 1100025)) (la_give_116 h612_)
          have e685_ : g46 1100007 (g46 1100023 (g46 1046 0)) = g46 1100007 (g46 1046 0) := congrArg ((g46 1100007)) (la_give_116 h612_)
          have e686_ : g46 1100007 (g46 1100025 (g46 1046 0)) = g46 1100007 (g46 1046 0) := congrArg ((g46 1100007)) (la_give_116 h612_)
          have e687_ : g46 1100007 (g46 1100025 (g46 1046 0)) = g46 1100007 (g46 1100023 (g46 1046 0)) := congrArg ((g46 1100007)) (la_give_116 h612_)
          have e688_ : g46 1100023 (g46 1100023 (g46 1046 0)) = g46 1100023 (g46 1046 0) := congrArg ((g46 1100023)) (la_give_116 h612_)
          have e689_ : g46 1100025 (g46 1100025 (g46 1046 0)) = g46 1100025 (g46 1046 0) := congrArg ((g46 1100025)) (la_give_116 h612_)
          have e690_ : S 1100023 (g46 1100023 (g46 1046 0)) = S 1100023 (S 1046 0) := congrArg ((S 1100023)) (la_give_116 h612_)
          have e691_ : S 1100023 (g46 1100023 (g46 1046 0)) = S 1100023 (g12 1046 0) := congrArg ((S 1100023)) (la_give_116 h612_)
          have e692_ : S 1100023 (g46 1100023 (g46 1046 0)) = S 1100023 (g46 1046 0) := congrArg ((S 1100023)) (la_give_116 h612_)
          have e693_ : S 1100025 (g46 1100025 (g46 1046 0)) = S 1100025 (S 1046 0) := congrArg ((S 1100025)) (la_give_116 h612_)
          have e694_ : S 1100025 (g46 1100025 (g46 1046 0)) = S 1100025 (g12 1046 0) := congrArg ((S 1100025)) (la_give_116 h612_)
          have e695_ : S 1100025 (g46 1100025 (g46 1046 0)) = S 1100025 (g46 1046 0) := congrArg ((S 1100025)) (la_give_116 h612_)
          have e696_ : g12 1100023 (g46 1100023 (g46 1046 0)) = g12 1100023 (g12 1046 0) := congrArg ((g12 1100023)) (la_give_116 h612_)
          have e697_ : g12 1100023 (g46 1100023 (g46 1046 0)) = g12 1100023 (g46 1046 0) := congrArg ((g12 1100023)) (la_give_116 h612_)
          have e698_ : g12 1100025 (g46 1100025 (g46 1046 0)) = g12 1100025 (g12 1046 0) := congrArg ((g12 1100025)) (la_give_116 h612_)
          have e699_ : g12 1100025 (g46 1100025 (g46 1046 0)) = g12 1100025 (g46 1046 0) := congrArg ((g12 1100025)) (la_give_116 h612_)
          exact ((la_give_117 h612_)).elim
        refine ⟨(la_give_118 h50_ h65_ h129_ h135_), ?_⟩
        intro g54
        rintro ⟨h700_, ⟨h701_, ⟨h702_, ⟨h703_, ⟨h704_, ⟨h705_, ⟨h706_, ⟨h707_, ⟨h708_, ⟨h709_, ⟨h710_, ⟨h711_, ⟨h712_, ⟨h713_, ⟨h714_, ⟨h715_, h716_⟩⟩⟩⟩⟩⟩⟩⟩⟩⟩⟩⟩⟩⟩⟩⟩
        refine ⟨(la_give_24 h702_), ?_⟩
        refine ⟨h705_, ?_⟩
        refine ⟨h700_, ?_⟩
        refine ⟨h701_, ?_⟩
        refine ⟨h492_, ?_⟩
        refine ⟨h493_, ?_⟩
        refine ⟨(la_give_119 h113_ h494_ h703_), ?_⟩
        refine ⟨(la_give_26 h33_ h701_), ?_⟩
        refine ⟨(sm_F1_tr (sm_F1_tr (sm_F1_le h115_ (Int.le_refl _)) h496_ h113_) h708_ (la_give_25 h113_ h494_)), ?_⟩
        refine ⟨(sm_F1_tr (sm_F1_tr (sm_F1_le h116_ (Int.le_refl _)) h497_ h113_) h709_ (la_give_25 h113_ h494_)), ?_⟩
        refine ⟨(sm_F1_tr (sm_F1_tr (sm_F1_le h117_ (Int.le_refl _)) h498_ h113_) h710_ (la_give_25 h113_ h494_)), ?_⟩
        refine ⟨(sm_F1_tr (sm_F1_tr (sm_F1_le h118_ (Int.le_refl _)) h499_ h113_) h711_ (la_give_25 h113_ h494_)), ?_⟩
        refine ⟨(sm_F1_tr (sm_F1_tr (sm_F1_le h119_ (Int.le_refl _)) h500_ (la_give_27 h113_)) h712_ (la_give_120 h113_ h494_)), ?_⟩
        refine ⟨(sm_F1_tr (sm_F1_tr (sm_F1_le h120_ (Int.le_refl _)) h501_ (la_give_27 h113_)) h713_ (la_give_120 h113_ h494_)), ?_⟩
        refine ⟨(sm_F1_tr (sm_F1_tr (sm_F1_le h121_ (Int.le_refl _)) h502_ (la_give_27 h113_)) h714_ (la_give_120 h113_ h494_)), ?_⟩
        refine ⟨(sm_F1_tr (sm_F1_tr (sm_F1_le h122_ (Int.le_refl _)) h503_ (la_give_27 h113_)) h715_ (la_give_120 h113_ h494_)), ?_⟩
        refine ⟨(sm_F1_tr (sm_F1_le h123_ (Int.le_refl _)) h504_ h129_), ?_⟩
        refine ⟨(sm_F1_tr (sm_F1_le h124_ (Int.le_refl _)) h505_ h129_), ?_⟩
        refine ⟨(sm_F1_tr (sm_F1_le h125_ (Int.le_refl _)) h506_ h129_), ?_⟩
        refine ⟨(sm_F1_tr (sm_F1_le h126_ (Int.le_refl _)) h507_ h129_), ?_⟩
        refine ⟨(sm_F1_tr (sm_F1_le h127_ (Int.le_refl _)) h508_ h129_), ?_⟩
        refine ⟨(sm_F1_tr (sm_F1_le h128_ (Int.le_refl _)) h509_ h129_), ?_⟩
        refine ⟨(la_give_25 h129_ h510_), ?_⟩
        refine ⟨(la_give_37 h130_ h511_), ?_⟩
        refine ⟨(sm_F1_tr (sm_F1_le h131_ (Int.le_refl _)) h512_ (la_give_86 h130_)), ?_⟩
        refine ⟨(la_give_87 h33_), ?_⟩
        refine ⟨?_, ?_⟩
        · skip
          intro h717_
          by_cases c718_ : g12 1047 0 = 1
          · skip
            have h719_ := (h495_ c718_)
            have h720_ := (h513_ c718_)
            have h721_ := (h706_ h719_)
            have h722_ := (h707_ h721_)
            exact (la_give_89 h135_ h720_)
          · skip
            obtain ⟨h723_, ⟨h724_, ⟨h725_, ⟨h726_, ⟨h727_, ⟨h728_, ⟨h729_, ⟨h730_, ⟨h731_, ⟨h732_, ⟨h733_, ⟨h734_, ⟨h735_, ⟨h736_, ⟨h737_, ⟨h738_, -⟩⟩⟩⟩⟩⟩⟩⟩⟩⟩⟩⟩⟩⟩⟩⟩ := (h134_ (la_give_90 h109_ (la_give_28 h110_ c718_)))
            have h739_ := (h514_ (la_give_90 h109_ (la_give_28 h110_ c718_)))
            exact (la_give_91 h66_ h738_ h739_)
        intro h740_
        have h741_ : ¬ (g46 1047 0 = 1) := fun q_ => (la_give_9 h740_) (h706_ q_)
        obtain ⟨h742_, ⟨h743_, ⟨h744_, ⟨h745_, ⟨h746_, ⟨h747_, ⟨h748_, ⟨h749_, ⟨h750_, ⟨h751_, ⟨h752_, ⟨h753_, ⟨h754_, h755_⟩⟩⟩⟩⟩⟩⟩⟩⟩⟩⟩⟩⟩ := (h716_ h740_)
        have h756_ : ¬ (g12 1047 0 = 1) := fun q_ => h741_ (h495_ q_)
        have h757_ := (h755_ la_give_121)
        obtain ⟨h758_, ⟨h759_, ⟨h760_, ⟨h761_, ⟨h762_, ⟨h763_, ⟨h764_, ⟨h765_, ⟨h766_, ⟨h767_, ⟨h768_, ⟨h769_, ⟨h770_, ⟨h771_, ⟨h772_, ⟨h773_, -⟩⟩⟩⟩⟩⟩⟩⟩⟩⟩⟩⟩⟩⟩⟩⟩ := (h515_ h742_)
        have h774_ := (h514_ h758_)
        have h775_ := (h757_ la_give_123)
        obtain ⟨h776_, ⟨h777_, ⟨h778_, ⟨h779_, ⟨h780_, ⟨h781_, ⟨h782_, ⟨h783_, ⟨h784_, ⟨h785_, ⟨h786_, ⟨h787_, ⟨h788_, ⟨h789_, ⟨h790_, ⟨h791_, -⟩⟩⟩⟩⟩⟩⟩⟩⟩⟩⟩⟩⟩⟩⟩⟩ := (h134_ h758_)
        refine ⟨h33_, ?_⟩
        refine ⟨h744_, ?_⟩
        refine ⟨h760_, ?_⟩
        refine ⟨h761_, ?_⟩
        refine ⟨(la_give_32 h743_ h762_), ?_⟩
        refine ⟨(la_give_124 e575_ h743_ h763_ h781_), ?_⟩
        refine ⟨(sm_FC_s (sm_FC_F h782_ (sm_F1_tr (sm_F1_le h499_ (Int.le_refl _)) h711_ h494_) (Int.le_refl _) (Int.le_refl _) (Int.le_refl _) rfl) (sm_FC_s (sm_FC_F h764_ (sm_F1_le h711_ (Int.le_refl _)) (Int.le_refl _) (Int.le_refl _) (Int.le_refl _) rfl) (sm_FC_1 h747_ (sm_FC_0 h704_)))), ?_⟩
        refine ⟨(la_give_128 e575_ h748_ (sm_dl_14 : sm_dl 14 p1 = (-1)) h765_ h783_), ?_⟩
        refine ⟨(la_give_129 h749_ (sm_nt_14 : sm_nt 14 (g46 1046 0) (g46 1100023 (g46 1046 0)) (g46 1100023 (g46 1100023 (g46 1046 0))) = g46 1100023 (g46 1046 0)) h766_ h784_), ?_⟩
        refine ⟨(la_give_129 h750_ (sm_nd_14 : sm_nd 14 (g46 1100024 (g46 1046 0)) = g46 1100024 (g46 1046 0)) h767_ h785_), ?_⟩
        refine ⟨(la_give_129 h751_ (sm_nl_14 : sm_nl 14 (g46 1046 0) (g46 1100007 (g46 1046 0)) (g46 1100025 (g46 1046 0)) (g46 1100007 (g46 1100025 (g46 1046 0))) (g46 1100025 (g46 1100025 (g46 1046 0))) = g46 1100025 (g46 1046 0)) h768_ h786_), ?_⟩
        refine ⟨(la_give_129 h752_ (sm_nt_14 : sm_nt 14 (g46 1100007 (g46 1046 0)) (g46 1100007 (g46 1100023 (g46 1046 0))) (g46 1100007 (g46 1100023 (g46 1100023 (g46 1046 0)))) = g46 1100007 (g46 1100023 (g46 1046 0))) h769_ h787_), ?_⟩
        refine ⟨(la_give_130 h770_ h775_ h788_), ?_⟩
        refine ⟨(sm_AP_s (sm_AP_F h789_ (sm_F1_le h508_ (Int.le_refl _)) (Int.le_refl _) (Int.le_refl _) (Int.le_refl _)) (sm_AP_F h771_ sm_F1_rf (Int.le_refl _) (Int.le_refl _) (Int.le_refl _))), ?_⟩
        refine ⟨(sm_HB_1 (by rw [((sm_F1_at h712_ (S 1046 0) (la_give_131 e103_ e575_ h763_ h781_)).trans ((sm_F1_at h500_ (S 1046 0) (la_give_132 e103_ e575_ h781_)).trans ((sm_F1_at h119_ (S 1046 0) la_give_39).trans rfl)))]; exact (la_give_133 h64_ h68_ e103_ e575_ h743_ h763_ h781_)) (sm_HB_s (sm_HB_F h790_ (sm_F1_tr (sm_F1_le h500_ la_give_42) h712_ (la_give_138 h763_)) (Int.le_refl _) la_give_42 (Int.le_refl _) (la_give_137 h743_ h763_)) (sm_HB_1 (by rw [((sm_F1_at h712_ (g12 1046 0) (la_give_139 h763_)).trans ((sm_F1_at h500_ (g12 1046 0) la_give_39).trans rfl))]; exact (la_give_140 h64_ h68_ h137_ h743_ h763_ h781_ h783_)) (sm_HB_s (sm_HB_F h772_ (sm_F1_le h712_ la_give_42) (Int.le_refl _) la_give_42 (Int.le_refl _) (la_give_142 h68_ h137_ h743_ h781_ h783_)) (sm_HB_1 (by rw [((sm_F1_at h712_ (g46 1046 0) la_give_39).trans rfl)]; exact (la_give_143 h64_ h68_ h137_ h743_ h763_ h765_ h781_ h783_)) (sm_HB_0 h704_)))))), ?_⟩
        refine ⟨(la_give_144 h743_ h773_ h791_), ?_⟩
        exact trivial
      refine ⟨?_, ?_⟩
      · skip
        intro h792_
        refine ⟨h75_, ?_⟩
        refine ⟨h76_, ?_⟩
        refine ⟨h77_, ?_⟩
        refine ⟨h78_, ?_⟩
        refine ⟨h79_, ?_⟩
        refine ⟨h80_, ?_⟩
        refine ⟨h81_, ?_⟩
        refine ⟨h82_, ?_⟩
        refine ⟨h83_, ?_⟩
        refine ⟨h84_, ?_⟩
        refine ⟨h85_, ?_⟩
        refine ⟨h86_, ?_⟩
        refine ⟨h87_, ?_⟩
        refine ⟨h88_, ?_⟩
        refine ⟨h89_, ?_⟩
        refine ⟨h90_, ?_⟩
        refine ⟨h91_, ?_⟩
        refine ⟨h92_, ?_⟩
        refine ⟨h93_, ?_⟩
        refine ⟨h94_, ?_⟩
        refine ⟨h95_, ?_⟩
        refine ⟨h96_, ?_⟩
        refine ⟨h97_, ?_⟩
        refine ⟨h98_, ?_⟩
        refine ⟨h99_, ?_⟩
        refine ⟨h100_, ?_⟩
        refine ⟨h101_, ?_⟩
        intro h793_
        obtain ⟨h794_, ⟨h795_, ⟨h796_, ⟨h797_, ⟨h798_, ⟨h799_, ⟨h800_, ⟨h801_, ⟨h802_, ⟨h803_, ⟨h804_, ⟨h805_, ⟨h806_, ⟨h807_, ⟨h808_, ⟨h809_, -⟩⟩⟩⟩⟩⟩⟩⟩⟩⟩⟩⟩⟩⟩⟩⟩ := (h102_ h793_)
        refine ⟨h33_, ?_⟩
        refine ⟨h795_, ?_⟩
        refine ⟨h796_, ?_⟩
        refine ⟨h797_, ?_⟩
        refine ⟨h798_, ?_⟩
        refine ⟨?_, ?_⟩
        · skip
          have e810_ : (if p1 = (-1) then 0 else 1 : Int) = 0 := if_pos h792_
          have e811_ : S 1100007 (g7 1100023 (g7 1046 0)) = S 1100007 (S 1100023 (S 1046 0)) := congrArg ((S 1100007)) h802_
          have e812_ : S 1100007 (g7 1100025 (g7 1046 0)) = S 1100007 (S 1100025 (S 1046 0)) := congrArg ((S 1100007)) h804_
          exact (la_give_146 h799_ e810_)
        refine ⟨h800_, ?_⟩
        refine ⟨?_, ?_⟩
        · skip
          have e813_ : (if p1 = (-1) then 0 else 1 : Int) = 0 := if_pos h792_
          have e814_ : S 1100007 (g7 1100023 (g7 1046 0)) = S 1100007 (S 1100023 (S 1046 0)) := congrArg ((S 1100007)) h802_
          have e815_ : S 1100007 (g7 1100025 (g7 1046 0)) = S 1100007 (S 1100025 (S 1046 0)) := congrArg ((S 1100007)) h804_
          exact (la_give_147 h801_ e813_)
        refine ⟨h802_, ?_⟩
        refine ⟨h803_, ?_⟩
        refine ⟨h804_, ?_⟩
        refine ⟨h805_, ?_⟩
        refine ⟨h806_, ?_⟩
        refine ⟨h807_, ?_⟩
        refine ⟨h808_, ?_⟩
        refine ⟨h809_, ?_⟩
        exact trivial
      intro h816_
      refine ⟨?_, ?_⟩
      · skip
        intro h817_
        refine ⟨?_, ?_⟩
        · skip
          refine ⟨h75_, ?_⟩
          refine ⟨h76_, ?_⟩
          refine ⟨h77_, ?_⟩
          refine ⟨h78_, ?_⟩
          intro h818_
          obtain ⟨h819_, ⟨h820_, ⟨h821_, ⟨h822_, ⟨h823_, ⟨h824_, ⟨h825_, ⟨h826_, ⟨h827_, ⟨h828_, ⟨h829_, ⟨h830_, ⟨h831_, ⟨h832_, ⟨h833_, ⟨h834_, -⟩⟩⟩⟩⟩⟩⟩⟩⟩⟩⟩⟩⟩⟩⟩⟩ := (h102_ h818_)
          refine ⟨h820_, ?_⟩
          refine ⟨la_give_148, ?_⟩
          refine ⟨la_give_149, ?_⟩
          refine ⟨(sm_ci_19 (la_give_150 (sm_KC_n h34_).2.1.1 h38_ h39_ h40_ e103_ h824_ h826_ h827_ h829_ h830_ h831_ (sm_dl_19 : sm_dl 19 0 = 2) (sm_nt_19 : sm_nt 19 (g7 1046 0) (g7 1100023 (g7 1046 0)) (g7 1100023 (g7 1100023 (g7 1046 0))) = g7 1100023 (g7 1046 0)) (sm_nl_19 : sm_nl 19 (g7 1046 0) (g7 1100007 (g7 1046 0)) (g7 1100025 (g7 1046 0)) (g7 1100007 (g7 1100025 (g7 1046 0))) (g7 1100025 (g7 1100025 (g7 1046 0))) = g7 1100025 (g7 1046 0)))), ?_⟩
          refine ⟨la_give_151, ?_⟩
          intro h835_
          have h836_ := (h835_.resolve_left la_give_152)
          have h837_ := (h38_ (la_give_154 h836_))
          have h838_ := (h39_ (la_give_154 h836_))
          have h839_ := (h63_ (la_give_155 h836_))
          have e840_ : (if S 1100002 p2 ≤ S 1100002 p3 then S 1100002 p3 else S 1100002 p2 : Int) = S 1100002 p3 := if_pos (la_give_156 h836_)
          have e841_ : (if S 1100005 p2 ≤ S 1100005 p3 + 1 then S 1100005 p3 + 1 else S 1100005 p2 : Int) = S 1100005 p3 + 1 := if_pos (la_give_157 h836_)
          have e842_ : S 11 p3 = S 11 p2 := congrArg ((S 11)) (la_give_158 h836_)
          have e843_ : S 1100001 p3 = S 1100001 p2 := congrArg ((S 1100001)) (la_give_158 h836_)
          have e844_ : S 1100002 p3 = S 1100002 p2 := congrArg ((S 1100002)) (la_give_158 h836_)
          have e845_ : S 1100005 p3 = S 1100005 p2 := congrArg ((S 1100005)) (la_give_158 h836_)
          have e846_ : S 1100007 (S 1100023 (S 1046 0)) = S 1100007 (S 1046 0) := congrArg ((S 1100007)) (la_give_158 h836_)
          have e847_ : S 1100007 (S 1100025 (S 1046 0)) = S 1100007 (S 1046 0) := congrArg ((S 1100007)) (la_give_158 h836_)
          have e848_ : S 1100007 (S 1100025 (S 1046 0)) = S 1100007 (S 1100023 (S 1046 0)) := congrArg ((S 1100007)) (la_give_158 h836_)
          have e849_ : S 1100007 (g7 1046 0) = S 1100007 (S 1046 0) := congrArg ((S 1100007)) (la_give_158 h836_)
          have e850_ : S 1100007 (g7 1046 0) = S 1100007 (S 1100023 (S 1046 0)) := congrArg ((S 1100007)) (la_give_158 h836_)
          have e851_ : S 1100007 (g7 1046 0) = S 1100007 (S 1100025 (S 1046 0)) := congrArg ((S 1100007)) (la_give_158 h836_)
          have e852_ : S 1100007 (g7 1100023 (g7 1046 0)) = S 1100007 (S 1046 0) := congrArg ((S 1100007)) (la_give_158 h836_)
          have e853_ : S 1100007 (g7 1100023 (g7 1046 0)) = S 1100007 (S 1100023 (S 1046 0)) := congrArg ((S 1100007)) h827_
          have e854_ : S 1100007 (g7 1100023 (g7 1046 0)) = S 1100007 (S 1100025 (S 1046 0)) := congrArg ((S 1100007)) (la_give_158 h836_)
          have e855_ : S 1100007 (g7 1100023 (g7 1046 0)) = S 1100007 (g7 1046 0) := congrArg ((S 1100007)) (la_give_158 h836_)
          have e856_ : S 1100007 (g7 1100025 (g7 1046 0)) = S 1100007 (S 1046 0) := congrArg ((S 1100007)) (la_give_158 h836_)
          have e857_ : S 1100007 (g7 1100025 (g7 1046 0)) = S 1100007 (S 1100023 (S 1046 0)) := congrArg ((S 1100007)) (la_give_158 h836_)
          have e858_ : S 1100007 (g7 1100025 (g7 1046 0)) = S 1100007 (S 1100025 (S 1046 0)) := congrArg ((S 1100007)) h829_
          have e859_ : S 1100007 (g7 1100025 (g7 1046 0)) = S 1100007 (g7 1046 0) := congrArg ((S 1100007)) (la_give_158 h836_)
          have e860_ : S 1100007 (g7 1100025 (g7 1046 0)) = S 1100007 (g7 1100023 (g7 1046 0)) := congrArg ((S 1100007)) (la_give_158 h836_)
          have e861_ : S 1100023 (g7 1046 0) = S 1100023 (S 1046 0) := congrArg ((S 1100023)) (la_give_158 h836_)
          have e862_ : S 1100024 (g7 1046 0) = S 1100024 (S 1046 0) := congrArg ((S 1100024)) (la_give_158 h836_)
          have e863_ : S 1100025 (g7 1046 0) = S 1100025 (S 1046 0) := congrArg ((S 1100025)) (la_give_158 h836_)
          have e864_ : g7 1100007 (g7 1100023 (g7 1046 0)) = g7 1100007 (g7 1046 0) := congrArg ((g7 1100007)) (la_give_158 h836_)
          have e865_ : g7 1100007 (g7 1100025 (g7 1046 0)) = g7 1100007 (g7 1046 0) := congrArg ((g7 1100007)) (la_give_158 h836_)
          have e866_ : g7 1100007 (g7 1100025 (g7 1046 0)) = g7 1100007 (g7 1100023 (g7 1046 0)) := congrArg ((g7 1100007)) (la_give_158 h836_)
          have e867_ : g7 1100023 (g7 1100023 (g7 1046 0)) = g7 1100023 (g7 1046 0) := congrArg ((g7 1100023)) (la_give_158 h836_)
          have e868_ : g7 1100025 (g7 1100025 (g7 1046 0)) = g7 1100025 (g7 1046 0) := congrArg ((g7 1100025)) (la_give_158 h836_)
          have h869_ := (h62_ (la_give_159 h836_))
          have e870_ : S 1100023 (g7 1100023 (g7 1046 0)) = S 1100023 (S 1046 0) := congrArg ((S 1100023)) (la_give_158 h836_)
          have e871_ : S 1100023 (g7 1100023 (g7 1046 0)) = S 1100023 (g7 1046 0) := congrArg ((S 1100023)) (la_give_158 h836_)
          have e872_ : S 1100025 (g7 1100025 (g7 1046 0)) = S 1100025 (S 1046 0) := congrArg ((S 1100025)) (la_give_158 h836_)
          have e873_ : S 1100025 (g7 1100025 (g7 1046 0)) = S 1100025 (g7 1046 0) := congrArg ((S 1100025)) (la_give_158 h836_)
          exact ((la_give_160 h836_)).elim
        refine ⟨(la_give_23 h50_ h65_ h97_ h106_), ?_⟩
        intro g63
        rintro ⟨h874_, ⟨h875_, ⟨h876_, ⟨h877_, ⟨h878_, ⟨h879_, ⟨h880_, ⟨h881_, ⟨h882_, ⟨h883_, ⟨h884_, ⟨h885_, ⟨h886_, ⟨h887_, ⟨h888_, ⟨h889_, h890_⟩⟩⟩⟩⟩⟩⟩⟩⟩⟩⟩⟩⟩⟩⟩⟩
        refine ⟨?_, ?_⟩
        · skip
          refine ⟨(la_give_24 h876_), ?_⟩
          refine ⟨h879_, ?_⟩
          refine ⟨h874_, ?_⟩
          refine ⟨h875_, ?_⟩
          intro h891_
          have h892_ : ¬ (g7 1047 0 = 1) := fun q_ => (la_give_9 h891_) (h880_ q_)
          obtain ⟨h893_, ⟨h894_, ⟨h895_, ⟨h896_, ⟨h897_, ⟨h898_, ⟨h899_, ⟨h900_, ⟨h901_, ⟨h902_, ⟨h903_, ⟨h904_, ⟨h905_, h906_⟩⟩⟩⟩⟩⟩⟩⟩⟩⟩⟩⟩⟩ := (h890_ h891_)
          have h907_ := (h906_ la_give_161)
          obtain ⟨h908_, ⟨h909_, ⟨h910_, ⟨h911_, ⟨h912_, ⟨h913_, ⟨h914_, ⟨h915_, ⟨h916_, ⟨h917_, ⟨h918_, ⟨h919_, ⟨h920_, ⟨h921_, ⟨h922_, ⟨h923_, -⟩⟩⟩⟩⟩⟩⟩⟩⟩⟩⟩⟩⟩⟩⟩⟩ := (h102_ h893_)
          have h924_ := (h907_ la_give_163)
          refine ⟨h895_, ?_⟩
          refine ⟨la_give_164, ?_⟩
          refine ⟨la_give_165, ?_⟩
          refine ⟨(sm_ci_10 (la_give_166 (sm_KC_n h34_).2.1.1 h38_ h39_ e103_ h899_ (sm_dl_19 : sm_dl 19 0 = 2) h900_ (sm_nt_19 : sm_nt 19 (g7 1046 0) (g7 1100023 (g7 1046 0)) (g7 1100023 (g7 1100023 (g7 1046 0))) = g7 1100023 (g7 1046 0)) h902_ (sm_nl_19 : sm_nl 19 (g7 1046 0) (g7 1100007 (g7 1046 0)) (g7 1100025 (g7 1046 0)) (g7 1100007 (g7 1100025 (g7 1046 0))) (g7 1100025 (g7 1100025 (g7 1046 0))) = g7 1100025 (g7 1046 0)) h903_ (sm_nt_19 : sm_nt 19 (g7 1100007 (g7 1046 0)) (g7 1100007 (g7 1100023 (g7 1046 0))) (g7 1100007 (g7 1100023 (g7 1100023 (g7 1046 0)))) = g7 1100007 (g7 1100023 (g7 1046 0))) h915_ h916_ h918_ h919_ h920_ h924_ (sm_dl_10 : sm_dl 10 0 = (-1)) (sm_nt_10 : sm_nt 10 (g63 1046 0) (g63 1100023 (g63 1046 0)) (g63 1100023 (g63 1100023 (g63 1046 0))) = g63 1100023 (g63 1046 0)) (sm_nl_10 : sm_nl 10 (g63 1046 0) (g63 1100007 (g63 1046 0)) (g63 1100025 (g63 1046 0)) (g63 1100007 (g63 1100025 (g63 1046 0))) (g63 1100025 (g63 1100025 (g63 1046 0))) = g63 1100025 (g63 1046 0)))), ?_⟩
          refine ⟨la_give_167, ?_⟩
          intro h925_
          have h926_ := (h925_.resolve_left la_give_168)
          have h927_ := (h38_ (la_give_172 h926_))
          have h928_ := (h39_ (la_give_172 h926_))
          have h929_ := (h63_ (la_give_173 h926_))
          have e930_ : (if S 1100002 p2 ≤ S 1100002 p3 then S 1100002 p3 else S 1100002 p2 : Int) = S 1100002 p3 := if_pos (la_give_174 h926_)
          have e931_ : (if S 1100005 p2 ≤ S 1100005 p3 + 1 then S 1100005 p3 + 1 else S 1100005 p2 : Int) = S 1100005 p3 + 1 := if_pos (la_give_175 h926_)
          have e932_ : S 11 p3 = S 11 p2 := congrArg ((S 11)) (la_give_176 h926_)
          have e933_ : S 1100001 p3 = S 1100001 p2 := congrArg ((S 1100001)) (la_give_176 h926_)
          have e934_ : S 1100002 p3 = S 1100002 p2 := congrArg ((S 1100002)) (la_give_176 h926_)
          have e935_ : S 1100005 p3 = S 1100005 p2 := congrArg ((S 1100005)) (la_give_176 h926_)
          have e936_ : S 1100007 (S 1100023 (S 1046 0)) = S 1100007 (S 1046 0) := congrArg ((S 1100007)) (la_give_176 h926_)
          have e937_ : S 1100007 (S 1100025 (S 1046 0)) = S 1100007 (S 1046 0) := congrArg ((S 1100007)) (la_give_176 h926_)
          have e938_ : S 1100007 (S 1100025 (S 1046 0)) = S 1100007 (S 1100023 (S 1046 0)) := congrArg ((S 1100007)) (la_give_176 h926_)
          have e939_ : S 1100007 (g63 1046 0) = S 1100007 (S 1046 0) := congrArg ((S 1100007)) (la_give_176 h926_)
          have e940_ : S 1100007 (g63 1046 0) = S 1100007 (S 1100023 (S 1046 0)) := congrArg ((S 1100007)) (la_give_176 h926_)
          have e941_ : S 1100007 (g63 1046 0) = S 1100007 (S 1100025 (S 1046 0)) := congrArg ((S 1100007)) (la_give_176 h926_)
          have e942_ : S 1100007 (g63 1100023 (g63 1046 0)) = S 1100007 (S 1046 0) := congrArg ((S 1100007)) (la_give_176 h926_)
          have e943_ : S 1100007 (g63 1100023 (g63 1046 0)) = S 1100007 (S 1100023 (S 1046 0)) := congrArg ((S 1100007)) (la_give_176 h926_)
          have e944_ : S 1100007 (g63 1100023 (g63 1046 0)) = S 1100007 (S 1100025 (S 1046 0)) := congrArg ((S 1100007)) (la_give_176 h926_)
          have e945_ : S 1100007 (g63 1100023 (g63 1046 0)) = S 1100007 (g63 1046 0) := congrArg ((S 1100007)) (la_give_176 h926_)
          have e946_ : S 1100007 (g63 1100025 (g63 1046 0)) = S 1100007 (S 1046 0) := congrArg ((S 1100007)) (la_give_176 h926_)
          have e947_ : S 1100007 (g63 1100025 (g63 1046 0)) = S 1100007 (S 1100023 (S 1046 0)) := congrArg ((S 1100007)) (la_give_176 h926_)
          have e948_ : S 1100007 (g63 1100025 (g63 1046 0)) = S 1100007 (S 1100025 (S 1046 0)) := congrArg ((S 1100007)) (la_give_176 h926_)
          have e949_ : S 1100007 (g63 1100025 (g63 1046 0)) = S 1100007 (g63 1046 0) := congrArg ((S 1100007)) (la_give_176 h926_)
          have e950_ : S 1100007 (g63 1100025 (g63 1046 0)) = S 1100007 (g63 1100023 (g63 1046 0)) := congrArg ((S 1100007)) (la_give_176 h926_)
          have e951_ : S 1100007 (g7 1046 0) = S 1100007 (S 1046 0) := congrArg ((S 1100007)) (la_give_176 h926_)
          have e952_ : S 1100007 (g7 1046 0) = S 1100007 (S 1100023 (S 1046 0)) := congrArg ((S 1100007)) (la_give_176 h926_)
          have e953_ : S 1100007 (g7 1046 0) = S 1100007 (S 1100025 (S 1046 0)) := congrArg ((S 1100007)) (la_give_176 h926_)
          have e954_ : S 1100007 (g7 1046 0) = S 1100007 (g63 1046 0) := congrArg ((S 1100007)) (la_give_176 h926_)
          have e955_ : S 1100007 (g7 1046 0) = S 1100007 (g63 1100023 (g63 1046 0)) := congrArg ((S 1100007)) (la_give_176 h926_)
          have e956_ : S 1100007 (g7 1046 0) = S 1100007 (g63 1100025 (g63 1046 0)) := congrArg ((S 1100007)) (la_give_176 h926_)
          have e957_ : S 1100007 (g7 1100023 (g7 1046 0)) = S 1100007 (S 1046 0) := congrArg ((S 1100007)) (la_give_176 h926_)
          have e958_ : S 1100007 (g7 1100023 (g7 1046 0)) = S 1100007 (S 1100023 (S 1046 0)) := congrArg ((S 1100007)) h916_
          have e959_ : S 1100007 (g7 1100023 (g7 1046 0)) = S 1100007 (S 1100025 (S 1046 0)) := congrArg ((S 1100007)) (la_give_176 h926_)
          have e960_ : S 1100007 (g7 1100023 (g7 1046 0)) = S 1100007 (g63 1046 0) := congrArg ((S 1100007)) (la_give_176 h926_)
          have e961_ : S 1100007 (g7 1100023 (g7 1046 0)) = S 1100007 (g63 1100023 (g63 1046 0)) := congrArg ((S 1100007)) (la_give_176 h926_)
          have e962_ : S 1100007 (g7 1100023 (g7 1046 0)) = S 1100007 (g63 1100025 (g63 1046 0)) := congrArg ((S 1100007)) (la_give_176 h926_)
          have e963_ : S 1100007 (g7 1100023 (g7 1046 0)) = S 1100007 (g7 1046 0) := congrArg ((S 1100007)) (la_give_176 h926_)
          have e964_ : S 1100007 (g7 1100025 (g7 1046 0)) = S 1100007 (S 1046 0) := congrArg ((S 1100007)) (la_give_176 h926_)
          have e965_ : S 1100007 (g7 1100025 (g7 1046 0)) = S 1100007 (S 1100023 (S 1046 0)) := congrArg ((S 1100007)) (la_give_176 h926_)
          have e966_ : S 1100007 (g7 1100025 (g7 1046 0)) = S 1100007 (S 1100025 (S 1046 0)) := congrArg ((S 1100007)) h918_
          have e967_ : S 1100007 (g7 1100025 (g7 1046 0)) = S 1100007 (g63 1046 0) := congrArg ((S 1100007)) (la_give_176 h926_)
          have e968_ : S 1100007 (g7 1100025 (g7 1046 0)) = S 1100007 (g63 1100023 (g63 1046 0)) := congrArg ((S 1100007)) (la_give_176 h926_)
          have e969_ : S 1100007 (g7 1100025 (g7 1046 0)) = S 1100007 (g63 1100025 (g63 1046 0)) := congrArg ((S 1100007)) (la_give_176 h926_)
          have e970_ : S 1100007 (g7 1100025 (g7 1046 0)) = S 1100007 (g7 1046 0) := congrArg ((S 1100007)) (la_give_176 h926_)
          have e971_ : S 1100007 (g7 1100025 (g7 1046 0)) = S 1100007 (g7 1100023 (g7 1046 0)) := congrArg ((S 1100007)) (la_give_176 h926_)
          have e972_ : S 1100023 (g63 1046 0) = S 1100023 (S 1046 0) := congrArg ((S 1100023)) (la_give_176 h926_)
          have e973_ : S 1100023 (g7 1046 0) = S 1100023 (S 1046 0) := congrArg ((S 1100023)) (la_give_176 h926_)
          have e974_ : S 1100023 (g7 1046 0) = S 1100023 (g63 1046 0) := congrArg ((S 1100023)) (la_give_176 h926_)
          have e975_ : S 1100024 (g63 1046 0) = S 1100024 (S 1046 0) := congrArg ((S 1100024)) (la_give_176 h926_)
          have e976_ : S 1100024 (g7 1046 0) = S 1100024 (S 1046 0) := congrArg ((S 1100024)) (la_give_176 h926_)
          have e977_ : S 1100024 (g7 1046 0) = S 1100024 (g63 1046 0) := congrArg ((S 1100024)) (la_give_176 h926_)
          have e978_ : S 1100025 (g63 1046 0) = S 1100025 (S 1046 0) := congrArg ((S 1100025)) (la_give_176 h926_)
          have e979_ : S 1100025 (g7 1046 0) = S 1100025 (S 1046 0) := congrArg ((S 1100025)) (la_give_176 h926_)
          have e980_ : S 1100025 (g7 1046 0) = S 1100025 (g63 1046 0) := congrArg ((S 1100025)) (la_give_176 h926_)
          have e981_ : g63 1100007 (g63 1100023 (g63 1046 0)) = g63 1100007 (g63 1046 0) := congrArg ((g63 1100007)) (la_give_176 h926_)
          have e982_ : g63 1100007 (g63 1100025 (g63 1046 0)) = g63 1100007 (g63 1046 0) := congrArg ((g63 1100007)) (la_give_176 h926_)
          have e983_ : g63 1100007 (g63 1100025 (g63 1046 0)) = g63 1100007 (g63 1100023 (g63 1046 0)) := congrArg ((g63 1100007)) (la_give_176 h926_)
          have e984_ : g63 1100023 (g63 1100023 (g63 1046 0)) = g63 1100023 (g63 1046 0) := congrArg ((g63 1100023)) (la_give_176 h926_)
          have e985_ : g63 1100025 (g63 1100025 (g63 1046 0)) = g63 1100025 (g63 1046 0) := congrArg ((g63 1100025)) (la_give_176 h926_)
          have e986_ : g7 1100007 (g63 1100023 (g63 1046 0)) = g7 1100007 (g63 1046 0) := congrArg ((g7 1100007)) (la_give_176 h926_)
          have e987_ : g7 1100007 (g63 1100025 (g63 1046 0)) = g7 1100007 (g63 1046 0) := congrArg ((g7 1100007)) (la_give_176 h926_)
          have e988_ : g7 1100007 (g63 1100025 (g63 1046 0)) = g7 1100007 (g63 1100023 (g63 1046 0)) := congrArg ((g7 1100007)) (la_give_176 h926_)
          have e989_ : g7 1100007 (g7 1046 0) = g7 1100007 (g63 1046 0) := congrArg ((g7 1100007)) (la_give_176 h926_)
          have e990_ : g7 1100007 (g7 1046 0) = g7 1100007 (g63 1100023 (g63 1046 0)) := congrArg ((g7 1100007)) (la_give_176 h926_)
          have e991_ : g7 1100007 (g7 1046 0) = g7 1100007 (g63 1100025 (g63 1046 0)) := congrArg ((g7 1100007)) (la_give_176 h926_)
          have e992_ : g7 1100007 (g7 1100023 (g7 1046 0)) = g7 1100007 (g63 1046 0) := congrArg ((g7 1100007)) (la_give_176 h926_)
          have e993_ : g7 1100007 (g7 1100023 (g7 1046 0)) = g7 1100007 (g63 1100023 (g63 1046 0)) := congrArg ((g7 1100007)) (la_give_176 h926_)
          have e994_ : g7 1100007 (g7 1100023 (g7 1046 0)) = g7 1100007 (g63 1100025 (g63 1046 0)) := congrArg ((g7 1100007)) (la_give_176 h926_)
          have e995_ : g7 1100007 (g7 1100023 (g7 1046 0)) = g7 1100007 (g7 1046 0) := congrArg ((g7 1100007)) (la_give_176 h926_)
          have e996_ : g7 1100007 (g7 1100023 (g7 1100023 (g7 1046 0))) = g7 1100007 (g63 1046 0) := congrArg ((g7 1100007)) (la_give_176 h926_)
          have e997_ : g7 1100007 (g7 1100023 (g7 1100023 (g7 1046 0))) = g7 1100007 (g63 1100023 (g63 1046 0)) := congrArg ((g7 1100007)) (la_give_176 h926_)
          have e998_ : g7 1100007 (g7 1100023 (g7 1100023 (g7 1046 0))) = g7 1100007 (g63 1100025 (g63 1046 0)) := congrArg ((g7 1100007)) (la_give_176 h926_)
          have e999_ : g7 1100007 (g7 1100023 (g7 1100023 (g7 1046 0))) = g7 1100007 (g7 1046 0) := congrArg ((g7 1100007)) (la_give_176 h926_)
          have e1000_ : g7 1100007 (g7 1100023 (g7 1100023 (g7 1046 0))) = g7 1100007 (g7 1100023 (g7 1046 0)) := congrArg ((g7 1100007)) (la_give_176 h926_)
          have e1001_ : g7 1100007 (g7 1100025 (g7 1046 0)) = g7 1100007 (g63 1046 0) := congrArg ((g7 1100007)) (la_give_176 h926_)
          have e1002_ : g7 1100007 (g7 1100025 (g7 1046 0)) = g7 1100007 (g63 1100023 (g63 1046 0)) := congrArg ((g7 1100007)) (la_give_176 h926_)
          have e1003_ : g7 1100007 (g7 1100025 (g7 1046 0)) = g7 1100007 (g63 1100025 (g63 1046 0)) := congrArg ((g7 1100007)) (la_give_176 h926_)
          have e1004_ : g7 1100007 (g7 1100025 (g7 1046 0)) = g7 1100007 (g7 1046 0) := congrArg ((g7 1100007)) (la_give_176 h926_)
          have e1005_ : g7 1100007 (g7 1100025 (g7 1046 0)) = g7 1100007 (g7 1100023 (g7 1046 0)) := congrArg ((g7 1100007)) (la_give_176 h926_)
          have e1006_ : g7 1100007 (g7 1100025 (g7 1046 0)) = g7 1100007 (g7 1100023 (g7 1100023 (g7 1046 0))) := congrArg ((g7 1100007)) (la_give_176 h926_)
          have e1007_ : g7 1100023 (g7 1046 0) = g7 1100023 (g63 1046 0) := congrArg ((g7 1100023)) (la_give_176 h926_)
          have e1008_ : g7 1100023 (g7 1100023 (g7 1046 0)) = g7 1100023 (g63 1046 0) := congrArg ((g7 1100023)) (la_give_176 h926_)
          have e1009_ : g7 1100023 (g7 1100023 (g7 1046 0)) = g7 1100023 (g7 1046 0) := congrArg ((g7 1100023)) (la_give_176 h926_)
          have e1010_ : g7 1100024 (g7 1046 0) = g7 1100024 (g63 1046 0) := congrArg ((g7 1100024)) (la_give_176 h926_)
          have e1011_ : g7 1100025 (g7 1046 0) = g7 1100025 (g63 1046 0) := congrArg ((g7 1100025)) (la_give_176 h926_)
          have e1012_ : g7 1100025 (g7 1100025 (g7 1046 0)) = g7 1100025 (g63 1046 0) := congrArg ((g7 1100025)) (la_give_176 h926_)
          have e1013_ : g7 1100025 (g7 1100025 (g7 1046 0)) = g7 1100025 (g7 1046 0) := congrArg ((g7 1100025)) (la_give_176 h926_)
          have h1014_ := (h62_ (la_give_177 h926_))
          have e1015_ : S 1100007 (g7 1100023 (g7 1100023 (g7 1046 0))) = S 1100007 (S 1046 0) := congrArg ((S 1100007)) (la_give_176 h926_)
          have e1016_ : S 1100007 (g7 1100023 (g7 1100023 (g7 1046 0))) = S 1100007 (S 1100023 (S 1046 0)) := congrArg ((S 1100007)) (la_give_176 h926_)
          have e1017_ : S 1100007 (g7 1100023 (g7 1100023 (g7 1046 0))) = S 1100007 (S 1100025 (S 1046 0)) := congrArg ((S 1100007)) (la_give_176 h926_)
          have e1018_ : S 1100007 (g7 1100023 (g7 1100023 (g7 1046 0))) = S 1100007 (g63 1046 0) := congrArg ((S 1100007)) (la_give_176 h926_)
          have e1019_ : S 1100007 (g7 1100023 (g7 1100023 (g7 1046 0))) = S 1100007 (g63 1100023 (g63 1046 0)) := congrArg ((S 1100007)) (la_give_176 h926_)
          have e1020_ : S 1100007 (g7 1100023 (g7 1100023 (g7 1046 0))) = S 1100007 (g63 1100025 (g63 1046 0)) := congrArg ((S 1100007)) (la_give_176 h926_)
          have e1021_ : S 1100007 (g7 1100023 (g7 1100023 (g7 1046 0))) = S 1100007 (g7 1046 0) := congrArg ((S 1100007)) (la_give_176 h926_)
          have e1022_ : S 1100007 (g7 1100023 (g7 1100023 (g7 1046 0))) = S 1100007 (g7 1100023 (g7 1046 0)) := congrArg ((S 1100007)) e1009_
          have e1023_ : S 1100007 (g7 1100025 (g7 1046 0)) = S 1100007 (g7 1100023 (g7 1100023 (g7 1046 0))) := congrArg ((S 1100007)) (la_give_176 h926_)
          have e1024_ : S 1100023 (g63 1100023 (g63 1046 0)) = S 1100023 (S 1046 0) := congrArg ((S 1100023)) (la_give_176 h926_)
          have e1025_ : S 1100023 (g63 1100023 (g63 1046 0)) = S 1100023 (g63 1046 0) := congrArg ((S 1100023)) (la_give_176 h926_)
          have e1026_ : S 1100023 (g7 1046 0) = S 1100023 (g63 1100023 (g63 1046 0)) := congrArg ((S 1100023)) (la_give_176 h926_)
          have e1027_ : S 1100023 (g7 1100023 (g7 1046 0)) = S 1100023 (S 1046 0) := congrArg ((S 1100023)) (la_give_176 h926_)
          have e1028_ : S 1100023 (g7 1100023 (g7 1046 0)) = S 1100023 (g63 1046 0) := congrArg ((S 1100023)) (la_give_176 h926_)
          have e1029_ : S 1100023 (g7 1100023 (g7 1046 0)) = S 1100023 (g63 1100023 (g63 1046 0)) := congrArg ((S 1100023)) (la_give_176 h926_)
          have e1030_ : S 1100023 (g7 1100023 (g7 1046 0)) = S 1100023 (g7 1046 0) := congrArg ((S 1100023)) (la_give_176 h926_)
          have e1031_ : S 1100025 (g63 1100025 (g63 1046 0)) = S 1100025 (S 1046 0) := congrArg ((S 1100025)) (la_give_176 h926_)
          have e1032_ : S 1100025 (g63 1100025 (g63 1046 0)) = S 1100025 (g63 1046 0) := congrArg ((S 1100025)) (la_give_176 h926_)
          have e1033_ : S 1100025 (g7 1046 0) = S 1100025 (g63 1100025 (g63 1046 0)) := congrArg ((S 1100025)) (la_give_176 h926_)
          have e1034_ : S 1100025 (g7 1100025 (g7 1046 0)) = S 1100025 (S 1046 0) := congrArg ((S 1100025)) (la_give_176 h926_)
          have e1035_ : S 1100025 (g7 1100025 (g7 1046 0)) = S 1100025 (g63 1046 0) := congrArg ((S 1100025)) (la_give_176 h926_)
          have e1036_ : S 1100025 (g7 1100025 (g7 1046 0)) = S 1100025 (g63 1100025 (g63 1046 0)) := congrArg ((S 1100025)) (la_give_176 h926_)
          have e1037_ : S 1100025 (g7 1100025 (g7 1046 0)) = S 1100025 (g7 1046 0) := congrArg ((S 1100025)) (la_give_176 h926_)
          have e1038_ : g7 1100023 (g63 1100023 (g63 1046 0)) = g7 1100023 (g63 1046 0) := congrArg ((g7 1100023)) (la_give_176 h926_)
          have e1039_ : g7 1100023 (g7 1046 0) = g7 1100023 (g63 1100023 (g63 1046 0)) := congrArg ((g7 1100023)) (la_give_176 h926_)
          have e1040_ : g7 1100023 (g7 1100023 (g7 1046 0)) = g7 1100023 (g63 1100023 (g63 1046 0)) := congrArg ((g7 1100023)) (la_give_176 h926_)
          have e1041_ : g7 1100025 (g63 1100025 (g63 1046 0)) = g7 1100025 (g63 1046 0) := congrArg ((g7 1100025)) (la_give_176 h926_)
          have e1042_ : g7 1100025 (g7 1046 0) = g7 1100025 (g63 1100025 (g63 1046 0)) := congrArg ((g7 1100025)) (la_give_176 h926_)
          have e1043_ : g7 1100025 (g7 1100025 (g7 1046 0)) = g7 1100025 (g63 1100025 (g63 1046 0)) := congrArg ((g7 1100025)) (la_give_176 h926_)
          exact ((la_give_178 h926_)).elim
        intro g70
        rintro ⟨h1044_, ⟨h1045_, ⟨h1046_, ⟨h1047_, ⟨h1048_, ⟨h1049_, ⟨h1050_, ⟨h1051_, ⟨h1052_, ⟨h1053_, ⟨h1054_, ⟨h1055_, ⟨h1056_, ⟨h1057_, ⟨h1058_, ⟨h1059_, h1060_⟩⟩⟩⟩⟩⟩⟩⟩⟩⟩⟩⟩⟩⟩⟩⟩
        refine ⟨(la_give_24 h1046_), ?_⟩
        refine ⟨h1049_, ?_⟩
        refine ⟨h1044_, ?_⟩
        refine ⟨h1045_, ?_⟩
        refine ⟨h79_, ?_⟩
        refine ⟨h80_, ?_⟩
        refine ⟨(la_give_119 h81_ h877_ h1047_), ?_⟩
        refine ⟨(la_give_26 h33_ h1045_), ?_⟩
        refine ⟨(sm_F1_tr (sm_F1_tr (sm_F1_le h83_ (Int.le_refl _)) h882_ h81_) h1052_ (la_give_25 h81_ h877_)), ?_⟩
        refine ⟨(sm_F1_tr (sm_F1_tr (sm_F1_le h84_ (Int.le_refl _)) h883_ h81_) h1053_ (la_give_25 h81_ h877_)), ?_⟩
        refine ⟨(sm_F1_tr (sm_F1_tr (sm_F1_le h85_ (Int.le_refl _)) h884_ h81_) h1054_ (la_give_25 h81_ h877_)), ?_⟩
        refine ⟨(sm_F1_tr (sm_F1_tr (sm_F1_le h86_ (Int.le_refl _)) h885_ h81_) h1055_ (la_give_25 h81_ h877_)), ?_⟩
        refine ⟨(sm_F1_tr (sm_F1_tr (sm_F1_le h87_ (Int.le_refl _)) h886_ (la_give_27 h81_)) h1056_ (la_give_120 h81_ h877_)), ?_⟩
        refine ⟨(sm_F1_tr (sm_F1_tr (sm_F1_le h88_ (Int.le_refl _)) h887_ (la_give_27 h81_)) h1057_ (la_give_120 h81_ h877_)), ?_⟩
        refine ⟨(sm_F1_tr (sm_F1_tr (sm_F1_le h89_ (Int.le_refl _)) h888_ (la_give_27 h81_)) h1058_ (la_give_120 h81_ h877_)), ?_⟩
        refine ⟨(sm_F1_tr (sm_F1_tr (sm_F1_le h90_ (Int.le_refl _)) h889_ (la_give_27 h81_)) h1059_ (la_give_120 h81_ h877_)), ?_⟩
        refine ⟨h91_, ?_⟩
        refine ⟨h92_, ?_⟩
        refine ⟨h93_, ?_⟩
        refine ⟨h94_, ?_⟩
        refine ⟨h95_, ?_⟩
        refine ⟨h96_, ?_⟩
        refine ⟨h97_, ?_⟩
        refine ⟨h98_, ?_⟩
        refine ⟨h99_, ?_⟩
        refine ⟨h100_, ?_⟩
        refine ⟨h101_, ?_⟩
        intro h1061_
        have h1062_ : ¬ (g63 1047 0 = 1) := fun q_ => (la_give_9 h1061_) (h1050_ q_)
        obtain ⟨h1063_, ⟨h1064_, ⟨h1065_, ⟨h1066_, ⟨h1067_, ⟨h1068_, ⟨h1069_, ⟨h1070_, ⟨h1071_, ⟨h1072_, ⟨h1073_, ⟨h1074_, ⟨h1075_, h1076_⟩⟩⟩⟩⟩⟩⟩⟩⟩⟩⟩⟩⟩ := (h1060_ h1061_)
        have h1077_ : ¬ (g7 1047 0 = 1) := fun q_ => h1062_ (h880_ q_)
        have h1078_ := (h1076_ la_give_179)
        obtain ⟨h1079_, ⟨h1080_, ⟨h1081_, ⟨h1082_, ⟨h1083_, ⟨h1084_, ⟨h1085_, ⟨h1086_, ⟨h1087_, ⟨h1088_, ⟨h1089_, ⟨h1090_, ⟨h1091_, h1092_⟩⟩⟩⟩⟩⟩⟩⟩⟩⟩⟩⟩⟩ := (h890_ h1063_)
        have h1093_ := (h1078_ la_give_181)
        have h1094_ := (h1092_ la_give_161)
        obtain ⟨h1095_, ⟨h1096_, ⟨h1097_, ⟨h1098_, ⟨h1099_, ⟨h1100_, ⟨h1101_, ⟨h1102_, ⟨h1103_, ⟨h1104_, ⟨h1105_, ⟨h1106_, ⟨h1107_, ⟨h1108_, ⟨h1109_, ⟨h1110_, -⟩⟩⟩⟩⟩⟩⟩⟩⟩⟩⟩⟩⟩⟩⟩⟩ := (h102_ h1079_)
        have h1111_ := (h1094_ la_give_163)
        refine ⟨h33_, ?_⟩
        refine ⟨h1065_, ?_⟩
        refine ⟨h1097_, ?_⟩
        refine ⟨h1098_, ?_⟩
        refine ⟨(la_give_182 h1064_ h1080_ h1099_), ?_⟩
        refine ⟨?_, ?_⟩
        · skip
          have e1112_ : (if p1 = (-1) then 0 else 1 : Int) = 1 := if_neg h816_
          have e1113_ : S 1100007 (g63 1100023 (g63 1046 0)) = S 1100007 (S 1100023 (S 1046 0)) := congrArg ((S 1100007)) (la_give_36 h1086_ (sm_nt_19 : sm_nt 19 (g7 1046 0) (g7 1100023 (g7 1046 0)) (g7 1100023 (g7 1100023 (g7 1046 0))) = g7 1100023 (g7 1046 0)) h1103_)
          have e1114_ : S 1100007 (g63 1100025 (g63 1046 0)) = S 1100007 (S 1100025 (S 1046 0)) := congrArg ((S 1100007)) (la_give_36 h1088_ (sm_nl_19 : sm_nl 19 (g7 1046 0) (g7 1100007 (g7 1046 0)) (g7 1100025 (g7 1046 0)) (g7 1100007 (g7 1100025 (g7 1046 0))) (g7 1100025 (g7 1100025 (g7 1046 0))) = g7 1100025 (g7 1046 0)) h1105_)
          have e1115_ : S 1100007 (g7 1100023 (g7 1046 0)) = S 1100007 (S 1100023 (S 1046 0)) := congrArg ((S 1100007)) h1103_
          have e1116_ : S 1100007 (g7 1100023 (g7 1046 0)) = S 1100007 (g63 1100023 (g63 1046 0)) := congrArg ((S 1100007)) (la_give_188 h1086_ (sm_nt_19 : sm_nt 19 (g7 1046 0) (g7 1100023 (g7 1046 0)) (g7 1100023 (g7 1100023 (g7 1046 0))) = g7 1100023 (g7 1046 0)))
          have e1117_ : S 1100007 (g7 1100025 (g7 1046 0)) = S 1100007 (S 1100025 (S 1046 0)) := congrArg ((S 1100007)) h1105_
          have e1118_ : S 1100007 (g7 1100025 (g7 1046 0)) = S 1100007 (g63 1100025 (g63 1046 0)) := congrArg ((S 1100007)) (la_give_188 h1088_ (sm_nl_19 : sm_nl 19 (g7 1046 0) (g7 1100007 (g7 1046 0)) (g7 1100025 (g7 1046 0)) (g7 1100007 (g7 1100025 (g7 1046 0))) (g7 1100025 (g7 1100025 (g7 1046 0))) = g7 1100025 (g7 1046 0)))
          have e1119_ : S 1100007 (g70 1100023 (g70 1046 0)) = S 1100007 (S 1100023 (S 1046 0)) := congrArg ((S 1100007)) (la_give_189 h1070_ (sm_nt_10 : sm_nt 10 (g63 1046 0) (g63 1100023 (g63 1046 0)) (g63 1100023 (g63 1100023 (g63 1046 0))) = g63 1100023 (g63 1046 0)) h1086_ (sm_nt_19 : sm_nt 19 (g7 1046 0) (g7 1100023 (g7 1046 0)) (g7 1100023 (g7 1100023 (g7 1046 0))) = g7 1100023 (g7 1046 0)) h1103_)
          have e1120_ : S 1100007 (g70 1100023 (g70 1046 0)) = S 1100007 (g63 1100023 (g63 1046 0)) := congrArg ((S 1100007)) (la_give_95 h1070_ (sm_nt_10 : sm_nt 10 (g63 1046 0) (g63 1100023 (g63 1046 0)) (g63 1100023 (g63 1100023 (g63 1046 0))) = g63 1100023 (g63 1046 0)))
          have e1121_ : S 1100007 (g70 1100023 (g70 1046 0)) = S 1100007 (g7 1100023 (g7 1046 0)) := congrArg ((S 1100007)) (la_give_129 h1070_ (sm_nt_10 : sm_nt 10 (g63 1046 0) (g63 1100023 (g63 1046 0)) (g63 1100023 (g63 1100023 (g63 1046 0))) = g63 1100023 (g63 1046 0)) h1086_ (sm_nt_19 : sm_nt 19 (g7 1046 0) (g7 1100023 (g7 1046 0)) (g7 1100023 (g7 1100023 (g7 1046 0))) = g7 1100023 (g7 1046 0)))
          have e1122_ : S 1100007 (g70 1100025 (g70 1046 0)) = S 1100007 (S 1100025 (S 1046 0)) := congrArg ((S 1100007)) (la_give_189 h1072_ (sm_nl_10 : sm_nl 10 (g63 1046 0) (g63 1100007 (g63 1046 0)) (g63 1100025 (g63 1046 0)) (g63 1100007 (g63 1100025 (g63 1046 0))) (g63 1100025 (g63 1100025 (g63 1046 0))) = g63 1100025 (g63 1046 0)) h1088_ (sm_nl_19 : sm_nl 19 (g7 1046 0) (g7 1100007 (g7 1046 0)) (g7 1100025 (g7 1046 0)) (g7 1100007 (g7 1100025 (g7 1046 0))) (g7 1100025 (g7 1100025 (g7 1046 0))) = g7 1100025 (g7 1046 0)) h1105_)
          have e1123_ : S 1100007 (g70 1100025 (g70 1046 0)) = S 1100007 (g63 1100025 (g63 1046 0)) := congrArg ((S 1100007)) (la_give_95 h1072_ (sm_nl_10 : sm_nl 10 (g63 1046 0) (g63 1100007 (g63 1046 0)) (g63 1100025 (g63 1046 0)) (g63 1100007 (g63 1100025 (g63 1046 0))) (g63 1100025 (g63 1100025 (g63 1046 0))) = g63 1100025 (g63 1046 0)))
          have e1124_ : S 1100007 (g70 1100025 (g70 1046 0)) = S 1100007 (g7 1100025 (g7 1046 0)) := congrArg ((S 1100007)) (la_give_129 h1072_ (sm_nl_10 : sm_nl 10 (g63 1046 0) (g63 1100007 (g63 1046 0)) (g63 1100025 (g63 1046 0)) (g63 1100007 (g63 1100025 (g63 1046 0))) (g63 1100025 (g63 1100025 (g63 1046 0))) = g63 1100025 (g63 1046 0)) h1088_ (sm_nl_19 : sm_nl 19 (g7 1046 0) (g7 1100007 (g7 1046 0)) (g7 1100025 (g7 1046 0)) (g7 1100007 (g7 1100025 (g7 1046 0))) (g7 1100025 (g7 1100025 (g7 1046 0))) = g7 1100025 (g7 1046 0)))
          have e1125_ : g63 1100007 (g70 1100023 (g70 1046 0)) = g63 1100007 (g63 1100023 (g63 1046 0)) := congrArg ((g63 1100007)) (la_give_95 h1070_ (sm_nt_10 : sm_nt 10 (g63 1046 0) (g63 1100023 (g63 1046 0)) (g63 1100023 (g63 1100023 (g63 1046 0))) = g63 1100023 (g63 1046 0)))
          have e1126_ : g63 1100007 (g70 1100025 (g70 1046 0)) = g63 1100007 (g63 1100025 (g63 1046 0)) := congrArg ((g63 1100007)) (la_give_95 h1072_ (sm_nl_10 : sm_nl 10 (g63 1046 0) (g63 1100007 (g63 1046 0)) (g63 1100025 (g63 1046 0)) (g63 1100007 (g63 1100025 (g63 1046 0))) (g63 1100025 (g63 1100025 (g63 1046 0))) = g63 1100025 (g63 1046 0)))
          have e1127_ : g7 1100007 (g7 1100023 (g7 1046 0)) = g7 1100007 (g63 1100023 (g63 1046 0)) := congrArg ((g7 1100007)) (la_give_188 h1086_ (sm_nt_19 : sm_nt 19 (g7 1046 0) (g7 1100023 (g7 1046 0)) (g7 1100023 (g7 1100023 (g7 1046 0))) = g7 1100023 (g7 1046 0)))
          have e1128_ : g7 1100007 (g7 1100025 (g7 1046 0)) = g7 1100007 (g63 1100025 (g63 1046 0)) := congrArg ((g7 1100007)) (la_give_188 h1088_ (sm_nl_19 : sm_nl 19 (g7 1046 0) (g7 1100007 (g7 1046 0)) (g7 1100025 (g7 1046 0)) (g7 1100007 (g7 1100025 (g7 1046 0))) (g7 1100025 (g7 1100025 (g7 1046 0))) = g7 1100025 (g7 1046 0)))
          have e1129_ : g7 1100007 (g70 1100023 (g70 1046 0)) = g7 1100007 (g63 1100023 (g63 1046 0)) := congrArg ((g7 1100007)) (la_give_95 h1070_ (sm_nt_10 : sm_nt 10 (g63 1046 0) (g63 1100023 (g63 1046 0)) (g63 1100023 (g63 1100023 (g63 1046 0))) = g63 1100023 (g63 1046 0)))
          have e1130_ : g7 1100007 (g70 1100023 (g70 1046 0)) = g7 1100007 (g7 1100023 (g7 1046 0)) := congrArg ((g7 1100007)) (la_give_129 h1070_ (sm_nt_10 : sm_nt 10 (g63 1046 0) (g63 1100023 (g63 1046 0)) (g63 1100023 (g63 1100023 (g63 1046 0))) = g63 1100023 (g63 1046 0)) h1086_ (sm_nt_19 : sm_nt 19 (g7 1046 0) (g7 1100023 (g7 1046 0)) (g7 1100023 (g7 1100023 (g7 1046 0))) = g7 1100023 (g7 1046 0)))
          have e1131_ : g7 1100007 (g70 1100025 (g70 1046 0)) = g7 1100007 (g63 1100025 (g63 1046 0)) := congrArg ((g7 1100007)) (la_give_95 h1072_ (sm_nl_10 : sm_nl 10 (g63 1046 0) (g63 1100007 (g63 1046 0)) (g63 1100025 (g63 1046 0)) (g63 1100007 (g63 1100025 (g63 1046 0))) (g63 1100025 (g63 1100025 (g63 1046 0))) = g63 1100025 (g63 1046 0)))
          have e1132_ : g7 1100007 (g70 1100025 (g70 1046 0)) = g7 1100007 (g7 1100025 (g7 1046 0)) := congrArg ((g7 1100007)) (la_give_129 h1072_ (sm_nl_10 : sm_nl 10 (g63 1046 0) (g63 1100007 (g63 1046 0)) (g63 1100025 (g63 1046 0)) (g63 1100007 (g63 1100025 (g63 1046 0))) (g63 1100025 (g63 1100025 (g63 1046 0))) = g63 1100025 (g63 1046 0)) h1088_ (sm_nl_19 : sm_nl 19 (g7 1046 0) (g7 1100007 (g7 1046 0)) (g7 1100025 (g7 1046 0)) (g7 1100007 (g7 1100025 (g7 1046 0))) (g7 1100025 (g7 1100025 (g7 1046 0))) = g7 1100025 (g7 1046 0)))
          exact (la_give_190 h1064_ h1080_ h1100_ e1112_)
        refine ⟨(sm_FC_s (sm_FC_F h1101_ (sm_F1_tr (sm_F1_le h885_ (Int.le_refl _)) h1055_ h877_) (Int.le_refl _) (Int.le_refl _) (Int.le_refl _) rfl) (sm_FC_1 (((sm_F1_at h1055_ (g7 1046 0) (la_give_193 h1080_)).trans rfl).trans h1084_) (sm_FC_1 (((congrArg (g70 29) (la_give_194 h878_ h1080_)).trans h1068_).trans rfl) (sm_FC_0 (la_give_195 h878_ h1048_))))), ?_⟩
        refine ⟨?_, ?_⟩
        · skip
          have e1133_ : (if p1 = (-1) then 0 else 1 : Int) = 1 := if_neg h816_
          have e1134_ : S 1100007 (g63 1100023 (g63 1046 0)) = S 1100007 (S 1100023 (S 1046 0)) := congrArg ((S 1100007)) (la_give_36 h1086_ (sm_nt_19 : sm_nt 19 (g7 1046 0) (g7 1100023 (g7 1046 0)) (g7 1100023 (g7 1100023 (g7 1046 0))) = g7 1100023 (g7 1046 0)) h1103_)
          have e1135_ : S 1100007 (g63 1100025 (g63 1046 0)) = S 1100007 (S 1100025 (S 1046 0)) := congrArg ((S 1100007)) (la_give_36 h1088_ (sm_nl_19 : sm_nl 19 (g7 1046 0) (g7 1100007 (g7 1046 0)) (g7 1100025 (g7 1046 0)) (g7 1100007 (g7 1100025 (g7 1046 0))) (g7 1100025 (g7 1100025 (g7 1046 0))) = g7 1100025 (g7 1046 0)) h1105_)
          have e1136_ : S 1100007 (g7 1100023 (g7 1046 0)) = S 1100007 (S 1100023 (S 1046 0)) := congrArg ((S 1100007)) h1103_
          have e1137_ : S 1100007 (g7 1100023 (g7 1046 0)) = S 1100007 (g63 1100023 (g63 1046 0)) := congrArg ((S 1100007)) (la_give_188 h1086_ (sm_nt_19 : sm_nt 19 (g7 1046 0) (g7 1100023 (g7 1046 0)) (g7 1100023 (g7 1100023 (g7 1046 0))) = g7 1100023 (g7 1046 0)))
          have e1138_ : S 1100007 (g7 1100025 (g7 1046 0)) = S 1100007 (S 1100025 (S 1046 0)) := congrArg ((S 1100007)) h1105_
          have e1139_ : S 1100007 (g7 1100025 (g7 1046 0)) = S 1100007 (g63 1100025 (g63 1046 0)) := congrArg ((S 1100007)) (la_give_188 h1088_ (sm_nl_19 : sm_nl 19 (g7 1046 0) (g7 1100007 (g7 1046 0)) (g7 1100025 (g7 1046 0)) (g7 1100007 (g7 1100025 (g7 1046 0))) (g7 1100025 (g7 1100025 (g7 1046 0))) = g7 1100025 (g7 1046 0)))
          have e1140_ : S 1100007 (g70 1100023 (g70 1046 0)) = S 1100007 (S 1100023 (S 1046 0)) := congrArg ((S 1100007)) (la_give_189 h1070_ (sm_nt_10 : sm_nt 10 (g63 1046 0) (g63 1100023 (g63 1046 0)) (g63 1100023 (g63 1100023 (g63 1046 0))) = g63 1100023 (g63 1046 0)) h1086_ (sm_nt_19 : sm_nt 19 (g7 1046 0) (g7 1100023 (g7 1046 0)) (g7 1100023 (g7 1100023 (g7 1046 0))) = g7 1100023 (g7 1046 0)) h1103_)
          have e1141_ : S 1100007 (g70 1100023 (g70 1046 0)) = S 1100007 (g63 1100023 (g63 1046 0)) := congrArg ((S 1100007)) (la_give_95 h1070_ (sm_nt_10 : sm_nt 10 (g63 1046 0) (g63 1100023 (g63 1046 0)) (g63 1100023 (g63 1100023 (g63 1046 0))) = g63 1100023 (g63 1046 0)))
          have e1142_ : S 1100007 (g70 1100023 (g70 1046 0)) = S 1100007 (g7 1100023 (g7 1046 0)) := congrArg ((S 1100007)) (la_give_129 h1070_ (sm_nt_10 : sm_nt 10 (g63 1046 0) (g63 1100023 (g63 1046 0)) (g63 1100023 (g63 1100023 (g63 1046 0))) = g63 1100023 (g63 1046 0)) h1086_ (sm_nt_19 : sm_nt 19 (g7 1046 0) (g7 1100023 (g7 1046 0)) (g7 1100023 (g7 1100023 (g7 1046 0))) = g7 1100023 (g7 1046 0)))
          have e1143_ : S 1100007 (g70 1100025 (g70 1046 0)) = S 1100007 (S 1100025 (S 1046 0)) := congrArg ((S 1100007)) (la_give_189 h1072_ (sm_nl_10 : sm_nl 10 (g63 1046 0) (g63 1100007 (g63 1046 0)) (g63 1100025 (g63 1046 0)) (g63 1100007 (g63 1100025 (g63 1046 0))) (g63 1100025 (g63 1100025 (g63 1046 0))) = g63 1100025 (g63 1046 0)) h1088_ (sm_nl_19 : sm_nl 19 (g7 1046 0) (g7 1100007 (g7 1046 0)) (g7 1100025 (g7 1046 0)) (g7 1100007 (g7 1100025 (g7 1046 0))) (g7 1100025 (g7 1100025 (g7 1046 0))) = g7 1100025 (g7 1046 0)) h1105_)
          have e1144_ : S 1100007 (g70 1100025 (g70 1046 0)) = S 1100007 (g63 1100025 (g63 1046 0)) := congrArg ((S 1100007)) (la_give_95 h1072_ (sm_nl_10 : sm_nl 10 (g63 1046 0) (g63 1100007 (g63 1046 0)) (g63 1100025 (g63 1046 0)) (g63 1100007 (g63 1100025 (g63 1046 0))) (g63 1100025 (g63 1100025 (g63 1046 0))) = g63 1100025 (g63 1046 0)))
          have e1145_ : S 1100007 (g70 1100025 (g70 1046 0)) = S 1100007 (g7 1100025 (g7 1046 0)) := congrArg ((S 1100007)) (la_give_129 h1072_ (sm_nl_10 : sm_nl 10 (g63 1046 0) (g63 1100007 (g63 1046 0)) (g63 1100025 (g63 1046 0)) (g63 1100007 (g63 1100025 (g63 1046 0))) (g63 1100025 (g63 1100025 (g63 1046 0))) = g63 1100025 (g63 1046 0)) h1088_ (sm_nl_19 : sm_nl 19 (g7 1046 0) (g7 1100007 (g7 1046 0)) (g7 1100025 (g7 1046 0)) (g7 1100007 (g7 1100025 (g7 1046 0))) (g7 1100025 (g7 1100025 (g7 1046 0))) = g7 1100025 (g7 1046 0)))
          have e1146_ : g63 1100007 (g70 1100023 (g70 1046 0)) = g63 1100007 (g63 1100023 (g63 1046 0)) := congrArg ((g63 1100007)) (la_give_95 h1070_ (sm_nt_10 : sm_nt 10 (g63 1046 0) (g63 1100023 (g63 1046 0)) (g63 1100023 (g63 1100023 (g63 1046 0))) = g63 1100023 (g63 1046 0)))
          have e1147_ : g63 1100007 (g70 1100025 (g70 1046 0)) = g63 1100007 (g63 1100025 (g63 1046 0)) := congrArg ((g63 1100007)) (la_give_95 h1072_ (sm_nl_10 : sm_nl 10 (g63 1046 0) (g63 1100007 (g63 1046 0)) (g63 1100025 (g63 1046 0)) (g63 1100007 (g63 1100025 (g63 1046 0))) (g63 1100025 (g63 1100025 (g63 1046 0))) = g63 1100025 (g63 1046 0)))
          have e1148_ : g7 1100007 (g7 1100023 (g7 1046 0)) = g7 1100007 (g63 1100023 (g63 1046 0)) := congrArg ((g7 1100007)) (la_give_188 h1086_ (sm_nt_19 : sm_nt 19 (g7 1046 0) (g7 1100023 (g7 1046 0)) (g7 1100023 (g7 1100023 (g7 1046 0))) = g7 1100023 (g7 1046 0)))
          have e1149_ : g7 1100007 (g7 1100025 (g7 1046 0)) = g7 1100007 (g63 1100025 (g63 1046 0)) := congrArg ((g7 1100007)) (la_give_188 h1088_ (sm_nl_19 : sm_nl 19 (g7 1046 0) (g7 1100007 (g7 1046 0)) (g7 1100025 (g7 1046 0)) (g7 1100007 (g7 1100025 (g7 1046 0))) (g7 1100025 (g7 1100025 (g7 1046 0))) = g7 1100025 (g7 1046 0)))
          have e1150_ : g7 1100007 (g70 1100023 (g70 1046 0)) = g7 1100007 (g63 1100023 (g63 1046 0)) := congrArg ((g7 1100007)) (la_give_95 h1070_ (sm_nt_10 : sm_nt 10 (g63 1046 0) (g63 1100023 (g63 1046 0)) (g63 1100023 (g63 1100023 (g63 1046 0))) = g63 1100023 (g63 1046 0)))
          have e1151_ : g7 1100007 (g70 1100023 (g70 1046 0)) = g7 1100007 (g7 1100023 (g7 1046 0)) := congrArg ((g7 1100007)) (la_give_129 h1070_ (sm_nt_10 : sm_nt 10 (g63 1046 0) (g63 1100023 (g63 1046 0)) (g63 1100023 (g63 1100023 (g63 1046 0))) = g63 1100023 (g63 1046 0)) h1086_ (sm_nt_19 : sm_nt 19 (g7 1046 0) (g7 1100023 (g7 1046 0)) (g7 1100023 (g7 1100023 (g7 1046 0))) = g7 1100023 (g7 1046 0)))
          have e1152_ : g7 1100007 (g70 1100025 (g70 1046 0)) = g7 1100007 (g63 1100025 (g63 1046 0)) := congrArg ((g7 1100007)) (la_give_95 h1072_ (sm_nl_10 : sm_nl 10 (g63 1046 0) (g63 1100007 (g63 1046 0)) (g63 1100025 (g63 1046 0)) (g63 1100007 (g63 1100025 (g63 1046 0))) (g63 1100025 (g63 1100025 (g63 1046 0))) = g63 1100025 (g63 1046 0)))
          have e1153_ : g7 1100007 (g70 1100025 (g70 1046 0)) = g7 1100007 (g7 1100025 (g7 1046 0)) := congrArg ((g7 1100007)) (la_give_129 h1072_ (sm_nl_10 : sm_nl 10 (g63 1046 0) (g63 1100007 (g63 1046 0)) (g63 1100025 (g63 1046 0)) (g63 1100007 (g63 1100025 (g63 1046 0))) (g63 1100025 (g63 1100025 (g63 1046 0))) = g63 1100025 (g63 1046 0)) h1088_ (sm_nl_19 : sm_nl 19 (g7 1046 0) (g7 1100007 (g7 1046 0)) (g7 1100025 (g7 1046 0)) (g7 1100007 (g7 1100025 (g7 1046 0))) (g7 1100025 (g7 1100025 (g7 1046 0))) = g7 1100025 (g7 1046 0)))
          exact (la_give_196 h1069_ (sm_dl_10 : sm_dl 10 0 = (-1)) h1085_ (sm_dl_19 : sm_dl 19 0 = 2) h1102_ e1133_)
        refine ⟨(la_give_189 h1070_ (sm_nt_10 : sm_nt 10 (g63 1046 0) (g63 1100023 (g63 1046 0)) (g63 1100023 (g63 1100023 (g63 1046 0))) = g63 1100023 (g63 1046 0)) h1086_ (sm_nt_19 : sm_nt 19 (g7 1046 0) (g7 1100023 (g7 1046 0)) (g7 1100023 (g7 1100023 (g7 1046 0))) = g7 1100023 (g7 1046 0)) h1103_), ?_⟩
        refine ⟨(la_give_189 h1071_ (sm_nd_10 : sm_nd 10 (g63 1100024 (g63 1046 0)) = g63 1100024 (g63 1046 0)) h1087_ (sm_nd_19 : sm_nd 19 (g7 1100024 (g7 1046 0)) = g7 1100024 (g7 1046 0)) h1104_), ?_⟩
        refine ⟨(la_give_189 h1072_ (sm_nl_10 : sm_nl 10 (g63 1046 0) (g63 1100007 (g63 1046 0)) (g63 1100025 (g63 1046 0)) (g63 1100007 (g63 1100025 (g63 1046 0))) (g63 1100025 (g63 1100025 (g63 1046 0))) = g63 1100025 (g63 1046 0)) h1088_ (sm_nl_19 : sm_nl 19 (g7 1046 0) (g7 1100007 (g7 1046 0)) (g7 1100025 (g7 1046 0)) (g7 1100007 (g7 1100025 (g7 1046 0))) (g7 1100025 (g7 1100025 (g7 1046 0))) = g7 1100025 (g7 1046 0)) h1105_), ?_⟩
        refine ⟨(la_give_189 h1073_ (sm_nt_10 : sm_nt 10 (g63 1100007 (g63 1046 0)) (g63 1100007 (g63 1100023 (g63 1046 0))) (g63 1100007 (g63 1100023 (g63 1100023 (g63 1046 0)))) = g63 1100007 (g63 1100023 (g63 1046 0))) h1089_ (sm_nt_19 : sm_nt 19 (g7 1100007 (g7 1046 0)) (g7 1100007 (g7 1100023 (g7 1046 0))) (g7 1100007 (g7 1100023 (g7 1100023 (g7 1046 0)))) = g7 1100007 (g7 1100023 (g7 1046 0))) h1106_), ?_⟩
        refine ⟨(la_give_197 h1093_ h1107_ h1111_), ?_⟩
        refine ⟨h1108_, ?_⟩
        refine ⟨(sm_HB_1 (by rw [((sm_F1_at h1056_ (S 1046 0) (la_give_198 e103_ h1080_ h1100_)).trans ((sm_F1_at h886_ (S 1046 0) (la_give_199 e103_ h1100_)).trans ((sm_F1_at h87_ (S 1046 0) la_give_39).trans rfl)))]; exact (la_give_200 h64_ h68_ e103_ h1064_ h1080_ h1100_)) (sm_HB_s (sm_HB_F h1109_ (sm_F1_tr (sm_F1_le h886_ la_give_42) h1056_ (la_give_205 h1080_)) (Int.le_refl _) la_give_42 (Int.le_refl _) (la_give_204 h1064_ h1080_)) (sm_HB_1 (by rw [((sm_F1_at h1056_ (g7 1046 0) (la_give_206 h1080_)).trans ((sm_F1_at h886_ (g7 1046 0) la_give_39).trans rfl))]; exact (la_give_207 h64_ h68_ e103_ h1064_ h1080_ h1100_ h1102_)) (sm_HB_1 (by rw [((sm_F1_at h1056_ (g7 1046 0 + 1) (la_give_208 h1080_)).trans ((congrArg (g63 1100007) (la_give_194 h878_ h1080_)).trans h1085_))]; exact (la_give_209 h64_ h68_ e103_ h1064_ h1080_ (sm_dl_19 : sm_dl 19 0 = 2) h1100_ h1102_)) (sm_HB_0 (la_give_195 h878_ h1048_)))))), ?_⟩
        refine ⟨(la_give_210 h1064_ h1080_ h1110_), ?_⟩
        exact trivial
      intro h1154_
      intro h1155_
      have h1156_ := (h1155_ h5_)
      have h1157_ := (h1156_ h24_)
      have h1158_ := (h1157_ h25_)
      have h1159_ := (h1158_ h26_)
      have h1160_ := (h1159_ (la_give_49 (la_give_48 la_give_47 h1154_)))
      intro h1161_
      have h1162_ := (h1161_ h1160_)
      obtain ⟨h1163_, h1164_⟩ := (h1162_ h6_)
      refine ⟨(la_give_50 (la_give_48 la_give_47 h1154_)), ?_⟩
      refine ⟨(la_give_51 (la_give_48 la_give_47 h1154_)), ?_⟩
      refine ⟨?_, ?_⟩
      · skip
        refine ⟨h75_, ?_⟩
        refine ⟨h76_, ?_⟩
        refine ⟨h77_, ?_⟩
        refine ⟨h78_, ?_⟩
        refine ⟨h13_, ?_⟩
        refine ⟨h14_, ?_⟩
        refine ⟨h12_, ?_⟩
        refine ⟨h15_, ?_⟩
        refine ⟨la_give_211, ?_⟩
        intro h1165_
        obtain ⟨h1166_, ⟨h1167_, ⟨h1168_, ⟨h1169_, ⟨h1170_, ⟨h1171_, ⟨h1172_, ⟨h1173_, ⟨h1174_, ⟨h1175_, ⟨h1176_, ⟨h1177_, ⟨h1178_, ⟨h1179_, ⟨h1180_, ⟨h1181_, -⟩⟩⟩⟩⟩⟩⟩⟩⟩⟩⟩⟩⟩⟩⟩⟩ := (h102_ h1165_)
        have e1182_ : (if S 1100002 p2 ≤ S 1100002 p3 then S 1100002 p3 else S 1100002 p2 : Int) = S 1100002 p3 := if_pos (la_give_53 (la_give_48 la_give_47 h1154_))
        have e1183_ : (if S 1100005 p2 ≤ S 1100005 p3 + 1 then S 1100005 p3 + 1 else S 1100005 p2 : Int) = S 1100005 p3 + 1 := if_pos (la_give_54 (la_give_48 la_give_47 h1154_))
        have h1184_ := (h38_ (la_give_55 (la_give_48 la_give_47 h1154_)))
        have h1185_ := (h39_ (la_give_55 (la_give_48 la_give_47 h1154_)))
        have h1186_ := (h62_ (la_give_56 (la_give_48 la_give_47 h1154_)))
        have h1187_ := (h63_ (la_give_57 (la_give_48 la_give_47 h1154_)))
        refine ⟨h1167_, ?_⟩
        refine ⟨(la_give_55 (la_give_48 la_give_47 h1154_)), ?_⟩
        refine ⟨(la_give_58 (la_give_48 la_give_47 h1154_)), ?_⟩
        refine ⟨(la_give_212 (la_give_48 la_give_47 h1154_)), ?_⟩
        intro h1188_
        refine ⟨(la_give_60 (la_give_48 la_give_47 h1154_)), ?_⟩
        refine ⟨(la_give_61 (la_give_48 la_give_47 h1154_)), ?_⟩
        intro h1189_
        exact (la_give_62 (la_give_48 la_give_47 h1154_))
      refine ⟨(la_give_63 (la_give_48 la_give_47 h1154_)), ?_⟩
      intro g82
      rintro ⟨h1190_, ⟨h1191_, ⟨h1192_, ⟨h1193_, ⟨h1194_, ⟨h1195_, ⟨h1196_, ⟨h1197_, ⟨h1198_, ⟨h1199_, ⟨h1200_, ⟨h1201_, ⟨h1202_, ⟨h1203_, ⟨h1204_, ⟨h1205_, h1206_⟩⟩⟩⟩⟩⟩⟩⟩⟩⟩⟩⟩⟩⟩⟩⟩
      have e1207_ : (if (1 : Int) = 1 then 1 else 0 : Int) = 1 := if_pos la_give_213
      have e1208_ : (if S 1100002 p2 ≤ S 1100002 p3 then S 1100002 p3 else S 1100002 p2 : Int) = S 1100002 p3 := if_pos (la_give_53 (la_give_48 la_give_47 h1154_))
      have e1209_ : (if S 1100005 p2 ≤ S 1100005 p3 + 1 then S 1100005 p3 + 1 else S 1100005 p2 : Int) = S 1100005 p3 + 1 := if_pos (la_give_54 (la_give_48 la_give_47 h1154_))
      have h1210_ := (h38_ (la_give_55 (la_give_48 la_give_47 h1154_)))
      have h1211_ := (h39_ (la_give_55 (la_give_48 la_give_47 h1154_)))
      have h1212_ := (h62_ (la_give_56 (la_give_48 la_give_47 h1154_)))
      have h1213_ := (h63_ (la_give_57 (la_give_48 la_give_47 h1154_)))
      have h1214_ := (h1196_ (la_give_65 (la_give_48 la_give_47 h1154_)))
      have h1215_ := (h1197_ h1214_)
      obtain ⟨h1216_, ⟨h1217_, ⟨h1218_, ⟨h1219_, ⟨h1220_, ⟨h1221_, ⟨h1222_, ⟨h1223_, ⟨h1224_, ⟨h1225_, ⟨h1226_, ⟨h1227_, ⟨h1228_, ⟨h1229_, ⟨h1230_, ⟨h1231_, -⟩⟩⟩⟩⟩⟩⟩⟩⟩⟩⟩⟩⟩⟩⟩⟩ := (h102_ (la_give_66 (la_give_48 la_give_47 h1154_)))
      obtain ⟨h1232_, ⟨h1233_, ⟨h1234_, ⟨h1235_, ⟨h1236_, ⟨h1237_, ⟨h1238_, ⟨h1239_, ⟨h1240_, ⟨h1241_, ⟨h1242_, h1243_⟩⟩⟩⟩⟩⟩⟩⟩⟩⟩⟩ := (h1206_ (la_give_66 (la_give_48 la_give_47 h1154_)))
      have h1244_ := (h1215_.resolve_left (la_give_67 (la_give_48 la_give_47 h1154_)))
      have h1245_ := (h1236_.resolve_left (la_give_67 (la_give_48 la_give_47 h1154_)))
      refine ⟨(sm_KC_n h1234_).1.1, ?_⟩
      refine ⟨h1195_, ?_⟩
      refine ⟨h1190_, ?_⟩
      refine ⟨h1191_, ?_⟩
      refine ⟨h79_, ?_⟩
      refine ⟨h80_, ?_⟩
      refine ⟨(la_give_53 (la_give_48 la_give_47 h1154_)), ?_⟩
      refine ⟨(la_give_69 (la_give_48 la_give_47 h1154_)), ?_⟩
      refine ⟨(sm_F1_tr (sm_F1_le h83_ (Int.le_refl _)) h1198_ h81_), ?_⟩
      refine ⟨(sm_F1_tr (sm_F1_le h84_ (Int.le_refl _)) h1199_ h81_), ?_⟩
      refine ⟨(sm_F1_tr (sm_F1_le h85_ (Int.le_refl _)) h1200_ h81_), ?_⟩
      refine ⟨(sm_F1_tr (sm_F1_le h86_ (Int.le_refl _)) h1201_ h81_), ?_⟩
      refine ⟨(sm_F1_tr (sm_F1_le h87_ (Int.le_refl _)) h1202_ (la_give_70 (la_give_48 la_give_47 h1154_))), ?_⟩
      refine ⟨(sm_F1_tr (sm_F1_le h88_ (Int.le_refl _)) h1203_ (la_give_70 (la_give_48 la_give_47 h1154_))), ?_⟩
      refine ⟨(sm_F1_tr (sm_F1_le h89_ (Int.le_refl _)) h1204_ (la_give_70 (la_give_48 la_give_47 h1154_))), ?_⟩
      refine ⟨(sm_F1_tr (sm_F1_le h90_ (Int.le_refl _)) h1205_ (la_give_70 (la_give_48 la_give_47 h1154_))), ?_⟩
      refine ⟨h91_, ?_⟩
      refine ⟨h92_, ?_⟩
      refine ⟨h93_, ?_⟩
      refine ⟨h94_, ?_⟩
      refine ⟨h95_, ?_⟩
      refine ⟨h96_, ?_⟩
      refine ⟨h97_, ?_⟩
      refine ⟨h98_, ?_⟩
      refine ⟨h99_, ?_⟩
      refine ⟨h100_, ?_⟩
      refine ⟨h101_, ?_⟩
      intro h1246_
      refine ⟨h33_, ?_⟩
      refine ⟨h1234_, ?_⟩
      refine ⟨h1218_, ?_⟩
      refine ⟨h1219_, ?_⟩
      refine ⟨(la_give_53 (la_give_48 la_give_47 h1154_)), ?_⟩
      refine ⟨(la_give_214 (la_give_48 la_give_47 h1154_)), ?_⟩
      refine ⟨(sm_FC_0 (la_give_53 (la_give_48 la_give_47 h1154_))), ?_⟩
      refine ⟨(la_give_215 (la_give_48 la_give_47 h1154_)), ?_⟩
      refine ⟨(la_give_73 (la_give_48 la_give_47 h1154_)), ?_⟩
      refine ⟨(la_give_73 (la_give_48 la_give_47 h1154_)), ?_⟩
      refine ⟨(la_give_73 (la_give_48 la_give_47 h1154_)), ?_⟩
      refine ⟨(la_give_73 (la_give_48 la_give_47 h1154_)), ?_⟩
      refine ⟨(la_give_73 (la_give_48 la_give_47 h1154_)), ?_⟩
      refine ⟨h1229_, ?_⟩
      refine ⟨(sm_HB_0 (la_give_53 (la_give_48 la_give_47 h1154_))), ?_⟩
      refine ⟨(la_give_74 (la_give_48 la_give_47 h1154_)), ?_⟩
      exact trivial
    refine ⟨?_, ?_⟩
    · skip
      intro h1247_
      refine ⟨la_give_216, ?_⟩
      refine ⟨la_give_217, ?_⟩
      refine ⟨(la_give_218 (la_give_48 la_give_47 h1247_)), ?_⟩
      refine ⟨h16_, ?_⟩
      refine ⟨h17_, ?_⟩
      refine ⟨h18_, ?_⟩
      refine ⟨h19_, ?_⟩
      refine ⟨h20_, ?_⟩
      refine ⟨h21_, ?_⟩
      refine ⟨la_give_219, ?_⟩
      refine ⟨(la_give_220 (la_give_48 la_give_47 h1247_)), ?_⟩
      refine ⟨sm_F1_rf, ?_⟩
      refine ⟨sm_F1_rf, ?_⟩
      refine ⟨sm_F1_rf, ?_⟩
      refine ⟨sm_F1_rf, ?_⟩
      refine ⟨sm_F1_rf, ?_⟩
      refine ⟨sm_F1_rf, ?_⟩
      refine ⟨sm_F1_rf, ?_⟩
      refine ⟨sm_F1_rf, ?_⟩
      refine ⟨sm_F1_rf, ?_⟩
      refine ⟨sm_F1_rf, ?_⟩
      refine ⟨sm_F1_rf, ?_⟩
      refine ⟨sm_F1_rf, ?_⟩
      refine ⟨sm_F1_rf, ?_⟩
      refine ⟨sm_F1_rf, ?_⟩
      refine ⟨la_give_219, ?_⟩
      refine ⟨la_give_221, ?_⟩
      refine ⟨sm_F1_rf, ?_⟩
      refine ⟨la_give_222, ?_⟩
      refine ⟨(la_give_223 (la_give_48 la_give_47 h1247_)), ?_⟩
      intro h1248_
      refine ⟨h33_, ?_⟩
      refine ⟨h34_, ?_⟩
      refine ⟨h35_, ?_⟩
      refine ⟨h36_, ?_⟩
      refine ⟨h37_, ?_⟩
      refine ⟨(la_give_224 (la_give_48 la_give_47 h1247_)), ?_⟩
      refine ⟨(sm_FC_0 la_give_219), ?_⟩
      refine ⟨(la_give_225 (la_give_48 la_give_47 h1247_)), ?_⟩
      refine ⟨la_give_221, ?_⟩
      refine ⟨la_give_221, ?_⟩
      refine ⟨la_give_221, ?_⟩
      refine ⟨la_give_221, ?_⟩
      refine ⟨la_give_221, ?_⟩
      refine ⟨(sm_AP_0 la_give_219), ?_⟩
      refine ⟨(sm_HB_0 la_give_219), ?_⟩
      refine ⟨la_give_226, ?_⟩
      exact trivial
    intro h1249_
    intro h1250_
    have h1251_ := (h1250_ h5_)
    have h1252_ := (h1251_ h24_)
    have h1253_ := (h1252_ h25_)
    have h1254_ := (h1253_ h26_)
    obtain ⟨h1255_, ⟨h1256_, ⟨h1257_, h1258_⟩⟩⟩ := (h1254_ h71_)
    intro h1259_
    have h1260_ := (h1259_ h5_)
    have h1261_ := (h1260_ (sm_ex_e h1255_).1)
    obtain ⟨h1262_, ⟨h1263_, ⟨h1264_, h1265_⟩⟩⟩ := (h1261_ (sm_ex_e h1255_).2.1)
    obtain ⟨h1266_, ⟨h1267_, ⟨h1268_, h1269_⟩⟩⟩ := (h1262_ (sm_ex_e h1255_).2.2.1)
    intro h1270_
    have h1271_ := (h1270_ h5_)
    have h1272_ := (h1271_ (sm_ex_e h1257_).1)
    obtain ⟨h1273_, ⟨h1274_, ⟨h1275_, h1276_⟩⟩⟩ := (h1272_ (sm_ex_e h1257_).2.1)
    obtain ⟨h1277_, ⟨h1278_, ⟨h1279_, h1280_⟩⟩⟩ := (h1273_ (sm_ex_e h1257_).2.2.1)
    intro h1281_
    intro h1282_
    refine ⟨(la_give_227 h10_ h25_ (sm_ex_e h1255_).1 h1256_), ?_⟩
    refine ⟨(la_give_228 h17_ h50_ h65_), ?_⟩
    refine ⟨?_, ?_⟩
    · skip
      refine ⟨h5_, ?_⟩
      refine ⟨h6_, ?_⟩
      refine ⟨h7_, ?_⟩
      refine ⟨h8_, ?_⟩
      refine ⟨h9_, ?_⟩
      refine ⟨h10_, ?_⟩
      refine ⟨h11_, ?_⟩
      refine ⟨h12_, ?_⟩
      refine ⟨h13_, ?_⟩
      refine ⟨h14_, ?_⟩
      refine ⟨h15_, ?_⟩
      refine ⟨h16_, ?_⟩
      refine ⟨h17_, ?_⟩
      refine ⟨h18_, ?_⟩
      refine ⟨h19_, ?_⟩
      refine ⟨h20_, ?_⟩
      refine ⟨h21_, ?_⟩
      refine ⟨?_, ?_⟩
      · skip
        have e1283_ : S 12 (5 * p2 + 0) = S 12 (5 * p2) := congrArg ((S 12)) la_give_229
        exact (la_give_230 (sm_ex_e h1255_).1 e1283_)
      refine ⟨?_, ?_⟩
      · skip
        have e1284_ : S 12 (5 * p2 + 0) = S 12 (5 * p2) := congrArg ((S 12)) la_give_229
        exact (la_give_231 h25_ h1256_ e1284_)
      refine ⟨?_, ?_⟩
      · skip
        have e1285_ : S 12 (5 * p2 + 0) = S 12 (5 * p2) := congrArg ((S 12)) la_give_229
        have e1286_ : S 1100001 (S 12 (5 * p2 + 0)) = S 1100001 (S 12 (5 * p2)) := congrArg ((S 1100001)) e1285_
        have e1287_ : S 1100002 (S 12 (5 * p2 + 0)) = S 1100002 (S 12 (5 * p2)) := congrArg ((S 1100002)) e1285_
        have e1288_ : S 1100005 (S 12 (5 * p2 + 0)) = S 1100005 (S 12 (5 * p2)) := congrArg ((S 1100005)) e1285_
        exact (la_give_232 (sm_ex_e h1255_).2.2.1 e1286_)
      refine ⟨?_, ?_⟩
      · skip
        have e1289_ : S 12 (5 * p2 + 0) = S 12 (5 * p2) := congrArg ((S 12)) la_give_229
        exact (sm_LF_w h31_ sm_F1_rf (Int.le_refl _) (Int.le_refl _) h21_ (la_give_233 (sm_ex_e h1255_).2.2.2.1 h1256_ h1282_ e1289_))
      intro h1290_
      refine ⟨h34_, ?_⟩
      refine ⟨h35_, ?_⟩
      refine ⟨h36_, ?_⟩
      refine ⟨h37_, ?_⟩
      refine ⟨h38_, ?_⟩
      refine ⟨h39_, ?_⟩
      refine ⟨h40_, ?_⟩
      exact (la_give_234 h41_ h65_ (sm_ex_e h1255_).2.2.2.1 h1282_)
    refine ⟨?_, ?_⟩
    · skip
      refine ⟨?_, ?_⟩
      · skip
        have e1291_ : (if S 1047 0 = 0 then S 1100002 (S 12 (5 * p2 + 0)) + (600 - S 1046 0) + 8 else 4 : Int) = S 1100002 (S 12 (5 * p2 + 0)) + (600 - S 1046 0) + 8 := if_pos h33_
        have e1292_ : S 12 (5 * p2 + 0) = S 12 (5 * p2) := congrArg ((S 12)) la_give_229
        exact (la_give_235 h17_ h1266_ h1282_ e1291_)
      have e1293_ : (if S 1047 0 = 0 then S 1100002 (S 12 (5 * p2 + 0)) + (600 - S 1046 0) + 8 else 4 : Int) = S 1100002 (S 12 (5 * p2 + 0)) + (600 - S 1046 0) + 8 := if_pos h33_
      have e1294_ : S 12 (5 * p2 + 0) = S 12 (5 * p2) := congrArg ((S 12)) la_give_229
      exact (la_give_236 h42_ h65_ (sm_ex_e h1255_).2.2.2.1 h1282_ e1293_)
    refine ⟨?_, ?_⟩
    · skip
      refine ⟨?_, ?_⟩
      · skip
        have e1295_ : (if S 1047 0 = 0 then S 1100002 (S 12 (5 * p2 + 0)) + (600 - S 1046 0) + 8 else 4 : Int) = S 1100002 (S 12 (5 * p2 + 0)) + (600 - S 1046 0) + 8 := if_pos h33_
        have e1296_ : S 12 (5 * p2 + 0) = S 12 (5 * p2) := congrArg ((S 12)) la_give_229
        exact (la_give_235 h17_ h1266_ h1282_ e1295_)
      have e1297_ : (if S 1047 0 = 0 then S 1100002 (S 12 (5 * p2 + 0)) + (600 - S 1046 0) + 8 else 4 : Int) = S 1100002 (S 12 (5 * p2 + 0)) + (600 - S 1046 0) + 8 := if_pos h33_
      have e1298_ : S 12 (5 * p2 + 0) = S 12 (5 * p2) := congrArg ((S 12)) la_give_229
      exact (la_give_237 h65_ (sm_ex_e h1255_).2.2.2.1 h1282_ e1297_)
    intro g99
    rintro ⟨h1299_, ⟨h1300_, ⟨h1301_, ⟨h1302_, ⟨h1303_, ⟨h1304_, ⟨h1305_, ⟨h1306_, ⟨h1307_, ⟨h1308_, ⟨h1309_, ⟨h1310_, ⟨h1311_, ⟨h1312_, ⟨h1313_, ⟨h1314_, ⟨h1315_, ⟨h1316_, ⟨h1317_, ⟨h1318_, ⟨h1319_, ⟨h1320_, ⟨h1321_, ⟨h1322_, ⟨h1323_, ⟨h1324_, ⟨h1325_, h1326_⟩⟩⟩⟩⟩⟩⟩⟩⟩⟩⟩⟩⟩⟩⟩⟩⟩⟩⟩⟩⟩⟩⟩⟩⟩⟩⟩
    have h1327_ := (h1325_ h33_)
    refine ⟨(la_give_238 h10_ h25_ (sm_ex_e h1255_).1 h1256_), ?_⟩
    refine ⟨?_, ?_⟩
    · skip
      refine ⟨h5_, ?_⟩
      refine ⟨h6_, ?_⟩
      refine ⟨h7_, ?_⟩
      refine ⟨h8_, ?_⟩
      refine ⟨h9_, ?_⟩
      refine ⟨h10_, ?_⟩
      refine ⟨h11_, ?_⟩
      refine ⟨h12_, ?_⟩
      refine ⟨h13_, ?_⟩
      refine ⟨h14_, ?_⟩
      refine ⟨h15_, ?_⟩
      refine ⟨h1299_, ?_⟩
      refine ⟨h1300_, ?_⟩
      refine ⟨h1301_, ?_⟩
      refine ⟨h1302_, ?_⟩
      refine ⟨h1303_, ?_⟩
      refine ⟨h1304_, ?_⟩
      refine ⟨(sm_ex_e h1257_).1, ?_⟩
      refine ⟨(sm_ex_e h1257_).2.1, ?_⟩
      refine ⟨(sm_ex_e h1257_).2.2.1, ?_⟩
      refine ⟨(sm_LF_w h31_ (sm_F1_le h1323_ (la_give_75 h1322_)) (Int.le_refl _) (la_give_75 h1322_) h1304_ (la_give_239 (sm_ex_e h1257_).2.2.2.1 h1258_)), ?_⟩
      intro h1328_
      obtain ⟨h1329_, ⟨h1330_, ⟨h1331_, ⟨h1332_, ⟨h1333_, ⟨h1334_, ⟨h1335_, ⟨h1336_, ⟨h1337_, ⟨h1338_, ⟨h1339_, ⟨h1340_, ⟨h1341_, ⟨h1342_, ⟨h1343_, ⟨h1344_, -⟩⟩⟩⟩⟩⟩⟩⟩⟩⟩⟩⟩⟩⟩⟩⟩ := (h1326_ h1328_)
      refine ⟨h1330_, ?_⟩
      refine ⟨h1331_, ?_⟩
      refine ⟨h1332_, ?_⟩
      refine ⟨h1333_, ?_⟩
      refine ⟨(la_give_240 h38_ h1336_ h1337_ h1340_), ?_⟩
      refine ⟨(la_give_240 h39_ h1336_ h1339_ h1341_), ?_⟩
      refine ⟨(la_give_241 h40_ h1334_ h1336_), ?_⟩
      exact (la_give_242 h41_ h65_ (sm_ex_e h1257_).2.2.2.1 h1344_)
    refine ⟨?_, ?_⟩
    · skip
      refine ⟨?_, ?_⟩
      · skip
        have e1345_ : S 12 (5 * p2 + 0) = S 12 (5 * p2) := congrArg ((S 12)) la_give_229
        have e1346_ : S 1100002 (S 12 (5 * p2 + 0)) = S 1100002 (S 12 (5 * p2)) := congrArg ((S 1100002)) e1345_
        have e1347_ : S 1100005 (S 12 (5 * p2 + 0)) = S 1100005 (S 12 (5 * p2)) := congrArg ((S 1100005)) e1345_
        by_cases c1348_ : g99 1047 0 = 0
        · skip
          have e1349_ : (if g99 1047 0 = 0 then S 1100002 (S 12 (5 * p2 + 1)) + (600 - g99 1046 0) + 8 else 4 : Int) = S 1100002 (S 12 (5 * p2 + 1)) + (600 - g99 1046 0) + 8 := if_pos c1348_
          obtain ⟨h1350_, ⟨h1351_, ⟨h1352_, ⟨h1353_, ⟨h1354_, ⟨h1355_, ⟨h1356_, ⟨h1357_, ⟨h1358_, ⟨h1359_, ⟨h1360_, ⟨h1361_, ⟨h1362_, ⟨h1363_, ⟨h1364_, ⟨h1365_, -⟩⟩⟩⟩⟩⟩⟩⟩⟩⟩⟩⟩⟩⟩⟩⟩ := (h1326_ c1348_)
          exact (la_give_79 h1277_ h1300_ e1349_)
        · skip
          have e1366_ : (if g99 1047 0 = 0 then S 1100002 (S 12 (5 * p2 + 1)) + (600 - g99 1046 0) + 8 else 4 : Int) = 4 := if_neg c1348_
          exact (la_give_81 e1366_)
      have e1367_ : S 12 (5 * p2 + 0) = S 12 (5 * p2) := congrArg ((S 12)) la_give_229
      have e1368_ : S 1100002 (S 12 (5 * p2 + 0)) = S 1100002 (S 12 (5 * p2)) := congrArg ((S 1100002)) e1367_
      have e1369_ : S 1100005 (S 12 (5 * p2 + 0)) = S 1100005 (S 12 (5 * p2)) := congrArg ((S 1100005)) e1367_
      by_cases c1370_ : g99 1047 0 = 0
      · skip
        have e1371_ : (if g99 1047 0 = 0 then S 1100002 (S 12 (5 * p2 + 1)) + (600 - g99 1046 0) + 8 else 4 : Int) = S 1100002 (S 12 (5 * p2 + 1)) + (600 - g99 1046 0) + 8 := if_pos c1370_
        obtain ⟨h1372_, ⟨h1373_, ⟨h1374_, ⟨h1375_, ⟨h1376_, ⟨h1377_, ⟨h1378_, ⟨h1379_, ⟨h1380_, ⟨h1381_, ⟨h1382_, ⟨h1383_, ⟨h1384_, ⟨h1385_, ⟨h1386_, ⟨h1387_, -⟩⟩⟩⟩⟩⟩⟩⟩⟩⟩⟩⟩⟩⟩⟩⟩ := (h1326_ c1370_)
        exact (la_give_243 h42_ h65_ (sm_ex_e h1257_).2.2.2.1 e1371_ h1377_)
      · skip
        have e1388_ : (if g99 1047 0 = 0 then S 1100002 (S 12 (5 * p2 + 1)) + (600 - g99 1046 0) + 8 else 4 : Int) = 4 := if_neg c1370_
        exact (la_give_244 h17_ h42_ h61_ h66_ e1388_)
    refine ⟨?_, ?_⟩
    · skip
      refine ⟨?_, ?_⟩
      · skip
        have e1389_ : S 12 (5 * p2 + 0) = S 12 (5 * p2) := congrArg ((S 12)) la_give_229
        have e1390_ : S 1100002 (S 12 (5 * p2 + 0)) = S 1100002 (S 12 (5 * p2)) := congrArg ((S 1100002)) e1389_
        have e1391_ : S 1100005 (S 12 (5 * p2 + 0)) = S 1100005 (S 12 (5 * p2)) := congrArg ((S 1100005)) e1389_
        by_cases c1392_ : g99 1047 0 = 0
        · skip
          have e1393_ : (if g99 1047 0 = 0 then S 1100002 (S 12 (5 * p2 + 1)) + (600 - g99 1046 0) + 8 else 4 : Int) = S 1100002 (S 12 (5 * p2 + 1)) + (600 - g99 1046 0) + 8 := if_pos c1392_
          obtain ⟨h1394_, ⟨h1395_, ⟨h1396_, ⟨h1397_, ⟨h1398_, ⟨h1399_, ⟨h1400_, ⟨h1401_, ⟨h1402_, ⟨h1403_, ⟨h1404_, ⟨h1405_, ⟨h1406_, ⟨h1407_, ⟨h1408_, ⟨h1409_, -⟩⟩⟩⟩⟩⟩⟩⟩⟩⟩⟩⟩⟩⟩⟩⟩ := (h1326_ c1392_)
          exact (la_give_79 h1277_ h1300_ e1393_)
        · skip
          have e1410_ : (if g99 1047 0 = 0 then S 1100002 (S 12 (5 * p2 + 1)) + (600 - g99 1046 0) + 8 else 4 : Int) = 4 := if_neg c1392_
          exact (la_give_81 e1410_)
      have e1411_ : S 12 (5 * p2 + 0) = S 12 (5 * p2) := congrArg ((S 12)) la_give_229
      have e1412_ : S 1100002 (S 12 (5 * p2 + 0)) = S 1100002 (S 12 (5 * p2)) := congrArg ((S 1100002)) e1411_
      have e1413_ : S 1100005 (S 12 (5 * p2 + 0)) = S 1100005 (S 12 (5 * p2)) := congrArg ((S 1100005)) e1411_
      by_cases c1414_ : 0 ≤ S 1100023 (S 1046 0)
      · skip
        have h1415_ := (h38_ c1414_)
        by_cases c1418_ : g99 1047 0 = 0
        · skip
          have e1419_ : (if g99 1047 0 = 0 then S 1100002 (S 12 (5 * p2 + 1)) + (600 - g99 1046 0) + 8 else 4 : Int) = S 1100002 (S 12 (5 * p2 + 1)) + (600 - g99 1046 0) + 8 := if_pos c1418_
          obtain ⟨h1420_, ⟨h1421_, ⟨h1422_, ⟨h1423_, ⟨h1424_, ⟨h1425_, ⟨h1426_, ⟨h1427_, ⟨h1428_, ⟨h1429_, ⟨h1430_, ⟨h1431_, ⟨h1432_, ⟨h1433_, ⟨h1434_, ⟨h1435_, -⟩⟩⟩⟩⟩⟩⟩⟩⟩⟩⟩⟩⟩⟩⟩⟩ := (h1326_ c1418_)
          exact (la_give_245 h65_ (sm_ex_e h1257_).2.2.2.1 e1419_ h1425_)
        · skip
          have e1436_ : (if g99 1047 0 = 0 then S 1100002 (S 12 (5 * p2 + 1)) + (600 - g99 1046 0) + 8 else 4 : Int) = 4 := if_neg c1418_
          exact (la_give_246 h17_ h65_ (sm_ex_e h1257_).2.2.2.1 h1277_ e1436_)
      · skip
        by_cases c1439_ : g99 1047 0 = 0
        · skip
          have e1440_ : (if g99 1047 0 = 0 then S 1100002 (S 12 (5 * p2 + 1)) + (600 - g99 1046 0) + 8 else 4 : Int) = S 1100002 (S 12 (5 * p2 + 1)) + (600 - g99 1046 0) + 8 := if_pos c1439_
          obtain ⟨h1441_, ⟨h1442_, ⟨h1443_, ⟨h1444_, ⟨h1445_, ⟨h1446_, ⟨h1447_, ⟨h1448_, ⟨h1449_, ⟨h1450_, ⟨h1451_, ⟨h1452_, ⟨h1453_, ⟨h1454_, ⟨h1455_, ⟨h1456_, -⟩⟩⟩⟩⟩⟩⟩⟩⟩⟩⟩⟩⟩⟩⟩⟩ := (h1326_ c1439_)
          exact (la_give_245 h65_ (sm_ex_e h1257_).2.2.2.1 e1440_ h1446_)
        · skip
          have e1457_ : (if g99 1047 0 = 0 then S 1100002 (S 12 (5 * p2 + 1)) + (600 - g99 1046 0) + 8 else 4 : Int) = 4 := if_neg c1439_
          exact (la_give_246 h17_ h65_ (sm_ex_e h1257_).2.2.2.1 h1277_ e1457_)
    intro g109
    rintro ⟨h1458_, ⟨h1459_, ⟨h1460_, ⟨h1461_, ⟨h1462_, ⟨h1463_, ⟨h1464_, ⟨h1465_, ⟨h1466_, ⟨h1467_, ⟨h1468_, ⟨h1469_, ⟨h1470_, ⟨h1471_, ⟨h1472_, ⟨h1473_, ⟨h1474_, ⟨h1475_, ⟨h1476_, ⟨h1477_, ⟨h1478_, ⟨h1479_, ⟨h1480_, ⟨h1481_, ⟨h1482_, ⟨h1483_, ⟨h1484_, h1485_⟩⟩⟩⟩⟩⟩⟩⟩⟩⟩⟩⟩⟩⟩⟩⟩⟩⟩⟩⟩⟩⟩⟩⟩⟩⟩⟩
    refine ⟨la_give_216, ?_⟩
    refine ⟨la_give_217, ?_⟩
    refine ⟨(la_give_247 h71_), ?_⟩
    refine ⟨h1458_, ?_⟩
    refine ⟨h1459_, ?_⟩
    refine ⟨h1460_, ?_⟩
    refine ⟨h1461_, ?_⟩
    refine ⟨h1462_, ?_⟩
    refine ⟨h1463_, ?_⟩
    refine ⟨(la_give_25 h1305_ h1464_), ?_⟩
    refine ⟨(la_give_248 h33_), ?_⟩
    refine ⟨(sm_F1_tr (sm_F1_le h1307_ (Int.le_refl _)) h1466_ h1305_), ?_⟩
    refine ⟨(sm_F1_tr (sm_F1_le h1308_ (Int.le_refl _)) h1467_ h1305_), ?_⟩
    refine ⟨(sm_F1_tr (sm_F1_le h1309_ (Int.le_refl _)) h1468_ h1305_), ?_⟩
    refine ⟨(sm_F1_tr (sm_F1_le h1310_ (Int.le_refl _)) h1469_ h1305_), ?_⟩
    refine ⟨(sm_F1_tr (sm_F1_le h1311_ (Int.le_refl _)) h1470_ (la_give_27 h1305_)), ?_⟩
    refine ⟨(sm_F1_tr (sm_F1_le h1312_ (Int.le_refl _)) h1471_ (la_give_27 h1305_)), ?_⟩
    refine ⟨(sm_F1_tr (sm_F1_le h1313_ (Int.le_refl _)) h1472_ (la_give_27 h1305_)), ?_⟩
    refine ⟨(sm_F1_tr (sm_F1_le h1314_ (Int.le_refl _)) h1473_ (la_give_27 h1305_)), ?_⟩
    refine ⟨(sm_F1_tr (sm_F1_le h1315_ (Int.le_refl _)) h1474_ h1321_), ?_⟩
    refine ⟨(sm_F1_tr (sm_F1_le h1316_ (Int.le_refl _)) h1475_ h1321_), ?_⟩
    refine ⟨(sm_F1_tr (sm_F1_le h1317_ (Int.le_refl _)) h1476_ h1321_), ?_⟩
    refine ⟨(sm_F1_tr (sm_F1_le h1318_ (Int.le_refl _)) h1477_ h1321_), ?_⟩
    refine ⟨(sm_F1_tr (sm_F1_le h1319_ (Int.le_refl _)) h1478_ h1321_), ?_⟩
    refine ⟨(sm_F1_tr (sm_F1_le h1320_ (Int.le_refl _)) h1479_ h1321_), ?_⟩
    refine ⟨(la_give_25 h1321_ h1480_), ?_⟩
    refine ⟨(la_give_37 h1322_ h1481_), ?_⟩
    refine ⟨(sm_F1_tr (sm_F1_le h1323_ (Int.le_refl _)) h1482_ (la_give_86 h1322_)), ?_⟩
    refine ⟨(la_give_87 h33_), ?_⟩
    refine ⟨?_, ?_⟩
    · skip
      intro h1486_
      have e1487_ : S 12 (5 * p2 + 0) = S 12 (5 * p2) := congrArg ((S 12)) la_give_229
      have e1488_ : S 1100002 (S 12 (5 * p2 + 0)) = S 1100002 (S 12 (5 * p2)) := congrArg ((S 1100002)) e1487_
      have e1489_ : S 1100005 (S 12 (5 * p2 + 0)) = S 1100005 (S 12 (5 * p2)) := congrArg ((S 1100005)) e1487_
      by_cases c1490_ : g99 1047 0 = 1
      · skip
        have h1491_ := (h1465_ c1490_)
        have h1492_ := (h1483_ c1490_)
        exact (la_give_249 h65_ (sm_ex_e h1255_).2.2.2.1 h1282_ h1327_ h1492_)
      · skip
        obtain ⟨h1493_, ⟨h1494_, ⟨h1495_, ⟨h1496_, ⟨h1497_, ⟨h1498_, ⟨h1499_, ⟨h1500_, ⟨h1501_, ⟨h1502_, ⟨h1503_, ⟨h1504_, ⟨h1505_, ⟨h1506_, ⟨h1507_, ⟨h1508_, -⟩⟩⟩⟩⟩⟩⟩⟩⟩⟩⟩⟩⟩⟩⟩⟩ := (h1326_ (la_give_90 h1301_ (la_give_28 h1302_ c1490_)))
        have h1509_ := (h1484_ (la_give_90 h1301_ (la_give_28 h1302_ c1490_)))
        exact (la_give_250 h65_ (sm_ex_e h1257_).2.2.2.1 h1508_ h1509_)
    intro h1510_
    have h1511_ : ¬ (g99 1047 0 = 1) := fun q_ => (la_give_9 h1510_) (h1465_ q_)
    obtain ⟨h1512_, ⟨h1513_, ⟨h1514_, ⟨h1515_, ⟨h1516_, ⟨h1517_, ⟨h1518_, ⟨h1519_, ⟨h1520_, ⟨h1521_, ⟨h1522_, ⟨h1523_, ⟨h1524_, ⟨h1525_, ⟨h1526_, ⟨h1527_, -⟩⟩⟩⟩⟩⟩⟩⟩⟩⟩⟩⟩⟩⟩⟩⟩ := (h1485_ h1510_)
    have h1528_ := (h1484_ h1512_)
    obtain ⟨h1529_, ⟨h1530_, ⟨h1531_, ⟨h1532_, ⟨h1533_, ⟨h1534_, ⟨h1535_, ⟨h1536_, ⟨h1537_, ⟨h1538_, ⟨h1539_, ⟨h1540_, ⟨h1541_, ⟨h1542_, ⟨h1543_, ⟨h1544_, -⟩⟩⟩⟩⟩⟩⟩⟩⟩⟩⟩⟩⟩⟩⟩⟩ := (h1326_ h1512_)
    refine ⟨h33_, ?_⟩
    refine ⟨h1513_, ?_⟩
    refine ⟨h1514_, ?_⟩
    refine ⟨h1515_, ?_⟩
    refine ⟨h1516_, ?_⟩
    refine ⟨?_, ?_⟩
    · skip
      have e1545_ : (if (0 : Int) = 1 then 0 else 2 : Int) = 2 := if_neg la_give_8
      have e1546_ : S 1100007 (g109 1100023 (g109 1046 0)) = S 1100007 (S 1100023 (S 1046 0)) := congrArg ((S 1100007)) (la_give_95 h1520_ h1537_)
      have e1547_ : S 1100007 (g109 1100025 (g109 1046 0)) = S 1100007 (S 1100025 (S 1046 0)) := congrArg ((S 1100007)) (la_give_95 h1522_ h1539_)
      have e1548_ : S 1100007 (g99 1100023 (g99 1046 0)) = S 1100007 (S 1100023 (S 1046 0)) := congrArg ((S 1100007)) h1537_
      have e1549_ : S 1100007 (g99 1100023 (g99 1046 0)) = S 1100007 (g109 1100023 (g109 1046 0)) := congrArg ((S 1100007)) (la_give_253 h1520_)
      have e1550_ : S 1100007 (g99 1100025 (g99 1046 0)) = S 1100007 (S 1100025 (S 1046 0)) := congrArg ((S 1100007)) h1539_
      have e1551_ : S 1100007 (g99 1100025 (g99 1046 0)) = S 1100007 (g109 1100025 (g109 1046 0)) := congrArg ((S 1100007)) (la_give_253 h1522_)
      have e1552_ : S 12 (5 * p2 + 0) = S 12 (5 * p2) := congrArg ((S 12)) la_give_229
      have e1553_ : g99 1100007 (g99 1100023 (g99 1046 0)) = g99 1100007 (g109 1100023 (g109 1046 0)) := congrArg ((g99 1100007)) (la_give_253 h1520_)
      have e1554_ : g99 1100007 (g99 1100025 (g99 1046 0)) = g99 1100007 (g109 1100025 (g109 1046 0)) := congrArg ((g99 1100007)) (la_give_253 h1522_)
      exact (la_give_254 h1517_ h1534_ e1545_)
    refine ⟨(sm_FC_s (sm_FC_F h1535_ (sm_F1_le h1469_ (Int.le_refl _)) (Int.le_refl _) (Int.le_refl _) (Int.le_refl _) rfl) (sm_FC_F h1518_ sm_F1_rf (Int.le_refl _) (Int.le_refl _) (Int.le_refl _) rfl)), ?_⟩
    refine ⟨?_, ?_⟩
    · skip
      have e1555_ : (if (0 : Int) = 1 then 0 else 2 : Int) = 2 := if_neg la_give_8
      have e1556_ : S 1100007 (g109 1100023 (g109 1046 0)) = S 1100007 (S 1100023 (S 1046 0)) := congrArg ((S 1100007)) (la_give_95 h1520_ h1537_)
      have e1557_ : S 1100007 (g109 1100025 (g109 1046 0)) = S 1100007 (S 1100025 (S 1046 0)) := congrArg ((S 1100007)) (la_give_95 h1522_ h1539_)
      have e1558_ : S 1100007 (g99 1100023 (g99 1046 0)) = S 1100007 (S 1100023 (S 1046 0)) := congrArg ((S 1100007)) h1537_
      have e1559_ : S 1100007 (g99 1100023 (g99 1046 0)) = S 1100007 (g109 1100023 (g109 1046 0)) := congrArg ((S 1100007)) (la_give_253 h1520_)
      have e1560_ : S 1100007 (g99 1100025 (g99 1046 0)) = S 1100007 (S 1100025 (S 1046 0)) := congrArg ((S 1100007)) h1539_
      have e1561_ : S 1100007 (g99 1100025 (g99 1046 0)) = S 1100007 (g109 1100025 (g109 1046 0)) := congrArg ((S 1100007)) (la_give_253 h1522_)
      have e1562_ : S 12 (5 * p2 + 0) = S 12 (5 * p2) := congrArg ((S 12)) la_give_229
      have e1563_ : g99 1100007 (g99 1100023 (g99 1046 0)) = g99 1100007 (g109 1100023 (g109 1046 0)) := congrArg ((g99 1100007)) (la_give_253 h1520_)
      have e1564_ : g99 1100007 (g99 1100025 (g99 1046 0)) = g99 1100007 (g109 1100025 (g109 1046 0)) := congrArg ((g99 1100007)) (la_give_253 h1522_)
      exact (la_give_255 h1519_ h1536_ e1555_)
    refine ⟨(la_give_95 h1520_ h1537_), ?_⟩
    refine ⟨(la_give_95 h1521_ h1538_), ?_⟩
    refine ⟨(la_give_95 h1522_ h1539_), ?_⟩
    refine ⟨(la_give_95 h1523_ h1540_), ?_⟩
    refine ⟨(la_give_95 h1524_ h1541_), ?_⟩
    refine ⟨(sm_AP_s (sm_AP_F h1542_ (sm_F1_le h1478_ (Int.le_refl _)) (Int.le_refl _) (Int.le_refl _) (Int.le_refl _)) (sm_AP_F h1525_ sm_F1_rf (Int.le_refl _) (Int.le_refl _) (Int.le_refl _))), ?_⟩
    refine ⟨(sm_HB_1 (by rw [((sm_F1_at h1470_ (S 1046 0) (la_give_139 h1534_)).trans ((sm_F1_at h1311_ (S 1046 0) la_give_39).trans rfl))]; exact (la_give_256 h64_ h68_ h1517_ h1534_)) (sm_HB_s (sm_HB_F h1543_ (sm_F1_le h1470_ la_give_42) (Int.le_refl _) la_give_42 (Int.le_refl _) (la_give_257 h67_ (sm_ex_e h1255_).2.2.2.2 h1281_ h1517_)) (sm_HB_1 (by rw [((sm_F1_at h1470_ (g99 1046 0) la_give_39).trans rfl)]; exact (la_give_258 h64_ h68_ h1517_ h1534_ h1536_)) (sm_HB_F h1526_ sm_F1_rf (Int.le_refl _) la_give_42 (Int.le_refl _) (la_give_259 h67_ (sm_ex_e h1257_).2.2.2.2 h1534_ h1536_))))), ?_⟩
    refine ⟨(la_give_103 h1527_ h1544_), ?_⟩
    exact trivial
  intro h1565_
  have h1566_ := (h27_.resolve_right (la_give_260 h1565_))
  refine ⟨?_, ?_⟩
  · skip
    intro g115
    rintro ⟨h1567_, ⟨h1568_, ⟨h1569_, ⟨h1570_, ⟨h1571_, ⟨h1572_, ⟨h1573_, ⟨h1574_, ⟨h1575_, ⟨h1576_, ⟨h1577_, ⟨h1578_, ⟨h1579_, ⟨h1580_, ⟨h1581_, ⟨h1582_, ⟨h1583_, ⟨h1584_, ⟨h1585_, ⟨h1586_, ⟨h1587_, ⟨h1588_, ⟨h1589_, ⟨h1590_, ⟨h1591_, ⟨h1592_, ⟨h1593_, ⟨h1594_, ⟨h1595_, ⟨h1596_, h1597_⟩⟩⟩⟩⟩⟩⟩⟩⟩⟩⟩⟩⟩⟩⟩⟩⟩⟩⟩⟩⟩⟩⟩⟩⟩⟩⟩⟩⟩⟩
    have e1598_ : (if (1 : Int) = 1 then 0 else 2 : Int) = 0 := if_pos la_give_213
    have h1599_ := (h1567_.resolve_left la_give_263)
    have h1600_ := (h1568_ h1599_)
    have h1601_ := (h1596_ h33_)
    refine ⟨?_, ?_⟩
    · skip
      intro g120
      rintro ⟨h1602_, ⟨h1603_, ⟨h1604_, ⟨h1605_, ⟨h1606_, ⟨h1607_, ⟨h1608_, ⟨h1609_, ⟨h1610_, ⟨h1611_, ⟨h1612_, ⟨h1613_, ⟨h1614_, ⟨h1615_, ⟨h1616_, ⟨h1617_, ⟨h1618_, ⟨h1619_, ⟨h1620_, ⟨h1621_, ⟨h1622_, ⟨h1623_, ⟨h1624_, ⟨h1625_, ⟨h1626_, ⟨h1627_, ⟨h1628_, h1629_⟩⟩⟩⟩⟩⟩⟩⟩⟩⟩⟩⟩⟩⟩⟩⟩⟩⟩⟩⟩⟩⟩⟩⟩⟩⟩⟩
      have h1630_ := (h1628_ h33_)
      rintro ⟨h1631_, h1632_⟩
      refine ⟨?_, ?_⟩
      · skip
        intro g126
        rintro ⟨h1633_, ⟨h1634_, ⟨h1635_, ⟨h1636_, ⟨h1637_, ⟨h1638_, ⟨h1639_, ⟨h1640_, ⟨h1641_, ⟨h1642_, ⟨h1643_, ⟨h1644_, ⟨h1645_, ⟨h1646_, ⟨h1647_, ⟨h1648_, ⟨h1649_, ⟨h1650_, ⟨h1651_, ⟨h1652_, ⟨h1653_, ⟨h1654_, ⟨h1655_, ⟨h1656_, ⟨h1657_, ⟨h1658_, ⟨h1659_, h1660_⟩⟩⟩⟩⟩⟩⟩⟩⟩⟩⟩⟩⟩⟩⟩⟩⟩⟩⟩⟩⟩⟩⟩⟩⟩⟩⟩
        have h1661_ := (h1659_ h33_)
        refine ⟨?_, ?_⟩
        · skip
          intro h1662_
          refine ⟨?_, ?_⟩
          · skip
            refine ⟨h1633_, ?_⟩
            refine ⟨h1634_, ?_⟩
            refine ⟨h1635_, ?_⟩
            refine ⟨h1636_, ?_⟩
            intro h1663_
            obtain ⟨h1664_, ⟨h1665_, ⟨h1666_, ⟨h1667_, ⟨h1668_, ⟨h1669_, ⟨h1670_, ⟨h1671_, ⟨h1672_, ⟨h1673_, ⟨h1674_, ⟨h1675_, ⟨h1676_, ⟨h1677_, ⟨h1678_, ⟨h1679_, -⟩⟩⟩⟩⟩⟩⟩⟩⟩⟩⟩⟩⟩⟩⟩⟩ := (h1660_ h1663_)
            have e1680_ : (if S 1100002 p2 ≤ S 1100002 p3 then S 1100002 p3 else S 1100002 p2 : Int) = S 1100002 p3 := if_pos (la_give_264 h1662_)
            have e1681_ : (if S 1100005 p2 ≤ S 1100005 p3 + 1 then S 1100005 p3 + 1 else S 1100005 p2 : Int) = S 1100005 p3 + 1 := if_pos (la_give_265 h1662_)
            have h1682_ := (h38_ (la_give_266 h1662_))
            have h1683_ := (h39_ (la_give_266 h1662_))
            have h1684_ := (h62_ (la_give_267 h1662_))
            have h1685_ := (h63_ (la_give_268 h1662_))
            refine ⟨h1665_, ?_⟩
            refine ⟨la_give_10, ?_⟩
            refine ⟨la_give_11, ?_⟩
            refine ⟨(sm_ci_11 (la_give_269 h1662_)), ?_⟩
            refine ⟨la_give_13, ?_⟩
            intro h1686_
            have h1687_ := (h1686_.resolve_left la_give_14)
            have e1688_ : S 1100001 p3 = S 1100001 p2 := congrArg ((S 1100001)) (la_give_271 h1662_)
            have e1689_ : S 1100002 p3 = S 1100002 p2 := congrArg ((S 1100002)) (la_give_271 h1662_)
            have e1690_ : S 1100005 p3 = S 1100005 p2 := congrArg ((S 1100005)) (la_give_271 h1662_)
            have e1691_ : S 1100007 (S 1100023 (S 1046 0)) = S 1100007 (S 1046 0) := congrArg ((S 1100007)) (la_give_271 h1662_)
            have e1692_ : S 1100007 (S 1100025 (S 1046 0)) = S 1100007 (S 1046 0) := congrArg ((S 1100007)) (la_give_271 h1662_)
            have e1693_ : S 1100007 (S 1100025 (S 1046 0)) = S 1100007 (S 1100023 (S 1046 0)) := congrArg ((S 1100007)) (la_give_271 h1662_)
            have e1694_ : S 1100007 (g126 1046 0) = S 1100007 (S 1046 0) := congrArg ((S 1100007)) (la_give_271 h1662_)
            have e1695_ : S 1100007 (g126 1046 0) = S 1100007 (S 1100023 (S 1046 0)) := congrArg ((S 1100007)) (la_give_271 h1662_)
            have e1696_ : S 1100007 (g126 1046 0) = S 1100007 (S 1100025 (S 1046 0)) := congrArg ((S 1100007)) (la_give_271 h1662_)
            have e1697_ : S 1100007 (g126 1100023 (g126 1046 0)) = S 1100007 (S 1046 0) := congrArg ((S 1100007)) (la_give_271 h1662_)
            have e1698_ : S 1100007 (g126 1100023 (g126 1046 0)) = S 1100007 (S 1100023 (S 1046 0)) := congrArg ((S 1100007)) h1672_
            have e1699_ : S 1100007 (g126 1100023 (g126 1046 0)) = S 1100007 (S 1100025 (S 1046 0)) := congrArg ((S 1100007)) (la_give_271 h1662_)
            have e1700_ : S 1100007 (g126 1100023 (g126 1046 0)) = S 1100007 (g126 1046 0) := congrArg ((S 1100007)) (la_give_271 h1662_)
            have e1701_ : S 1100007 (g126 1100025 (g126 1046 0)) = S 1100007 (S 1046 0) := congrArg ((S 1100007)) (la_give_271 h1662_)
            have e1702_ : S 1100007 (g126 1100025 (g126 1046 0)) = S 1100007 (S 1100023 (S 1046 0)) := congrArg ((S 1100007)) (la_give_271 h1662_)
            have e1703_ : S 1100007 (g126 1100025 (g126 1046 0)) = S 1100007 (S 1100025 (S 1046 0)) := congrArg ((S 1100007)) h1674_
            have e1704_ : S 1100007 (g126 1100025 (g126 1046 0)) = S 1100007 (g126 1046 0) := congrArg ((S 1100007)) (la_give_271 h1662_)
            have e1705_ : S 1100007 (g126 1100025 (g126 1046 0)) = S 1100007 (g126 1100023 (g126 1046 0)) := congrArg ((S 1100007)) (la_give_271 h1662_)
            have e1706_ : S 1100023 (g126 1046 0) = S 1100023 (S 1046 0) := congrArg ((S 1100023)) (la_give_271 h1662_)
            have e1707_ : S 1100024 (g126 1046 0) = S 1100024 (S 1046 0) := congrArg ((S 1100024)) (la_give_271 h1662_)
            have e1708_ : S 1100025 (g126 1046 0) = S 1100025 (S 1046 0) := congrArg ((S 1100025)) (la_give_271 h1662_)
            have e1709_ : g126 1100007 (g126 1100023 (g126 1046 0)) = g126 1100007 (g126 1046 0) := congrArg ((g126 1100007)) (la_give_271 h1662_)
            have e1710_ : g126 1100007 (g126 1100025 (g126 1046 0)) = g126 1100007 (g126 1046 0) := congrArg ((g126 1100007)) (la_give_271 h1662_)
            have e1711_ : g126 1100007 (g126 1100025 (g126 1046 0)) = g126 1100007 (g126 1100023 (g126 1046 0)) := congrArg ((g126 1100007)) (la_give_271 h1662_)
            have e1712_ : g126 1100023 (g126 1100023 (g126 1046 0)) = g126 1100023 (g126 1046 0) := congrArg ((g126 1100023)) (la_give_271 h1662_)
            have e1713_ : g126 1100025 (g126 1100025 (g126 1046 0)) = g126 1100025 (g126 1046 0) := congrArg ((g126 1100025)) (la_give_271 h1662_)
            have e1714_ : S 1100023 (g126 1100023 (g126 1046 0)) = S 1100023 (S 1046 0) := congrArg ((S 1100023)) (la_give_271 h1662_)
            have e1715_ : S 1100023 (g126 1100023 (g126 1046 0)) = S 1100023 (g126 1046 0) := congrArg ((S 1100023)) (la_give_271 h1662_)
            have e1716_ : S 1100025 (g126 1100025 (g126 1046 0)) = S 1100025 (S 1046 0) := congrArg ((S 1100025)) (la_give_271 h1662_)
            have e1717_ : S 1100025 (g126 1100025 (g126 1046 0)) = S 1100025 (g126 1046 0) := congrArg ((S 1100025)) (la_give_271 h1662_)
            exact ((la_give_272 h1662_)).elim
          refine ⟨(la_give_273 h1662_), ?_⟩
          intro g133
          rintro ⟨h1718_, ⟨h1719_, ⟨h1720_, ⟨h1721_, ⟨h1722_, ⟨h1723_, ⟨h1724_, ⟨h1725_, ⟨h1726_, ⟨h1727_, ⟨h1728_, ⟨h1729_, ⟨h1730_, ⟨h1731_, ⟨h1732_, ⟨h1733_, h1734_⟩⟩⟩⟩⟩⟩⟩⟩⟩⟩⟩⟩⟩⟩⟩⟩
          have e1735_ : (if S 1100002 p2 ≤ S 1100002 p3 then S 1100002 p3 else S 1100002 p2 : Int) = S 1100002 p3 := if_pos (la_give_264 h1662_)
          have e1736_ : (if S 1100005 p2 ≤ S 1100005 p3 + 1 then S 1100005 p3 + 1 else S 1100005 p2 : Int) = S 1100005 p3 + 1 := if_pos (la_give_265 h1662_)
          have h1737_ := (h38_ (la_give_266 h1662_))
          have h1738_ := (h39_ (la_give_266 h1662_))
          have h1739_ := (h62_ (la_give_267 h1662_))
          have h1740_ := (h63_ (la_give_268 h1662_))
          have h1741_ := (h1724_ (la_give_274 h1662_))
          have h1742_ := (h1725_ h1741_)
          obtain ⟨h1743_, ⟨h1744_, ⟨h1745_, ⟨h1746_, ⟨h1747_, ⟨h1748_, ⟨h1749_, ⟨h1750_, ⟨h1751_, ⟨h1752_, ⟨h1753_, ⟨h1754_, ⟨h1755_, ⟨h1756_, ⟨h1757_, ⟨h1758_, -⟩⟩⟩⟩⟩⟩⟩⟩⟩⟩⟩⟩⟩⟩⟩⟩ := (h1660_ (la_give_275 h1662_))
          obtain ⟨h1759_, ⟨h1760_, ⟨h1761_, ⟨h1762_, ⟨h1763_, ⟨h1764_, ⟨h1765_, ⟨h1766_, ⟨h1767_, ⟨h1768_, ⟨h1769_, ⟨h1770_, ⟨h1771_, h1772_⟩⟩⟩⟩⟩⟩⟩⟩⟩⟩⟩⟩⟩ := (h1734_ (la_give_275 h1662_))
          have h1773_ := (h1742_.resolve_left (la_give_276 h1662_))
          have h1774_ := (h1770_ (la_give_277 h1662_))
          have h1775_ := (h1771_ (la_give_278 h1662_))
          have h1776_ := (h1772_ la_give_29)
          have h1777_ := (h1775_ (la_give_266 h1662_))
          have h1778_ := (h1776_ la_give_31)
          have h1779_ := (h1777_ (la_give_271 h1662_))
          refine ⟨(sm_KC_n h1761_).1.1, ?_⟩
          refine ⟨h1723_, ?_⟩
          refine ⟨h1718_, ?_⟩
          refine ⟨h1719_, ?_⟩
          refine ⟨h1637_, ?_⟩
          refine ⟨h1638_, ?_⟩
          refine ⟨(la_give_264 h1662_), ?_⟩
          refine ⟨(la_give_279 h1662_), ?_⟩
          refine ⟨(sm_F1_tr (sm_F1_le h1641_ (Int.le_refl _)) h1726_ h1639_), ?_⟩
          refine ⟨(sm_F1_tr (sm_F1_le h1642_ (Int.le_refl _)) h1727_ h1639_), ?_⟩
          refine ⟨(sm_F1_tr (sm_F1_le h1643_ (Int.le_refl _)) h1728_ h1639_), ?_⟩
          refine ⟨(sm_F1_tr (sm_F1_le h1644_ (Int.le_refl _)) h1729_ h1639_), ?_⟩
          refine ⟨(sm_F1_tr (sm_F1_le h1645_ (Int.le_refl _)) h1730_ (la_give_280 h1662_)), ?_⟩
          refine ⟨(sm_F1_tr (sm_F1_le h1646_ (Int.le_refl _)) h1731_ (la_give_280 h1662_)), ?_⟩
          refine ⟨(sm_F1_tr (sm_F1_le h1647_ (Int.le_refl _)) h1732_ (la_give_280 h1662_)), ?_⟩
          refine ⟨(sm_F1_tr (sm_F1_le h1648_ (Int.le_refl _)) h1733_ (la_give_280 h1662_)), ?_⟩
          refine ⟨h1649_, ?_⟩
          refine ⟨h1650_, ?_⟩
          refine ⟨h1651_, ?_⟩
          refine ⟨h1652_, ?_⟩
          refine ⟨h1653_, ?_⟩
          refine ⟨h1654_, ?_⟩
          refine ⟨h1655_, ?_⟩
          refine ⟨h1656_, ?_⟩
          refine ⟨h1657_, ?_⟩
          refine ⟨h1658_, ?_⟩
          refine ⟨h1659_, ?_⟩
          intro h1780_
          refine ⟨h33_, ?_⟩
          refine ⟨h1761_, ?_⟩
          refine ⟨h1745_, ?_⟩
          refine ⟨h1746_, ?_⟩
          refine ⟨(la_give_264 h1662_), ?_⟩
          refine ⟨(la_give_281 h1662_), ?_⟩
          refine ⟨(sm_FC_0 (la_give_264 h1662_)), ?_⟩
          refine ⟨(la_give_282 h1662_), ?_⟩
          refine ⟨(la_give_271 h1662_), ?_⟩
          refine ⟨(la_give_271 h1662_), ?_⟩
          refine ⟨(la_give_271 h1662_), ?_⟩
          refine ⟨(la_give_271 h1662_), ?_⟩
          refine ⟨(la_give_271 h1662_), ?_⟩
          refine ⟨h1756_, ?_⟩
          refine ⟨(sm_HB_0 (la_give_264 h1662_)), ?_⟩
          refine ⟨(la_give_283 h1662_), ?_⟩
          exact trivial
        intro h1781_
        intro h1782_
        have h1783_ := (h1782_ h5_)
        have h1784_ := (h1783_ h24_)
        have h1785_ := (h1784_ h25_)
        have h1786_ := (h1785_ h26_)
        have h1787_ := (h1786_ h1566_)
        intro h1788_
        have h1789_ := (h1788_ h1787_)
        obtain ⟨h1790_, h1791_⟩ := (h1789_ h6_)
        refine ⟨(la_give_286 h10_ h24_ h25_), ?_⟩
        refine ⟨(la_give_118 h50_ h65_ h1592_ h1601_), ?_⟩
        refine ⟨?_, ?_⟩
        · skip
          refine ⟨h1633_, ?_⟩
          refine ⟨h1634_, ?_⟩
          refine ⟨h1635_, ?_⟩
          refine ⟨h1636_, ?_⟩
          refine ⟨h13_, ?_⟩
          refine ⟨h14_, ?_⟩
          refine ⟨h12_, ?_⟩
          refine ⟨h15_, ?_⟩
          refine ⟨la_give_52, ?_⟩
          intro h1792_
          obtain ⟨h1793_, ⟨h1794_, ⟨h1795_, ⟨h1796_, ⟨h1797_, ⟨h1798_, ⟨h1799_, ⟨h1800_, ⟨h1801_, ⟨h1802_, ⟨h1803_, ⟨h1804_, ⟨h1805_, ⟨h1806_, ⟨h1807_, ⟨h1808_, -⟩⟩⟩⟩⟩⟩⟩⟩⟩⟩⟩⟩⟩⟩⟩⟩ := (h1660_ h1792_)
          refine ⟨h1794_, ?_⟩
          refine ⟨?_, ?_⟩
          · skip
            have e1809_ : S 1100007 (g126 1100023 (g126 1046 0)) = S 1100007 (S 1100023 (S 1046 0)) := congrArg ((S 1100007)) h1801_
            have e1810_ : S 1100007 (g126 1100025 (g126 1046 0)) = S 1100007 (S 1100025 (S 1046 0)) := congrArg ((S 1100007)) h1803_
            have e1811_ : S 12 (5 * p2 + 0) = S 12 (5 * p2) := congrArg ((S 12)) la_give_229
            exact (la_give_230 h1790_ e1811_)
          refine ⟨?_, ?_⟩
          · skip
            have e1812_ : S 1100007 (g126 1100023 (g126 1046 0)) = S 1100007 (S 1100023 (S 1046 0)) := congrArg ((S 1100007)) h1801_
            have e1813_ : S 1100007 (g126 1100025 (g126 1046 0)) = S 1100007 (S 1100025 (S 1046 0)) := congrArg ((S 1100007)) h1803_
            have e1814_ : S 12 (5 * p2 + 0) = S 12 (5 * p2) := congrArg ((S 12)) la_give_229
            exact (la_give_287 h1791_ e1814_)
          refine ⟨la_give_59, ?_⟩
          intro h1815_
          refine ⟨(la_give_288 (sm_KC_n h34_).2.1.1 e1598_ h1800_), ?_⟩
          refine ⟨(la_give_289 h38_ e1598_ h1800_ h1801_ h1804_), ?_⟩
          intro h1816_
          have h1817_ := (h39_ (la_give_290 h1803_ h1816_))
          exact (la_give_291 e1598_ h1800_ h1805_ h1817_)
        refine ⟨(la_give_292 h50_ h65_ h1592_ h1601_), ?_⟩
        intro g144
        rintro ⟨h1818_, ⟨h1819_, ⟨h1820_, ⟨h1821_, ⟨h1822_, ⟨h1823_, ⟨h1824_, ⟨h1825_, ⟨h1826_, ⟨h1827_, ⟨h1828_, ⟨h1829_, ⟨h1830_, ⟨h1831_, ⟨h1832_, ⟨h1833_, h1834_⟩⟩⟩⟩⟩⟩⟩⟩⟩⟩⟩⟩⟩⟩⟩⟩
        have e1835_ : (if (2 : Int) = 1 then 1 else 0 : Int) = 0 := if_neg la_give_293
        refine ⟨(la_give_24 h1820_), ?_⟩
        refine ⟨h1823_, ?_⟩
        refine ⟨h1818_, ?_⟩
        refine ⟨h1819_, ?_⟩
        refine ⟨h1637_, ?_⟩
        refine ⟨h1638_, ?_⟩
        refine ⟨(la_give_25 h1639_ h1821_), ?_⟩
        refine ⟨(la_give_26 h33_ h1819_), ?_⟩
        refine ⟨(sm_F1_tr (sm_F1_le h1641_ (Int.le_refl _)) h1826_ h1639_), ?_⟩
        refine ⟨(sm_F1_tr (sm_F1_le h1642_ (Int.le_refl _)) h1827_ h1639_), ?_⟩
        refine ⟨(sm_F1_tr (sm_F1_le h1643_ (Int.le_refl _)) h1828_ h1639_), ?_⟩
        refine ⟨(sm_F1_tr (sm_F1_le h1644_ (Int.le_refl _)) h1829_ h1639_), ?_⟩
        refine ⟨(sm_F1_tr (sm_F1_le h1645_ (Int.le_refl _)) h1830_ (la_give_27 h1639_)), ?_⟩
        refine ⟨(sm_F1_tr (sm_F1_le h1646_ (Int.le_refl _)) h1831_ (la_give_27 h1639_)), ?_⟩
        refine ⟨(sm_F1_tr (sm_F1_le h1647_ (Int.le_refl _)) h1832_ (la_give_27 h1639_)), ?_⟩
        refine ⟨(sm_F1_tr (sm_F1_le h1648_ (Int.le_refl _)) h1833_ (la_give_27 h1639_)), ?_⟩
        refine ⟨h1649_, ?_⟩
        refine ⟨h1650_, ?_⟩
        refine ⟨h1651_, ?_⟩
        refine ⟨h1652_, ?_⟩
        refine ⟨h1653_, ?_⟩
        refine ⟨h1654_, ?_⟩
        refine ⟨h1655_, ?_⟩
        refine ⟨h1656_, ?_⟩
        refine ⟨h1657_, ?_⟩
        refine ⟨h1658_, ?_⟩
        refine ⟨h1659_, ?_⟩
        intro h1836_
        have h1837_ : ¬ (g126 1047 0 = 1) := fun q_ => (la_give_9 h1836_) (h1824_ q_)
        obtain ⟨h1838_, ⟨h1839_, ⟨h1840_, ⟨h1841_, ⟨h1842_, ⟨h1843_, ⟨h1844_, ⟨h1845_, ⟨h1846_, ⟨h1847_, ⟨h1848_, h1849_⟩⟩⟩⟩⟩⟩⟩⟩⟩⟩⟩ := (h1834_ h1836_)
        obtain ⟨h1850_, ⟨h1851_, ⟨h1852_, ⟨h1853_, ⟨h1854_, ⟨h1855_, ⟨h1856_, ⟨h1857_, ⟨h1858_, ⟨h1859_, ⟨h1860_, ⟨h1861_, ⟨h1862_, ⟨h1863_, ⟨h1864_, ⟨h1865_, -⟩⟩⟩⟩⟩⟩⟩⟩⟩⟩⟩⟩⟩⟩⟩⟩ := (h1660_ h1838_)
        refine ⟨h33_, ?_⟩
        refine ⟨h1840_, ?_⟩
        refine ⟨h1852_, ?_⟩
        refine ⟨h1853_, ?_⟩
        refine ⟨(la_give_32 h1839_ h1854_), ?_⟩
        refine ⟨(la_give_294 e1598_ h1839_ h1855_), ?_⟩
        refine ⟨(sm_FC_s (sm_FC_F h1856_ (sm_F1_le h1829_ (Int.le_refl _)) (Int.le_refl _) (Int.le_refl _) (Int.le_refl _) rfl) (sm_FC_1 h1843_ (sm_FC_0 h1822_))), ?_⟩
        refine ⟨(la_give_296 e1598_ e1835_ h1844_ h1857_), ?_⟩
        refine ⟨(la_give_95 h1845_ h1858_), ?_⟩
        refine ⟨(la_give_95 h1846_ h1859_), ?_⟩
        refine ⟨(la_give_95 h1847_ h1860_), ?_⟩
        refine ⟨(la_give_95 h1848_ h1861_), ?_⟩
        refine ⟨(la_give_95 h1849_ h1862_), ?_⟩
        refine ⟨h1863_, ?_⟩
        refine ⟨(sm_HB_1 (by rw [((sm_F1_at h1830_ (S 1046 0) (la_give_297 e1598_ h1855_)).trans ((sm_F1_at h1645_ (S 1046 0) la_give_39).trans rfl))]; exact (la_give_298 h64_ h68_ e1598_ h1839_ h1855_)) (sm_HB_s (sm_HB_F h1864_ (sm_F1_le h1830_ la_give_42) (Int.le_refl _) la_give_42 (Int.le_refl _) (la_give_44 h1839_)) (sm_HB_1 (by rw [((sm_F1_at h1830_ (g126 1046 0) la_give_39).trans rfl)]; exact (la_give_301 h64_ h68_ e1598_ h1839_ h1855_ h1857_)) (sm_HB_0 h1822_)))), ?_⟩
        refine ⟨(la_give_46 h1839_ h1865_), ?_⟩
        exact trivial
      rintro ⟨h1866_, h1867_⟩
      refine ⟨?_, ?_⟩
      · skip
        refine ⟨h5_, ?_⟩
        refine ⟨h6_, ?_⟩
        refine ⟨h7_, ?_⟩
        refine ⟨h8_, ?_⟩
        refine ⟨h9_, ?_⟩
        refine ⟨h10_, ?_⟩
        refine ⟨h11_, ?_⟩
        refine ⟨h12_, ?_⟩
        refine ⟨h13_, ?_⟩
        refine ⟨h14_, ?_⟩
        refine ⟨h15_, ?_⟩
        refine ⟨h1602_, ?_⟩
        refine ⟨h1603_, ?_⟩
        refine ⟨h1604_, ?_⟩
        refine ⟨h1605_, ?_⟩
        refine ⟨h1606_, ?_⟩
        refine ⟨h1607_, ?_⟩
        refine ⟨h28_, ?_⟩
        refine ⟨h29_, ?_⟩
        refine ⟨h30_, ?_⟩
        refine ⟨(sm_LF_w h32_ (sm_F1_le h1626_ (la_give_75 h1625_)) (Int.le_refl _) (la_give_75 h1625_) h1607_ (Int.le_refl _)), ?_⟩
        intro h1868_
        obtain ⟨h1869_, ⟨h1870_, ⟨h1871_, ⟨h1872_, ⟨h1873_, ⟨h1874_, ⟨h1875_, ⟨h1876_, ⟨h1877_, ⟨h1878_, ⟨h1879_, ⟨h1880_, ⟨h1881_, ⟨h1882_, ⟨h1883_, ⟨h1884_, -⟩⟩⟩⟩⟩⟩⟩⟩⟩⟩⟩⟩⟩⟩⟩⟩ := (h1629_ h1868_)
        refine ⟨h1870_, ?_⟩
        refine ⟨h1871_, ?_⟩
        refine ⟨h1872_, ?_⟩
        refine ⟨h1873_, ?_⟩
        refine ⟨(la_give_76 h38_ h1631_ h1876_ h1877_ h1880_), ?_⟩
        refine ⟨(la_give_76 h39_ h1631_ h1876_ h1879_ h1881_), ?_⟩
        refine ⟨(la_give_77 h40_ h1874_ h1876_), ?_⟩
        exact (la_give_78 h41_ h66_ h1884_)
      refine ⟨?_, ?_⟩
      · skip
        refine ⟨?_, ?_⟩
        · skip
          by_cases c1885_ : g120 1047 0 = 0
          · skip
            have e1886_ : (if g120 1047 0 = 0 then S 1100002 p3 + (600 - g120 1046 0) + 8 else 4 : Int) = S 1100002 p3 + (600 - g120 1046 0) + 8 := if_pos c1885_
            obtain ⟨h1887_, ⟨h1888_, ⟨h1889_, ⟨h1890_, ⟨h1891_, ⟨h1892_, ⟨h1893_, ⟨h1894_, ⟨h1895_, ⟨h1896_, ⟨h1897_, ⟨h1898_, ⟨h1899_, ⟨h1900_, ⟨h1901_, ⟨h1902_, -⟩⟩⟩⟩⟩⟩⟩⟩⟩⟩⟩⟩⟩⟩⟩⟩ := (h1629_ c1885_)
            exact (la_give_79 h61_ h1603_ e1886_)
          · skip
            have e1903_ : (if g120 1047 0 = 0 then S 1100002 p3 + (600 - g120 1046 0) + 8 else 4 : Int) = 4 := if_neg c1885_
            exact (la_give_81 e1903_)
        by_cases c1904_ : g120 1047 0 = 0
        · skip
          have e1905_ : (if g120 1047 0 = 0 then S 1100002 p3 + (600 - g120 1046 0) + 8 else 4 : Int) = S 1100002 p3 + (600 - g120 1046 0) + 8 := if_pos c1904_
          obtain ⟨h1906_, ⟨h1907_, ⟨h1908_, ⟨h1909_, ⟨h1910_, ⟨h1911_, ⟨h1912_, ⟨h1913_, ⟨h1914_, ⟨h1915_, ⟨h1916_, ⟨h1917_, ⟨h1918_, ⟨h1919_, ⟨h1920_, ⟨h1921_, -⟩⟩⟩⟩⟩⟩⟩⟩⟩⟩⟩⟩⟩⟩⟩⟩ := (h1629_ c1904_)
          exact (la_give_82 h42_ h66_ h1608_ e1905_)
        · skip
          have e1922_ : (if g120 1047 0 = 0 then S 1100002 p3 + (600 - g120 1046 0) + 8 else 4 : Int) = 4 := if_neg c1904_
          exact (la_give_83 h42_ h50_ h65_ h1592_ h1601_ e1922_)
      refine ⟨?_, ?_⟩
      · skip
        refine ⟨?_, ?_⟩
        · skip
          by_cases c1923_ : g120 1047 0 = 0
          · skip
            have e1924_ : (if g120 1047 0 = 0 then S 1100002 p3 + (600 - g120 1046 0) + 8 else 4 : Int) = S 1100002 p3 + (600 - g120 1046 0) + 8 := if_pos c1923_
            obtain ⟨h1925_, ⟨h1926_, ⟨h1927_, ⟨h1928_, ⟨h1929_, ⟨h1930_, ⟨h1931_, ⟨h1932_, ⟨h1933_, ⟨h1934_, ⟨h1935_, ⟨h1936_, ⟨h1937_, ⟨h1938_, ⟨h1939_, ⟨h1940_, -⟩⟩⟩⟩⟩⟩⟩⟩⟩⟩⟩⟩⟩⟩⟩⟩ := (h1629_ c1923_)
            exact (la_give_79 h61_ h1603_ e1924_)
          · skip
            have e1941_ : (if g120 1047 0 = 0 then S 1100002 p3 + (600 - g120 1046 0) + 8 else 4 : Int) = 4 := if_neg c1923_
            exact (la_give_81 e1941_)
        by_cases c1942_ : 0 ≤ S 1100023 (S 1046 0)
        · skip
          have h1943_ := (h38_ c1942_)
          by_cases c1946_ : g120 1047 0 = 0
          · skip
            have e1947_ : (if g120 1047 0 = 0 then S 1100002 p3 + (600 - g120 1046 0) + 8 else 4 : Int) = S 1100002 p3 + (600 - g120 1046 0) + 8 := if_pos c1946_
            obtain ⟨h1948_, ⟨h1949_, ⟨h1950_, ⟨h1951_, ⟨h1952_, ⟨h1953_, ⟨h1954_, ⟨h1955_, ⟨h1956_, ⟨h1957_, ⟨h1958_, ⟨h1959_, ⟨h1960_, ⟨h1961_, ⟨h1962_, ⟨h1963_, -⟩⟩⟩⟩⟩⟩⟩⟩⟩⟩⟩⟩⟩⟩⟩⟩ := (h1629_ c1946_)
            exact (la_give_84 h66_ h1608_ e1947_)
          · skip
            have e1964_ : (if g120 1047 0 = 0 then S 1100002 p3 + (600 - g120 1046 0) + 8 else 4 : Int) = 4 := if_neg c1946_
            exact (la_give_85 h50_ h65_ h1592_ h1601_ e1964_)
        · skip
          by_cases c1967_ : g120 1047 0 = 0
          · skip
            have e1968_ : (if g120 1047 0 = 0 then S 1100002 p3 + (600 - g120 1046 0) + 8 else 4 : Int) = S 1100002 p3 + (600 - g120 1046 0) + 8 := if_pos c1967_
            obtain ⟨h1969_, ⟨h1970_, ⟨h1971_, ⟨h1972_, ⟨h1973_, ⟨h1974_, ⟨h1975_, ⟨h1976_, ⟨h1977_, ⟨h1978_, ⟨h1979_, ⟨h1980_, ⟨h1981_, ⟨h1982_, ⟨h1983_, ⟨h1984_, -⟩⟩⟩⟩⟩⟩⟩⟩⟩⟩⟩⟩⟩⟩⟩⟩ := (h1629_ c1967_)
            exact (la_give_84 h66_ h1608_ e1968_)
          · skip
            have e1985_ : (if g120 1047 0 = 0 then S 1100002 p3 + (600 - g120 1046 0) + 8 else 4 : Int) = 4 := if_neg c1967_
            exact (la_give_85 h50_ h65_ h1624_ h1630_ e1985_)
      intro g154
      rintro ⟨h1986_, ⟨h1987_, ⟨h1988_, ⟨h1989_, ⟨h1990_, ⟨h1991_, ⟨h1992_, ⟨h1993_, ⟨h1994_, ⟨h1995_, ⟨h1996_, ⟨h1997_, ⟨h1998_, ⟨h1999_, ⟨h2000_, ⟨h2001_, ⟨h2002_, ⟨h2003_, ⟨h2004_, ⟨h2005_, ⟨h2006_, ⟨h2007_, ⟨h2008_, ⟨h2009_, ⟨h2010_, ⟨h2011_, ⟨h2012_, h2013_⟩⟩⟩⟩⟩⟩⟩⟩⟩⟩⟩⟩⟩⟩⟩⟩⟩⟩⟩⟩⟩⟩⟩⟩⟩⟩⟩
      refine ⟨?_, ?_⟩
      · skip
        intro h2014_
        have e2015_ : (if p1 = (-1) then 0 else 1 : Int) = 0 := if_pos h2014_
        refine ⟨h1986_, ?_⟩
        refine ⟨h1987_, ?_⟩
        refine ⟨h1988_, ?_⟩
        refine ⟨h1989_, ?_⟩
        refine ⟨h1990_, ?_⟩
        refine ⟨h1991_, ?_⟩
        refine ⟨(la_give_25 h1608_ h1992_), ?_⟩
        refine ⟨(la_give_26 h33_ h1989_), ?_⟩
        refine ⟨(sm_F1_tr (sm_F1_le h1610_ (Int.le_refl _)) h1994_ h1608_), ?_⟩
        refine ⟨(sm_F1_tr (sm_F1_le h1611_ (Int.le_refl _)) h1995_ h1608_), ?_⟩
        refine ⟨(sm_F1_tr (sm_F1_le h1612_ (Int.le_refl _)) h1996_ h1608_), ?_⟩
        refine ⟨(sm_F1_tr (sm_F1_le h1613_ (Int.le_refl _)) h1997_ h1608_), ?_⟩
        refine ⟨(sm_F1_tr (sm_F1_le h1614_ (Int.le_refl _)) h1998_ (la_give_27 h1608_)), ?_⟩
        refine ⟨(sm_F1_tr (sm_F1_le h1615_ (Int.le_refl _)) h1999_ (la_give_27 h1608_)), ?_⟩
        refine ⟨(sm_F1_tr (sm_F1_le h1616_ (Int.le_refl _)) h2000_ (la_give_27 h1608_)), ?_⟩
        refine ⟨(sm_F1_tr (sm_F1_le h1617_ (Int.le_refl _)) h2001_ (la_give_27 h1608_)), ?_⟩
        refine ⟨(sm_F1_tr (sm_F1_le h1618_ (Int.le_refl _)) h2002_ h1624_), ?_⟩
        refine ⟨(sm_F1_tr (sm_F1_le h1619_ (Int.le_refl _)) h2003_ h1624_), ?_⟩
        refine ⟨(sm_F1_tr (sm_F1_le h1620_ (Int.le_refl _)) h2004_ h1624_), ?_⟩
        refine ⟨(sm_F1_tr (sm_F1_le h1621_ (Int.le_refl _)) h2005_ h1624_), ?_⟩
        refine ⟨(sm_F1_tr (sm_F1_le h1622_ (Int.le_refl _)) h2006_ h1624_), ?_⟩
        refine ⟨(sm_F1_tr (sm_F1_le h1623_ (Int.le_refl _)) h2007_ h1624_), ?_⟩
        refine ⟨(la_give_25 h1624_ h2008_), ?_⟩
        refine ⟨(la_give_37 h1625_ h2009_), ?_⟩
        refine ⟨(sm_F1_tr (sm_F1_le h1626_ (Int.le_refl _)) h2010_ (la_give_86 h1625_)), ?_⟩
        refine ⟨(la_give_87 h33_), ?_⟩
        refine ⟨?_, ?_⟩
        · skip
          intro h2016_
          by_cases c2017_ : g120 1047 0 = 1
          · skip
            have h2018_ := (h1993_ c2017_)
            have h2019_ := (h2011_ c2017_)
            exact (la_give_89 h1630_ h2019_)
          · skip
            obtain ⟨h2020_, ⟨h2021_, ⟨h2022_, ⟨h2023_, ⟨h2024_, ⟨h2025_, ⟨h2026_, ⟨h2027_, ⟨h2028_, ⟨h2029_, ⟨h2030_, ⟨h2031_, ⟨h2032_, ⟨h2033_, ⟨h2034_, ⟨h2035_, -⟩⟩⟩⟩⟩⟩⟩⟩⟩⟩⟩⟩⟩⟩⟩⟩ := (h1629_ (la_give_90 h1604_ (la_give_28 h1605_ c2017_)))
            have h2036_ := (h2012_ (la_give_90 h1604_ (la_give_28 h1605_ c2017_)))
            exact (la_give_91 h66_ h2035_ h2036_)
        intro h2037_
        have h2038_ : ¬ (g120 1047 0 = 1) := fun q_ => (la_give_9 h2037_) (h1993_ q_)
        obtain ⟨h2039_, ⟨h2040_, ⟨h2041_, ⟨h2042_, ⟨h2043_, ⟨h2044_, ⟨h2045_, ⟨h2046_, ⟨h2047_, ⟨h2048_, ⟨h2049_, ⟨h2050_, ⟨h2051_, ⟨h2052_, ⟨h2053_, ⟨h2054_, -⟩⟩⟩⟩⟩⟩⟩⟩⟩⟩⟩⟩⟩⟩⟩⟩ := (h2013_ h2037_)
        have h2055_ := (h2012_ h2039_)
        obtain ⟨h2056_, ⟨h2057_, ⟨h2058_, ⟨h2059_, ⟨h2060_, ⟨h2061_, ⟨h2062_, ⟨h2063_, ⟨h2064_, ⟨h2065_, ⟨h2066_, ⟨h2067_, ⟨h2068_, ⟨h2069_, ⟨h2070_, ⟨h2071_, -⟩⟩⟩⟩⟩⟩⟩⟩⟩⟩⟩⟩⟩⟩⟩⟩ := (h1629_ h2039_)
        refine ⟨h33_, ?_⟩
        refine ⟨h2040_, ?_⟩
        refine ⟨h2041_, ?_⟩
        refine ⟨h2042_, ?_⟩
        refine ⟨h2043_, ?_⟩
        refine ⟨(la_give_92 e2015_ h2044_ h2061_), ?_⟩
        refine ⟨(sm_FC_s (sm_FC_F h2062_ (sm_F1_le h1997_ (Int.le_refl _)) (Int.le_refl _) (Int.le_refl _) (Int.le_refl _) rfl) (sm_FC_F h2045_ sm_F1_rf (Int.le_refl _) (Int.le_refl _) (Int.le_refl _) rfl)), ?_⟩
        refine ⟨(la_give_94 e2015_ h2046_ h2063_), ?_⟩
        refine ⟨(la_give_95 h2047_ h2064_), ?_⟩
        refine ⟨(la_give_95 h2048_ h2065_), ?_⟩
        refine ⟨(la_give_95 h2049_ h2066_), ?_⟩
        refine ⟨(la_give_95 h2050_ h2067_), ?_⟩
        refine ⟨(la_give_95 h2051_ h2068_), ?_⟩
        refine ⟨(sm_AP_s (sm_AP_F h2069_ (sm_F1_le h2006_ (Int.le_refl _)) (Int.le_refl _) (Int.le_refl _) (Int.le_refl _)) (sm_AP_F h2052_ sm_F1_rf (Int.le_refl _) (Int.le_refl _) (Int.le_refl _))), ?_⟩
        refine ⟨(sm_HB_s (sm_HB_F h2070_ (sm_F1_le h1998_ la_give_42) (Int.le_refl _) (Int.le_refl _) (Int.le_refl _) (la_give_100 h2044_)) (sm_HB_1 (by rw [((sm_F1_at h1998_ (g120 1046 0) la_give_39).trans rfl)]; exact (la_give_304 h64_ h68_ e1598_ e2015_ h2044_ h2061_ h2063_)) (sm_HB_F h2053_ sm_F1_rf (Int.le_refl _) la_give_42 (Int.le_refl _) (la_give_305 h68_ e1598_ e2015_ h2061_ h2063_)))), ?_⟩
        refine ⟨(la_give_103 h2054_ h2071_), ?_⟩
        exact trivial
      intro h2072_
      have e2073_ : (if p1 = (-1) then 0 else 1 : Int) = 1 := if_neg h2072_
      refine ⟨?_, ?_⟩
      · skip
        refine ⟨h1986_, ?_⟩
        refine ⟨h1987_, ?_⟩
        refine ⟨h1988_, ?_⟩
        refine ⟨h1989_, ?_⟩
        intro h2074_
        have h2075_ : ¬ (g120 1047 0 = 1) := fun q_ => (la_give_9 h2074_) (h1993_ q_)
        obtain ⟨h2076_, ⟨h2077_, ⟨h2078_, ⟨h2079_, ⟨h2080_, ⟨h2081_, ⟨h2082_, ⟨h2083_, ⟨h2084_, ⟨h2085_, ⟨h2086_, ⟨h2087_, ⟨h2088_, ⟨h2089_, ⟨h2090_, ⟨h2091_, -⟩⟩⟩⟩⟩⟩⟩⟩⟩⟩⟩⟩⟩⟩⟩⟩ := (h2013_ h2074_)
        have h2092_ := (h2012_ h2076_)
        obtain ⟨h2093_, ⟨h2094_, ⟨h2095_, ⟨h2096_, ⟨h2097_, ⟨h2098_, ⟨h2099_, ⟨h2100_, ⟨h2101_, ⟨h2102_, ⟨h2103_, ⟨h2104_, ⟨h2105_, ⟨h2106_, ⟨h2107_, ⟨h2108_, -⟩⟩⟩⟩⟩⟩⟩⟩⟩⟩⟩⟩⟩⟩⟩⟩ := (h1629_ h2076_)
        refine ⟨h2077_, ?_⟩
        refine ⟨la_give_105, ?_⟩
        refine ⟨la_give_106, ?_⟩
        refine ⟨(sm_ci_14 (la_give_306 h23_ (sm_KC_n h34_).2.1.1 h38_ h39_ e1598_ e2073_ (la_give_104 h22_ h2072_) h2083_ h2084_ h2086_ h2087_ h2088_ h2100_ h2101_ h2103_ h2104_ h2105_ (sm_dl_14 : sm_dl 14 p1 = (-1)) (sm_nt_14 : sm_nt 14 (g154 1046 0) (g154 1100023 (g154 1046 0)) (g154 1100023 (g154 1100023 (g154 1046 0))) = g154 1100023 (g154 1046 0)) (sm_nl_14 : sm_nl 14 (g154 1046 0) (g154 1100007 (g154 1046 0)) (g154 1100025 (g154 1046 0)) (g154 1100007 (g154 1100025 (g154 1046 0))) (g154 1100025 (g154 1100025 (g154 1046 0))) = g154 1100025 (g154 1046 0)))), ?_⟩
        refine ⟨la_give_108, ?_⟩
        intro h2109_
        have h2110_ := (h2109_.resolve_left la_give_109)
        have e2111_ : (if S 1100002 p2 ≤ S 1100002 p3 then S 1100002 p3 else S 1100002 p2 : Int) = S 1100002 p3 := if_pos (la_give_111 h2110_)
        have e2112_ : (if S 1100005 p2 ≤ S 1100005 p3 + 1 then S 1100005 p3 + 1 else S 1100005 p2 : Int) = S 1100005 p3 + 1 := if_pos (la_give_112 h2110_)
        have h2113_ := (h38_ (la_give_113 h2110_))
        have h2114_ := (h39_ (la_give_113 h2110_))
        have h2115_ := (h62_ (la_give_114 h2110_))
        have h2116_ := (h63_ (la_give_115 h2110_))
        have e2117_ : S 1100001 p3 = S 1100001 p2 := congrArg ((S 1100001)) (la_give_116 h2110_)
        have e2118_ : S 1100002 p3 = S 1100002 p2 := congrArg ((S 1100002)) (la_give_116 h2110_)
        have e2119_ : S 1100005 p3 = S 1100005 p2 := congrArg ((S 1100005)) (la_give_116 h2110_)
        have e2120_ : S 1100007 (S 1100023 (S 1046 0)) = S 1100007 (S 1046 0) := congrArg ((S 1100007)) (la_give_116 h2110_)
        have e2121_ : S 1100007 (S 1100025 (S 1046 0)) = S 1100007 (S 1046 0) := congrArg ((S 1100007)) (la_give_116 h2110_)
        have e2122_ : S 1100007 (S 1100025 (S 1046 0)) = S 1100007 (S 1100023 (S 1046 0)) := congrArg ((S 1100007)) (la_give_116 h2110_)
        have e2123_ : S 1100007 (g120 1046 0) = S 1100007 (S 1046 0) := congrArg ((S 1100007)) (la_give_116 h2110_)
        have e2124_ : S 1100007 (g120 1046 0) = S 1100007 (S 1100023 (S 1046 0)) := congrArg ((S 1100007)) (la_give_116 h2110_)
        have e2125_ : S 1100007 (g120 1046 0) = S 1100007 (S 1100025 (S 1046 0)) := congrArg ((S 1100007)) (la_give_116 h2110_)
        have e2126_ : S 1100007 (g120 1100023 (g120 1046 0)) = S 1100007 (S 1046 0) := congrArg ((S 1100007)) (la_give_116 h2110_)
        have e2127_ : S 1100007 (g120 1100023 (g120 1046 0)) = S 1100007 (S 1100023 (S 1046 0)) := congrArg ((S 1100007)) h2101_
        have e2128_ : S 1100007 (g120 1100023 (g120 1046 0)) = S 1100007 (S 1100025 (S 1046 0)) := congrArg ((S 1100007)) (la_give_116 h2110_)
        have e2129_ : S 1100007 (g120 1100023 (g120 1046 0)) = S 1100007 (g120 1046 0) := congrArg ((S 1100007)) (la_give_116 h2110_)
        have e2130_ : S 1100007 (g120 1100025 (g120 1046 0)) = S 1100007 (S 1046 0) := congrArg ((S 1100007)) (la_give_116 h2110_)
        have e2131_ : S 1100007 (g120 1100025 (g120 1046 0)) = S 1100007 (S 1100023 (S 1046 0)) := congrArg ((S 1100007)) (la_give_116 h2110_)
        have e2132_ : S 1100007 (g120 1100025 (g120 1046 0)) = S 1100007 (S 1100025 (S 1046 0)) := congrArg ((S 1100007)) h2103_
        have e2133_ : S 1100007 (g120 1100025 (g120 1046 0)) = S 1100007 (g120 1046 0) := congrArg ((S 1100007)) (la_give_116 h2110_)
        have e2134_ : S 1100007 (g120 1100025 (g120 1046 0)) = S 1100007 (g120 1100023 (g120 1046 0)) := congrArg ((S 1100007)) (la_give_116 h2110_)
        have e2135_ : S 1100007 (g154 1046 0) = S 1100007 (S 1046 0) := congrArg ((S 1100007)) (la_give_116 h2110_)
        have e2136_ : S 1100007 (g154 1046 0) = S 1100007 (S 1100023 (S 1046 0)) := congrArg ((S 1100007)) (la_give_116 h2110_)
        have e2137_ : S 1100007 (g154 1046 0) = S 1100007 (S 1100025 (S 1046 0)) := congrArg ((S 1100007)) (la_give_116 h2110_)
        have e2138_ : S 1100007 (g154 1046 0) = S 1100007 (g120 1046 0) := congrArg ((S 1100007)) (la_give_116 h2110_)
        have e2139_ : S 1100007 (g154 1046 0) = S 1100007 (g120 1100023 (g120 1046 0)) := congrArg ((S 1100007)) (la_give_116 h2110_)
        have e2140_ : S 1100007 (g154 1046 0) = S 1100007 (g120 1100025 (g120 1046 0)) := congrArg ((S 1100007)) (la_give_116 h2110_)
        have e2141_ : S 1100007 (g154 1100023 (g154 1046 0)) = S 1100007 (S 1046 0) := congrArg ((S 1100007)) (la_give_116 h2110_)
        have e2142_ : S 1100007 (g154 1100023 (g154 1046 0)) = S 1100007 (S 1100023 (S 1046 0)) := congrArg ((S 1100007)) (la_give_116 h2110_)
        have e2143_ : S 1100007 (g154 1100023 (g154 1046 0)) = S 1100007 (S 1100025 (S 1046 0)) := congrArg ((S 1100007)) (la_give_116 h2110_)
        have e2144_ : S 1100007 (g154 1100023 (g154 1046 0)) = S 1100007 (g120 1046 0) := congrArg ((S 1100007)) (la_give_116 h2110_)
        have e2145_ : S 1100007 (g154 1100023 (g154 1046 0)) = S 1100007 (g120 1100023 (g120 1046 0)) := congrArg ((S 1100007)) h2084_
        have e2146_ : S 1100007 (g154 1100023 (g154 1046 0)) = S 1100007 (g120 1100025 (g120 1046 0)) := congrArg ((S 1100007)) (la_give_116 h2110_)
        have e2147_ : S 1100007 (g154 1100023 (g154 1046 0)) = S 1100007 (g154 1046 0) := congrArg ((S 1100007)) (la_give_116 h2110_)
        have e2148_ : S 1100007 (g154 1100025 (g154 1046 0)) = S 1100007 (S 1046 0) := congrArg ((S 1100007)) (la_give_116 h2110_)
        have e2149_ : S 1100007 (g154 1100025 (g154 1046 0)) = S 1100007 (S 1100023 (S 1046 0)) := congrArg ((S 1100007)) (la_give_116 h2110_)
        have e2150_ : S 1100007 (g154 1100025 (g154 1046 0)) = S 1100007 (S 1100025 (S 1046 0)) := congrArg ((S 1100007)) (la_give_116 h2110_)
        have e2151_ : S 1100007 (g154 1100025 (g154 1046 0)) = S 1100007 (g120 1046 0) := congrArg ((S 1100007)) (la_give_116 h2110_)
        have e2152_ : S 1100007 (g154 1100025 (g154 1046 0)) = S 1100007 (g120 1100023 (g120 1046 0)) := congrArg ((S 1100007)) (la_give_116 h2110_)
        have e2153_ : S 1100007 (g154 1100025 (g154 1046 0)) = S 1100007 (g120 1100025 (g120 1046 0)) := congrArg ((S 1100007)) h2086_
        have e2154_ : S 1100007 (g154 1100025 (g154 1046 0)) = S 1100007 (g154 1046 0) := congrArg ((S 1100007)) (la_give_116 h2110_)
        have e2155_ : S 1100007 (g154 1100025 (g154 1046 0)) = S 1100007 (g154 1100023 (g154 1046 0)) := congrArg ((S 1100007)) (la_give_116 h2110_)
        have e2156_ : S 1100023 (g120 1046 0) = S 1100023 (S 1046 0) := congrArg ((S 1100023)) (la_give_116 h2110_)
        have e2157_ : S 1100023 (g154 1046 0) = S 1100023 (S 1046 0) := congrArg ((S 1100023)) (la_give_116 h2110_)
        have e2158_ : S 1100023 (g154 1046 0) = S 1100023 (g120 1046 0) := congrArg ((S 1100023)) (la_give_116 h2110_)
        have e2159_ : S 1100024 (g120 1046 0) = S 1100024 (S 1046 0) := congrArg ((S 1100024)) (la_give_116 h2110_)
        have e2160_ : S 1100024 (g154 1046 0) = S 1100024 (S 1046 0) := congrArg ((S 1100024)) (la_give_116 h2110_)
        have e2161_ : S 1100024 (g154 1046 0) = S 1100024 (g120 1046 0) := congrArg ((S 1100024)) (la_give_116 h2110_)
        have e2162_ : S 1100025 (g120 1046 0) = S 1100025 (S 1046 0) := congrArg ((S 1100025)) (la_give_116 h2110_)
        have e2163_ : S 1100025 (g154 1046 0) = S 1100025 (S 1046 0) := congrArg ((S 1100025)) (la_give_116 h2110_)
        have e2164_ : S 1100025 (g154 1046 0) = S 1100025 (g120 1046 0) := congrArg ((S 1100025)) (la_give_116 h2110_)
        have e2165_ : g120 1100007 (g120 1100023 (g120 1046 0)) = g120 1100007 (g120 1046 0) := congrArg ((g120 1100007)) (la_give_116 h2110_)
        have e2166_ : g120 1100007 (g120 1100025 (g120 1046 0)) = g120 1100007 (g120 1046 0) := congrArg ((g120 1100007)) (la_give_116 h2110_)
        have e2167_ : g120 1100007 (g120 1100025 (g120 1046 0)) = g120 1100007 (g120 1100023 (g120 1046 0)) := congrArg ((g120 1100007)) (la_give_116 h2110_)
        have e2168_ : g120 1100007 (g154 1046 0) = g120 1100007 (g120 1046 0) := congrArg ((g120 1100007)) (la_give_116 h2110_)
        have e2169_ : g120 1100007 (g154 1046 0) = g120 1100007 (g120 1100023 (g120 1046 0)) := congrArg ((g120 1100007)) (la_give_116 h2110_)
        have e2170_ : g120 1100007 (g154 1046 0) = g120 1100007 (g120 1100025 (g120 1046 0)) := congrArg ((g120 1100007)) (la_give_116 h2110_)
        have e2171_ : g120 1100007 (g154 1100023 (g154 1046 0)) = g120 1100007 (g120 1046 0) := congrArg ((g120 1100007)) (la_give_116 h2110_)
        have e2172_ : g120 1100007 (g154 1100023 (g154 1046 0)) = g120 1100007 (g120 1100023 (g120 1046 0)) := congrArg ((g120 1100007)) h2084_
        have e2173_ : g120 1100007 (g154 1100023 (g154 1046 0)) = g120 1100007 (g120 1100025 (g120 1046 0)) := congrArg ((g120 1100007)) (la_give_116 h2110_)
        have e2174_ : g120 1100007 (g154 1100023 (g154 1046 0)) = g120 1100007 (g154 1046 0) := congrArg ((g120 1100007)) (la_give_116 h2110_)
        have e2175_ : g120 1100007 (g154 1100025 (g154 1046 0)) = g120 1100007 (g120 1046 0) := congrArg ((g120 1100007)) (la_give_116 h2110_)
        have e2176_ : g120 1100007 (g154 1100025 (g154 1046 0)) = g120 1100007 (g120 1100023 (g120 1046 0)) := congrArg ((g120 1100007)) (la_give_116 h2110_)
        have e2177_ : g120 1100007 (g154 1100025 (g154 1046 0)) = g120 1100007 (g120 1100025 (g120 1046 0)) := congrArg ((g120 1100007)) h2086_
        have e2178_ : g120 1100007 (g154 1100025 (g154 1046 0)) = g120 1100007 (g154 1046 0) := congrArg ((g120 1100007)) (la_give_116 h2110_)
        have e2179_ : g120 1100007 (g154 1100025 (g154 1046 0)) = g120 1100007 (g154 1100023 (g154 1046 0)) := congrArg ((g120 1100007)) (la_give_116 h2110_)
        have e2180_ : g120 1100023 (g154 1046 0) = g120 1100023 (g120 1046 0) := congrArg ((g120 1100023)) (la_give_116 h2110_)
        have e2181_ : g120 1100024 (g154 1046 0) = g120 1100024 (g120 1046 0) := congrArg ((g120 1100024)) (la_give_116 h2110_)
        have e2182_ : g120 1100025 (g154 1046 0) = g120 1100025 (g120 1046 0) := congrArg ((g120 1100025)) (la_give_116 h2110_)
        have e2183_ : g154 1100007 (g154 1100023 (g154 1046 0)) = g154 1100007 (g154 1046 0) := congrArg ((g154 1100007)) (la_give_116 h2110_)
        have e2184_ : g154 1100007 (g154 1100025 (g154 1046 0)) = g154 1100007 (g154 1046 0) := congrArg ((g154 1100007)) (la_give_116 h2110_)
        have e2185_ : g154 1100007 (g154 1100025 (g154 1046 0)) = g154 1100007 (g154 1100023 (g154 1046 0)) := congrArg ((g154 1100007)) (la_give_116 h2110_)
        have e2186_ : g154 1100023 (g154 1100023 (g154 1046 0)) = g154 1100023 (g154 1046 0) := congrArg ((g154 1100023)) (la_give_116 h2110_)
        have e2187_ : g154 1100025 (g154 1100025 (g154 1046 0)) = g154 1100025 (g154 1046 0) := congrArg ((g154 1100025)) (la_give_116 h2110_)
        have e2188_ : S 1100023 (g154 1100023 (g154 1046 0)) = S 1100023 (S 1046 0) := congrArg ((S 1100023)) (la_give_116 h2110_)
        have e2189_ : S 1100023 (g154 1100023 (g154 1046 0)) = S 1100023 (g120 1046 0) := congrArg ((S 1100023)) (la_give_116 h2110_)
        have e2190_ : S 1100023 (g154 1100023 (g154 1046 0)) = S 1100023 (g154 1046 0) := congrArg ((S 1100023)) (la_give_116 h2110_)
        have e2191_ : S 1100025 (g154 1100025 (g154 1046 0)) = S 1100025 (S 1046 0) := congrArg ((S 1100025)) (la_give_116 h2110_)
        have e2192_ : S 1100025 (g154 1100025 (g154 1046 0)) = S 1100025 (g120 1046 0) := congrArg ((S 1100025)) (la_give_116 h2110_)
        have e2193_ : S 1100025 (g154 1100025 (g154 1046 0)) = S 1100025 (g154 1046 0) := congrArg ((S 1100025)) (la_give_116 h2110_)
        have e2194_ : g120 1100023 (g154 1100023 (g154 1046 0)) = g120 1100023 (g120 1046 0) := congrArg ((g120 1100023)) (la_give_116 h2110_)
        have e2195_ : g120 1100023 (g154 1100023 (g154 1046 0)) = g120 1100023 (g154 1046 0) := congrArg ((g120 1100023)) (la_give_116 h2110_)
        have e2196_ : g120 1100025 (g154 1100025 (g154 1046 0)) = g120 1100025 (g120 1046 0) := congrArg ((g120 1100025)) (la_give_116 h2110_)
        have e2197_ : g120 1100025 (g154 1100025 (g154 1046 0)) = g120 1100025 (g154 1046 0) := congrArg ((g120 1100025)) (la_give_116 h2110_)
        exact ((la_give_117 h2110_)).elim
      refine ⟨(la_give_118 h50_ h65_ h1624_ h1630_), ?_⟩
      intro g162
      rintro ⟨h2198_, ⟨h2199_, ⟨h2200_, ⟨h2201_, ⟨h2202_, ⟨h2203_, ⟨h2204_, ⟨h2205_, ⟨h2206_, ⟨h2207_, ⟨h2208_, ⟨h2209_, ⟨h2210_, ⟨h2211_, ⟨h2212_, ⟨h2213_, h2214_⟩⟩⟩⟩⟩⟩⟩⟩⟩⟩⟩⟩⟩⟩⟩⟩
      refine ⟨(la_give_24 h2200_), ?_⟩
      refine ⟨h2203_, ?_⟩
      refine ⟨h2198_, ?_⟩
      refine ⟨h2199_, ?_⟩
      refine ⟨h1990_, ?_⟩
      refine ⟨h1991_, ?_⟩
      refine ⟨(la_give_119 h1608_ h1992_ h2201_), ?_⟩
      refine ⟨(la_give_26 h33_ h2199_), ?_⟩
      refine ⟨(sm_F1_tr (sm_F1_tr (sm_F1_le h1610_ (Int.le_refl _)) h1994_ h1608_) h2206_ (la_give_25 h1608_ h1992_)), ?_⟩
      refine ⟨(sm_F1_tr (sm_F1_tr (sm_F1_le h1611_ (Int.le_refl _)) h1995_ h1608_) h2207_ (la_give_25 h1608_ h1992_)), ?_⟩
      refine ⟨(sm_F1_tr (sm_F1_tr (sm_F1_le h1612_ (Int.le_refl _)) h1996_ h1608_) h2208_ (la_give_25 h1608_ h1992_)), ?_⟩
      refine ⟨(sm_F1_tr (sm_F1_tr (sm_F1_le h1613_ (Int.le_refl _)) h1997_ h1608_) h2209_ (la_give_25 h1608_ h1992_)), ?_⟩
      refine ⟨(sm_F1_tr (sm_F1_tr (sm_F1_le h1614_ (Int.le_refl _)) h1998_ (la_give_27 h1608_)) h2210_ (la_give_120 h1608_ h1992_)), ?_⟩
      refine ⟨(sm_F1_tr (sm_F1_tr (sm_F1_le h1615_ (Int.le_refl _)) h1999_ (la_give_27 h1608_)) h2211_ (la_give_120 h1608_ h1992_)), ?_⟩
      refine ⟨(sm_F1_tr (sm_F1_tr (sm_F1_le h1616_ (Int.le_refl _)) h2000_ (la_give_27 h1608_)) h2212_ (la_give_120 h1608_ h1992_)), ?_⟩
      refine ⟨(sm_F1_tr (sm_F1_tr (sm_F1_le h1617_ (Int.le_refl _)) h2001_ (la_give_27 h1608_)) h2213_ (la_give_120 h1608_ h1992_)), ?_⟩
      refine ⟨(sm_F1_tr (sm_F1_le h1618_ (Int.le_refl _)) h2002_ h1624_), ?_⟩
      refine ⟨(sm_F1_tr (sm_F1_le h1619_ (Int.le_refl _)) h2003_ h1624_), ?_⟩
      refine ⟨(sm_F1_tr (sm_F1_le h1620_ (Int.le_refl _)) h2004_ h1624_), ?_⟩
      refine ⟨(sm_F1_tr (sm_F1_le h1621_ (Int.le_refl _)) h2005_ h1624_), ?_⟩
      refine ⟨(sm_F1_tr (sm_F1_le h1622_ (Int.le_refl _)) h2006_ h1624_), ?_⟩
      refine ⟨(sm_F1_tr (sm_F1_le h1623_ (Int.le_refl _)) h2007_ h1624_), ?_⟩
      refine ⟨(la_give_25 h1624_ h2008_), ?_⟩
      refine ⟨(la_give_37 h1625_ h2009_), ?_⟩
      refine ⟨(sm_F1_tr (sm_F1_le h1626_ (Int.le_refl _)) h2010_ (la_give_86 h1625_)), ?_⟩
      refine ⟨(la_give_87 h33_), ?_⟩
      refine ⟨?_, ?_⟩
      · skip
        intro h2215_
        by_cases c2216_ : g120 1047 0 = 1
        · skip
          have h2217_ := (h1993_ c2216_)
          have h2218_ := (h2011_ c2216_)
          have h2219_ := (h2204_ h2217_)
          have h2220_ := (h2205_ h2219_)
          exact (la_give_89 h1630_ h2218_)
        · skip
          obtain ⟨h2221_, ⟨h2222_, ⟨h2223_, ⟨h2224_, ⟨h2225_, ⟨h2226_, ⟨h2227_, ⟨h2228_, ⟨h2229_, ⟨h2230_, ⟨h2231_, ⟨h2232_, ⟨h2233_, ⟨h2234_, ⟨h2235_, ⟨h2236_, -⟩⟩⟩⟩⟩⟩⟩⟩⟩⟩⟩⟩⟩⟩⟩⟩ := (h1629_ (la_give_90 h1604_ (la_give_28 h1605_ c2216_)))
          have h2237_ := (h2012_ (la_give_90 h1604_ (la_give_28 h1605_ c2216_)))
          exact (la_give_91 h66_ h2236_ h2237_)
      intro h2238_
      have h2239_ : ¬ (g154 1047 0 = 1) := fun q_ => (la_give_9 h2238_) (h2204_ q_)
      obtain ⟨h2240_, ⟨h2241_, ⟨h2242_, ⟨h2243_, ⟨h2244_, ⟨h2245_, ⟨h2246_, ⟨h2247_, ⟨h2248_, ⟨h2249_, ⟨h2250_, ⟨h2251_, ⟨h2252_, h2253_⟩⟩⟩⟩⟩⟩⟩⟩⟩⟩⟩⟩⟩ := (h2214_ h2238_)
      have h2254_ : ¬ (g120 1047 0 = 1) := fun q_ => h2239_ (h1993_ q_)
      have h2255_ := (h2253_ la_give_121)
      obtain ⟨h2256_, ⟨h2257_, ⟨h2258_, ⟨h2259_, ⟨h2260_, ⟨h2261_, ⟨h2262_, ⟨h2263_, ⟨h2264_, ⟨h2265_, ⟨h2266_, ⟨h2267_, ⟨h2268_, ⟨h2269_, ⟨h2270_, ⟨h2271_, -⟩⟩⟩⟩⟩⟩⟩⟩⟩⟩⟩⟩⟩⟩⟩⟩ := (h2013_ h2240_)
      have h2272_ := (h2012_ h2256_)
      have h2273_ := (h2255_ la_give_123)
      obtain ⟨h2274_, ⟨h2275_, ⟨h2276_, ⟨h2277_, ⟨h2278_, ⟨h2279_, ⟨h2280_, ⟨h2281_, ⟨h2282_, ⟨h2283_, ⟨h2284_, ⟨h2285_, ⟨h2286_, ⟨h2287_, ⟨h2288_, ⟨h2289_, -⟩⟩⟩⟩⟩⟩⟩⟩⟩⟩⟩⟩⟩⟩⟩⟩ := (h1629_ h2256_)
      refine ⟨h33_, ?_⟩
      refine ⟨h2242_, ?_⟩
      refine ⟨h2258_, ?_⟩
      refine ⟨h2259_, ?_⟩
      refine ⟨(la_give_32 h2241_ h2260_), ?_⟩
      refine ⟨(la_give_124 e2073_ h2241_ h2261_ h2279_), ?_⟩
      refine ⟨(sm_FC_s (sm_FC_F h2280_ (sm_F1_tr (sm_F1_le h1997_ (Int.le_refl _)) h2209_ h1992_) (Int.le_refl _) (Int.le_refl _) (Int.le_refl _) rfl) (sm_FC_s (sm_FC_F h2262_ (sm_F1_le h2209_ (Int.le_refl _)) (Int.le_refl _) (Int.le_refl _) (Int.le_refl _) rfl) (sm_FC_1 h2245_ (sm_FC_0 h2202_)))), ?_⟩
      refine ⟨(la_give_128 e2073_ h2246_ (sm_dl_14 : sm_dl 14 p1 = (-1)) h2263_ h2281_), ?_⟩
      refine ⟨(la_give_129 h2247_ (sm_nt_14 : sm_nt 14 (g154 1046 0) (g154 1100023 (g154 1046 0)) (g154 1100023 (g154 1100023 (g154 1046 0))) = g154 1100023 (g154 1046 0)) h2264_ h2282_), ?_⟩
      refine ⟨(la_give_129 h2248_ (sm_nd_14 : sm_nd 14 (g154 1100024 (g154 1046 0)) = g154 1100024 (g154 1046 0)) h2265_ h2283_), ?_⟩
      refine ⟨(la_give_129 h2249_ (sm_nl_14 : sm_nl 14 (g154 1046 0) (g154 1100007 (g154 1046 0)) (g154 1100025 (g154 1046 0)) (g154 1100007 (g154 1100025 (g154 1046 0))) (g154 1100025 (g154 1100025 (g154 1046 0))) = g154 1100025 (g154 1046 0)) h2266_ h2284_), ?_⟩
      refine ⟨(la_give_129 h2250_ (sm_nt_14 : sm_nt 14 (g154 1100007 (g154 1046 0)) (g154 1100007 (g154 1100023 (g154 1046 0))) (g154 1100007 (g154 1100023 (g154 1100023 (g154 1046 0)))) = g154 1100007 (g154 1100023 (g154 1046 0))) h2267_ h2285_), ?_⟩
      refine ⟨(la_give_130 h2268_ h2273_ h2286_), ?_⟩
      refine ⟨(sm_AP_s (sm_AP_F h2287_ (sm_F1_le h2006_ (Int.le_refl _)) (Int.le_refl _) (Int.le_refl _) (Int.le_refl _)) (sm_AP_F h2269_ sm_F1_rf (Int.le_refl _) (Int.le_refl _) (Int.le_refl _))), ?_⟩
      refine ⟨(sm_HB_1 (by rw [((sm_F1_at h2210_ (S 1046 0) (la_give_309 h1608_ h2261_)).trans ((sm_F1_at h1998_ (S 1046 0) (la_give_310 e1598_ e2073_ h2279_)).trans ((sm_F1_at h1614_ (S 1046 0) la_give_39).trans rfl)))]; exact (la_give_311 h64_ h68_ h1608_ h2241_ h2261_)) (sm_HB_s (sm_HB_F h2288_ (sm_F1_tr (sm_F1_le h1998_ la_give_42) h2210_ (la_give_138 h2261_)) (Int.le_refl _) la_give_42 (Int.le_refl _) (la_give_137 h2241_ h2261_)) (sm_HB_1 (by rw [((sm_F1_at h2210_ (g120 1046 0) (la_give_139 h2261_)).trans ((sm_F1_at h1998_ (g120 1046 0) la_give_39).trans rfl))]; exact (la_give_315 h64_ h68_ e1598_ e2073_ h2241_ h2261_ h2279_ h2281_)) (sm_HB_s (sm_HB_F h2270_ (sm_F1_le h2210_ la_give_42) (Int.le_refl _) la_give_42 (Int.le_refl _) (la_give_316 h68_ e1598_ e2073_ h2241_ h2279_ h2281_)) (sm_HB_1 (by rw [((sm_F1_at h2210_ (g154 1046 0) la_give_39).trans rfl)]; exact (la_give_317 h64_ h68_ e1598_ e2073_ h2241_ h2261_ h2263_ h2279_ h2281_)) (sm_HB_0 h2202_)))))), ?_⟩
      refine ⟨(la_give_144 h2241_ h2271_ h2289_), ?_⟩
      exact trivial
    refine ⟨?_, ?_⟩
    · skip
      intro h2290_
      refine ⟨h1570_, ?_⟩
      refine ⟨h1571_, ?_⟩
      refine ⟨h1572_, ?_⟩
      refine ⟨h1573_, ?_⟩
      refine ⟨h1574_, ?_⟩
      refine ⟨h1575_, ?_⟩
      refine ⟨h1576_, ?_⟩
      refine ⟨h1577_, ?_⟩
      refine ⟨h1578_, ?_⟩
      refine ⟨h1579_, ?_⟩
      refine ⟨h1580_, ?_⟩
      refine ⟨h1581_, ?_⟩
      refine ⟨h1582_, ?_⟩
      refine ⟨h1583_, ?_⟩
      refine ⟨h1584_, ?_⟩
      refine ⟨h1585_, ?_⟩
      refine ⟨h1586_, ?_⟩
      refine ⟨h1587_, ?_⟩
      refine ⟨h1588_, ?_⟩
      refine ⟨h1589_, ?_⟩
      refine ⟨h1590_, ?_⟩
      refine ⟨h1591_, ?_⟩
      refine ⟨h1592_, ?_⟩
      refine ⟨h1593_, ?_⟩
      refine ⟨h1594_, ?_⟩
      refine ⟨h1595_, ?_⟩
      refine ⟨h1596_, ?_⟩
      intro h2291_
      obtain ⟨h2292_, ⟨h2293_, ⟨h2294_, ⟨h2295_, ⟨h2296_, ⟨h2297_, ⟨h2298_, ⟨h2299_, ⟨h2300_, ⟨h2301_, ⟨h2302_, ⟨h2303_, ⟨h2304_, ⟨h2305_, ⟨h2306_, ⟨h2307_, -⟩⟩⟩⟩⟩⟩⟩⟩⟩⟩⟩⟩⟩⟩⟩⟩ := (h1597_ h2291_)
      refine ⟨h33_, ?_⟩
      refine ⟨h2293_, ?_⟩
      refine ⟨h2294_, ?_⟩
      refine ⟨h2295_, ?_⟩
      refine ⟨h2296_, ?_⟩
      refine ⟨?_, ?_⟩
      · skip
        have e2308_ : (if p1 = (-1) then 0 else 1 : Int) = 0 := if_pos h2290_
        have e2309_ : S 1100007 (g115 1100023 (g115 1046 0)) = S 1100007 (S 1100023 (S 1046 0)) := congrArg ((S 1100007)) h2300_
        have e2310_ : S 1100007 (g115 1100025 (g115 1046 0)) = S 1100007 (S 1100025 (S 1046 0)) := congrArg ((S 1100007)) h2302_
        exact (la_give_146 h2297_ e2308_)
      refine ⟨h2298_, ?_⟩
      refine ⟨?_, ?_⟩
      · skip
        have e2311_ : (if p1 = (-1) then 0 else 1 : Int) = 0 := if_pos h2290_
        have e2312_ : S 1100007 (g115 1100023 (g115 1046 0)) = S 1100007 (S 1100023 (S 1046 0)) := congrArg ((S 1100007)) h2300_
        have e2313_ : S 1100007 (g115 1100025 (g115 1046 0)) = S 1100007 (S 1100025 (S 1046 0)) := congrArg ((S 1100007)) h2302_
        exact (la_give_147 h2299_ e2311_)
      refine ⟨h2300_, ?_⟩
      refine ⟨h2301_, ?_⟩
      refine ⟨h2302_, ?_⟩
      refine ⟨h2303_, ?_⟩
      refine ⟨h2304_, ?_⟩
      refine ⟨h2305_, ?_⟩
      refine ⟨h2306_, ?_⟩
      refine ⟨h2307_, ?_⟩
      exact trivial
    intro h2314_
    refine ⟨?_, ?_⟩
    · skip
      intro h2315_
      refine ⟨?_, ?_⟩
      · skip
        refine ⟨h1570_, ?_⟩
        refine ⟨h1571_, ?_⟩
        refine ⟨h1572_, ?_⟩
        refine ⟨h1573_, ?_⟩
        intro h2316_
        obtain ⟨h2317_, ⟨h2318_, ⟨h2319_, ⟨h2320_, ⟨h2321_, ⟨h2322_, ⟨h2323_, ⟨h2324_, ⟨h2325_, ⟨h2326_, ⟨h2327_, ⟨h2328_, ⟨h2329_, ⟨h2330_, ⟨h2331_, ⟨h2332_, -⟩⟩⟩⟩⟩⟩⟩⟩⟩⟩⟩⟩⟩⟩⟩⟩ := (h1597_ h2316_)
        have e2333_ : (if S 1100002 p2 ≤ S 1100002 p3 then S 1100002 p3 else S 1100002 p2 : Int) = S 1100002 p3 := if_pos (la_give_264 h2315_)
        have e2334_ : (if S 1100005 p2 ≤ S 1100005 p3 + 1 then S 1100005 p3 + 1 else S 1100005 p2 : Int) = S 1100005 p3 + 1 := if_pos (la_give_265 h2315_)
        have h2335_ := (h38_ (la_give_266 h2315_))
        have h2336_ := (h39_ (la_give_266 h2315_))
        have h2337_ := (h62_ (la_give_267 h2315_))
        have h2338_ := (h63_ (la_give_268 h2315_))
        refine ⟨h2318_, ?_⟩
        refine ⟨la_give_148, ?_⟩
        refine ⟨la_give_149, ?_⟩
        refine ⟨(sm_ci_19 (la_give_318 h2315_)), ?_⟩
        refine ⟨la_give_151, ?_⟩
        intro h2339_
        have h2340_ := (h2339_.resolve_left la_give_152)
        have e2341_ : S 1100001 p3 = S 1100001 p2 := congrArg ((S 1100001)) (la_give_271 h2315_)
        have e2342_ : S 1100002 p3 = S 1100002 p2 := congrArg ((S 1100002)) (la_give_271 h2315_)
        have e2343_ : S 1100005 p3 = S 1100005 p2 := congrArg ((S 1100005)) (la_give_271 h2315_)
        have e2344_ : S 1100007 (S 1100023 (S 1046 0)) = S 1100007 (S 1046 0) := congrArg ((S 1100007)) (la_give_271 h2315_)
        have e2345_ : S 1100007 (S 1100025 (S 1046 0)) = S 1100007 (S 1046 0) := congrArg ((S 1100007)) (la_give_271 h2315_)
        have e2346_ : S 1100007 (S 1100025 (S 1046 0)) = S 1100007 (S 1100023 (S 1046 0)) := congrArg ((S 1100007)) (la_give_271 h2315_)
        have e2347_ : S 1100007 (g115 1046 0) = S 1100007 (S 1046 0) := congrArg ((S 1100007)) (la_give_271 h2315_)
        have e2348_ : S 1100007 (g115 1046 0) = S 1100007 (S 1100023 (S 1046 0)) := congrArg ((S 1100007)) (la_give_271 h2315_)
        have e2349_ : S 1100007 (g115 1046 0) = S 1100007 (S 1100025 (S 1046 0)) := congrArg ((S 1100007)) (la_give_271 h2315_)
        have e2350_ : S 1100007 (g115 1100023 (g115 1046 0)) = S 1100007 (S 1046 0) := congrArg ((S 1100007)) (la_give_271 h2315_)
        have e2351_ : S 1100007 (g115 1100023 (g115 1046 0)) = S 1100007 (S 1100023 (S 1046 0)) := congrArg ((S 1100007)) h2325_
        have e2352_ : S 1100007 (g115 1100023 (g115 1046 0)) = S 1100007 (S 1100025 (S 1046 0)) := congrArg ((S 1100007)) (la_give_271 h2315_)
        have e2353_ : S 1100007 (g115 1100023 (g115 1046 0)) = S 1100007 (g115 1046 0) := congrArg ((S 1100007)) (la_give_271 h2315_)
        have e2354_ : S 1100007 (g115 1100025 (g115 1046 0)) = S 1100007 (S 1046 0) := congrArg ((S 1100007)) (la_give_271 h2315_)
        have e2355_ : S 1100007 (g115 1100025 (g115 1046 0)) = S 1100007 (S 1100023 (S 1046 0)) := congrArg ((S 1100007)) (la_give_271 h2315_)
        have e2356_ : S 1100007 (g115 1100025 (g115 1046 0)) = S 1100007 (S 1100025 (S 1046 0)) := congrArg ((S 1100007)) h2327_
        have e2357_ : S 1100007 (g115 1100025 (g115 1046 0)) = S 1100007 (g115 1046 0) := congrArg ((S 1100007)) (la_give_271 h2315_)
        have e2358_ : S 1100007 (g115 1100025 (g115 1046 0)) = S 1100007 (g115 1100023 (g115 1046 0)) := congrArg ((S 1100007)) (la_give_271 h2315_)
        have e2359_ : S 1100023 (g115 1046 0) = S 1100023 (S 1046 0) := congrArg ((S 1100023)) (la_give_271 h2315_)
        have e2360_ : S 1100024 (g115 1046 0) = S 1100024 (S 1046 0) := congrArg ((S 1100024)) (la_give_271 h2315_)
        have e2361_ : S 1100025 (g115 1046 0) = S 1100025 (S 1046 0) := congrArg ((S 1100025)) (la_give_271 h2315_)
        have e2362_ : g115 1100007 (g115 1100023 (g115 1046 0)) = g115 1100007 (g115 1046 0) := congrArg ((g115 1100007)) (la_give_271 h2315_)
        have e2363_ : g115 1100007 (g115 1100025 (g115 1046 0)) = g115 1100007 (g115 1046 0) := congrArg ((g115 1100007)) (la_give_271 h2315_)
        have e2364_ : g115 1100007 (g115 1100025 (g115 1046 0)) = g115 1100007 (g115 1100023 (g115 1046 0)) := congrArg ((g115 1100007)) (la_give_271 h2315_)
        have e2365_ : g115 1100023 (g115 1100023 (g115 1046 0)) = g115 1100023 (g115 1046 0) := congrArg ((g115 1100023)) (la_give_271 h2315_)
        have e2366_ : g115 1100025 (g115 1100025 (g115 1046 0)) = g115 1100025 (g115 1046 0) := congrArg ((g115 1100025)) (la_give_271 h2315_)
        have e2367_ : S 1100023 (g115 1100023 (g115 1046 0)) = S 1100023 (S 1046 0) := congrArg ((S 1100023)) (la_give_271 h2315_)
        have e2368_ : S 1100023 (g115 1100023 (g115 1046 0)) = S 1100023 (g115 1046 0) := congrArg ((S 1100023)) (la_give_271 h2315_)
        have e2369_ : S 1100025 (g115 1100025 (g115 1046 0)) = S 1100025 (S 1046 0) := congrArg ((S 1100025)) (la_give_271 h2315_)
        have e2370_ : S 1100025 (g115 1100025 (g115 1046 0)) = S 1100025 (g115 1046 0) := congrArg ((S 1100025)) (la_give_271 h2315_)
        exact ((la_give_272 h2315_)).elim
      refine ⟨(la_give_273 h2315_), ?_⟩
      intro g171
      rintro ⟨h2371_, ⟨h2372_, ⟨h2373_, ⟨h2374_, ⟨h2375_, ⟨h2376_, ⟨h2377_, ⟨h2378_, ⟨h2379_, ⟨h2380_, ⟨h2381_, ⟨h2382_, ⟨h2383_, ⟨h2384_, ⟨h2385_, ⟨h2386_, h2387_⟩⟩⟩⟩⟩⟩⟩⟩⟩⟩⟩⟩⟩⟩⟩⟩
      have e2388_ : (if S 1100002 p2 ≤ S 1100002 p3 then S 1100002 p3 else S 1100002 p2 : Int) = S 1100002 p3 := if_pos (la_give_264 h2315_)
      have e2389_ : (if S 1100005 p2 ≤ S 1100005 p3 + 1 then S 1100005 p3 + 1 else S 1100005 p2 : Int) = S 1100005 p3 + 1 := if_pos (la_give_265 h2315_)
      have h2390_ := (h38_ (la_give_266 h2315_))
      have h2391_ := (h39_ (la_give_266 h2315_))
      have h2392_ := (h62_ (la_give_267 h2315_))
      have h2393_ := (h63_ (la_give_268 h2315_))
      have h2394_ := (h2377_ (la_give_274 h2315_))
      have h2395_ := (h2378_ h2394_)
      obtain ⟨h2396_, ⟨h2397_, ⟨h2398_, ⟨h2399_, ⟨h2400_, ⟨h2401_, ⟨h2402_, ⟨h2403_, ⟨h2404_, ⟨h2405_, ⟨h2406_, ⟨h2407_, ⟨h2408_, ⟨h2409_, ⟨h2410_, ⟨h2411_, -⟩⟩⟩⟩⟩⟩⟩⟩⟩⟩⟩⟩⟩⟩⟩⟩ := (h1597_ (la_give_275 h2315_))
      obtain ⟨h2412_, ⟨h2413_, ⟨h2414_, ⟨h2415_, ⟨h2416_, ⟨h2417_, ⟨h2418_, ⟨h2419_, ⟨h2420_, ⟨h2421_, ⟨h2422_, ⟨h2423_, ⟨h2424_, h2425_⟩⟩⟩⟩⟩⟩⟩⟩⟩⟩⟩⟩⟩ := (h2387_ (la_give_275 h2315_))
      have h2426_ := (h2395_.resolve_left (la_give_276 h2315_))
      have h2427_ := (h2423_ (la_give_319 h2315_))
      have h2428_ := (h2424_ (la_give_320 h2315_))
      have h2429_ := (h2425_ la_give_161)
      have h2430_ := (h2428_ (la_give_266 h2315_))
      have h2431_ := (h2429_ la_give_163)
      have h2432_ := (h2430_ (la_give_271 h2315_))
      refine ⟨?_, ?_⟩
      · skip
        refine ⟨(sm_KC_n h2414_).1.1, ?_⟩
        refine ⟨h2376_, ?_⟩
        refine ⟨h2371_, ?_⟩
        refine ⟨h2372_, ?_⟩
        intro h2433_
        refine ⟨h2414_, ?_⟩
        refine ⟨la_give_164, ?_⟩
        refine ⟨la_give_165, ?_⟩
        refine ⟨(sm_ci_10 (la_give_321 h2315_)), ?_⟩
        refine ⟨la_give_167, ?_⟩
        intro h2434_
        have h2435_ := (h2434_.resolve_left la_give_168)
        have e2436_ : S 1100001 p3 = S 1100001 p2 := congrArg ((S 1100001)) (la_give_271 h2315_)
        have e2437_ : S 1100002 p3 = S 1100002 p2 := congrArg ((S 1100002)) (la_give_271 h2315_)
        have e2438_ : S 1100005 p3 = S 1100005 p2 := congrArg ((S 1100005)) (la_give_271 h2315_)
        have e2439_ : S 1100007 (S 1100023 (S 1046 0)) = S 1100007 (S 1046 0) := congrArg ((S 1100007)) (la_give_271 h2315_)
        have e2440_ : S 1100007 (S 1100025 (S 1046 0)) = S 1100007 (S 1046 0) := congrArg ((S 1100007)) (la_give_271 h2315_)
        have e2441_ : S 1100007 (S 1100025 (S 1046 0)) = S 1100007 (S 1100023 (S 1046 0)) := congrArg ((S 1100007)) (la_give_271 h2315_)
        have e2442_ : S 1100007 (g115 1046 0) = S 1100007 (S 1046 0) := congrArg ((S 1100007)) (la_give_271 h2315_)
        have e2443_ : S 1100007 (g115 1046 0) = S 1100007 (S 1100023 (S 1046 0)) := congrArg ((S 1100007)) (la_give_271 h2315_)
        have e2444_ : S 1100007 (g115 1046 0) = S 1100007 (S 1100025 (S 1046 0)) := congrArg ((S 1100007)) (la_give_271 h2315_)
        have e2445_ : S 1100007 (g115 1100023 (g115 1046 0)) = S 1100007 (S 1046 0) := congrArg ((S 1100007)) (la_give_271 h2315_)
        have e2446_ : S 1100007 (g115 1100023 (g115 1046 0)) = S 1100007 (S 1100023 (S 1046 0)) := congrArg ((S 1100007)) h2404_
        have e2447_ : S 1100007 (g115 1100023 (g115 1046 0)) = S 1100007 (S 1100025 (S 1046 0)) := congrArg ((S 1100007)) (la_give_271 h2315_)
        have e2448_ : S 1100007 (g115 1100023 (g115 1046 0)) = S 1100007 (g115 1046 0) := congrArg ((S 1100007)) (la_give_271 h2315_)
        have e2449_ : S 1100007 (g115 1100025 (g115 1046 0)) = S 1100007 (S 1046 0) := congrArg ((S 1100007)) (la_give_271 h2315_)
        have e2450_ : S 1100007 (g115 1100025 (g115 1046 0)) = S 1100007 (S 1100023 (S 1046 0)) := congrArg ((S 1100007)) (la_give_271 h2315_)
        have e2451_ : S 1100007 (g115 1100025 (g115 1046 0)) = S 1100007 (S 1100025 (S 1046 0)) := congrArg ((S 1100007)) h2406_
        have e2452_ : S 1100007 (g115 1100025 (g115 1046 0)) = S 1100007 (g115 1046 0) := congrArg ((S 1100007)) (la_give_271 h2315_)
        have e2453_ : S 1100007 (g115 1100025 (g115 1046 0)) = S 1100007 (g115 1100023 (g115 1046 0)) := congrArg ((S 1100007)) (la_give_271 h2315_)
        have e2454_ : S 1100007 (g115 1100025 (g115 1100025 (g115 1046 0))) = S 1100007 (S 1046 0) := congrArg ((S 1100007)) (la_give_271 h2315_)
        have e2455_ : S 1100007 (g115 1100025 (g115 1100025 (g115 1046 0))) = S 1100007 (S 1100023 (S 1046 0)) := congrArg ((S 1100007)) (la_give_271 h2315_)
        have e2456_ : S 1100007 (g115 1100025 (g115 1100025 (g115 1046 0))) = S 1100007 (S 1100025 (S 1046 0)) := congrArg ((S 1100007)) (la_give_271 h2315_)
        have e2457_ : S 1100007 (g115 1100025 (g115 1100025 (g115 1046 0))) = S 1100007 (g115 1046 0) := congrArg ((S 1100007)) (la_give_271 h2315_)
        have e2458_ : S 1100007 (g115 1100025 (g115 1100025 (g115 1046 0))) = S 1100007 (g115 1100023 (g115 1046 0)) := congrArg ((S 1100007)) (la_give_271 h2315_)
        have e2459_ : S 1100007 (g115 1100025 (g115 1100025 (g115 1046 0))) = S 1100007 (g115 1100025 (g115 1046 0)) := congrArg ((S 1100007)) (la_give_271 h2315_)
        have e2460_ : S 1100007 (g171 1046 0) = S 1100007 (S 1046 0) := congrArg ((S 1100007)) (la_give_271 h2315_)
        have e2461_ : S 1100007 (g171 1046 0) = S 1100007 (S 1100023 (S 1046 0)) := congrArg ((S 1100007)) (la_give_271 h2315_)
        have e2462_ : S 1100007 (g171 1046 0) = S 1100007 (S 1100025 (S 1046 0)) := congrArg ((S 1100007)) (la_give_271 h2315_)
        have e2463_ : S 1100007 (g171 1046 0) = S 1100007 (g115 1046 0) := congrArg ((S 1100007)) (la_give_271 h2315_)
        have e2464_ : S 1100007 (g171 1046 0) = S 1100007 (g115 1100023 (g115 1046 0)) := congrArg ((S 1100007)) (la_give_271 h2315_)
        have e2465_ : S 1100007 (g171 1046 0) = S 1100007 (g115 1100025 (g115 1046 0)) := congrArg ((S 1100007)) (la_give_271 h2315_)
        have e2466_ : S 1100007 (g171 1046 0) = S 1100007 (g115 1100025 (g115 1100025 (g115 1046 0))) := congrArg ((S 1100007)) (la_give_271 h2315_)
        have e2467_ : S 1100007 (g171 1100023 (g171 1046 0)) = S 1100007 (S 1046 0) := congrArg ((S 1100007)) (la_give_271 h2315_)
        have e2468_ : S 1100007 (g171 1100023 (g171 1046 0)) = S 1100007 (S 1100023 (S 1046 0)) := congrArg ((S 1100007)) (la_give_271 h2315_)
        have e2469_ : S 1100007 (g171 1100023 (g171 1046 0)) = S 1100007 (S 1100025 (S 1046 0)) := congrArg ((S 1100007)) (la_give_271 h2315_)
        have e2470_ : S 1100007 (g171 1100023 (g171 1046 0)) = S 1100007 (g115 1046 0) := congrArg ((S 1100007)) (la_give_271 h2315_)
        have e2471_ : S 1100007 (g171 1100023 (g171 1046 0)) = S 1100007 (g115 1100023 (g115 1046 0)) := congrArg ((S 1100007)) (la_give_271 h2315_)
        have e2472_ : S 1100007 (g171 1100023 (g171 1046 0)) = S 1100007 (g115 1100025 (g115 1046 0)) := congrArg ((S 1100007)) (la_give_271 h2315_)
        have e2473_ : S 1100007 (g171 1100023 (g171 1046 0)) = S 1100007 (g115 1100025 (g115 1100025 (g115 1046 0))) := congrArg ((S 1100007)) (la_give_271 h2315_)
        have e2474_ : S 1100007 (g171 1100023 (g171 1046 0)) = S 1100007 (g171 1046 0) := congrArg ((S 1100007)) (la_give_271 h2315_)
        have e2475_ : S 1100007 (g171 1100025 (g171 1046 0)) = S 1100007 (S 1046 0) := congrArg ((S 1100007)) (la_give_271 h2315_)
        have e2476_ : S 1100007 (g171 1100025 (g171 1046 0)) = S 1100007 (S 1100023 (S 1046 0)) := congrArg ((S 1100007)) (la_give_271 h2315_)
        have e2477_ : S 1100007 (g171 1100025 (g171 1046 0)) = S 1100007 (S 1100025 (S 1046 0)) := congrArg ((S 1100007)) (la_give_271 h2315_)
        have e2478_ : S 1100007 (g171 1100025 (g171 1046 0)) = S 1100007 (g115 1046 0) := congrArg ((S 1100007)) (la_give_271 h2315_)
        have e2479_ : S 1100007 (g171 1100025 (g171 1046 0)) = S 1100007 (g115 1100023 (g115 1046 0)) := congrArg ((S 1100007)) (la_give_271 h2315_)
        have e2480_ : S 1100007 (g171 1100025 (g171 1046 0)) = S 1100007 (g115 1100025 (g115 1046 0)) := congrArg ((S 1100007)) (la_give_271 h2315_)
        have e2481_ : S 1100007 (g171 1100025 (g171 1046 0)) = S 1100007 (g115 1100025 (g115 1100025 (g115 1046 0))) := congrArg ((S 1100007)) (la_give_271 h2315_)
        have e2482_ : S 1100007 (g171 1100025 (g171 1046 0)) = S 1100007 (g171 1046 0) := congrArg ((S 1100007)) (la_give_271 h2315_)
        have e2483_ : S 1100007 (g171 1100025 (g171 1046 0)) = S 1100007 (g171 1100023 (g171 1046 0)) := congrArg ((S 1100007)) (la_give_271 h2315_)
        have e2484_ : S 1100023 (g115 1046 0) = S 1100023 (S 1046 0) := congrArg ((S 1100023)) (la_give_271 h2315_)
        have e2485_ : S 1100023 (g171 1046 0) = S 1100023 (S 1046 0) := congrArg ((S 1100023)) (la_give_271 h2315_)
        have e2486_ : S 1100023 (g171 1046 0) = S 1100023 (g115 1046 0) := congrArg ((S 1100023)) (la_give_271 h2315_)
        have e2487_ : S 1100024 (g115 1046 0) = S 1100024 (S 1046 0) := congrArg ((S 1100024)) (la_give_271 h2315_)
        have e2488_ : S 1100024 (g171 1046 0) = S 1100024 (S 1046 0) := congrArg ((S 1100024)) (la_give_271 h2315_)
        have e2489_ : S 1100024 (g171 1046 0) = S 1100024 (g115 1046 0) := congrArg ((S 1100024)) (la_give_271 h2315_)
        have e2490_ : S 1100025 (g115 1046 0) = S 1100025 (S 1046 0) := congrArg ((S 1100025)) (la_give_271 h2315_)
        have e2491_ : S 1100025 (g115 1100025 (g115 1046 0)) = S 1100025 (S 1046 0) := congrArg ((S 1100025)) (la_give_271 h2315_)
        have e2492_ : S 1100025 (g115 1100025 (g115 1046 0)) = S 1100025 (g115 1046 0) := congrArg ((S 1100025)) (la_give_271 h2315_)
        have e2493_ : S 1100025 (g171 1046 0) = S 1100025 (S 1046 0) := congrArg ((S 1100025)) (la_give_271 h2315_)
        have e2494_ : S 1100025 (g171 1046 0) = S 1100025 (g115 1046 0) := congrArg ((S 1100025)) (la_give_271 h2315_)
        have e2495_ : S 1100025 (g171 1046 0) = S 1100025 (g115 1100025 (g115 1046 0)) := congrArg ((S 1100025)) (la_give_271 h2315_)
        have e2496_ : g115 1100007 (g115 1100023 (g115 1046 0)) = g115 1100007 (g115 1046 0) := congrArg ((g115 1100007)) (la_give_271 h2315_)
        have e2497_ : g115 1100007 (g115 1100023 (g115 1100023 (g115 1046 0))) = g115 1100007 (g115 1046 0) := congrArg ((g115 1100007)) (la_give_271 h2315_)
        have e2498_ : g115 1100007 (g115 1100023 (g115 1100023 (g115 1046 0))) = g115 1100007 (g115 1100023 (g115 1046 0)) := congrArg ((g115 1100007)) (la_give_271 h2315_)
        have e2499_ : g115 1100007 (g115 1100025 (g115 1046 0)) = g115 1100007 (g115 1046 0) := congrArg ((g115 1100007)) (la_give_271 h2315_)
        have e2500_ : g115 1100007 (g115 1100025 (g115 1046 0)) = g115 1100007 (g115 1100023 (g115 1046 0)) := congrArg ((g115 1100007)) (la_give_271 h2315_)
        have e2501_ : g115 1100007 (g115 1100025 (g115 1046 0)) = g115 1100007 (g115 1100023 (g115 1100023 (g115 1046 0))) := congrArg ((g115 1100007)) (la_give_271 h2315_)
        have e2502_ : g115 1100007 (g115 1100025 (g115 1100025 (g115 1046 0))) = g115 1100007 (g115 1046 0) := congrArg ((g115 1100007)) (la_give_271 h2315_)
        have e2503_ : g115 1100007 (g115 1100025 (g115 1100025 (g115 1046 0))) = g115 1100007 (g115 1100023 (g115 1046 0)) := congrArg ((g115 1100007)) (la_give_271 h2315_)
        have e2504_ : g115 1100007 (g115 1100025 (g115 1100025 (g115 1046 0))) = g115 1100007 (g115 1100023 (g115 1100023 (g115 1046 0))) := congrArg ((g115 1100007)) (la_give_271 h2315_)
        have e2505_ : g115 1100007 (g115 1100025 (g115 1100025 (g115 1046 0))) = g115 1100007 (g115 1100025 (g115 1046 0)) := congrArg ((g115 1100007)) (la_give_271 h2315_)
        have e2506_ : g115 1100007 (g171 1046 0) = g115 1100007 (g115 1046 0) := congrArg ((g115 1100007)) (la_give_271 h2315_)
        have e2507_ : g115 1100007 (g171 1046 0) = g115 1100007 (g115 1100023 (g115 1046 0)) := congrArg ((g115 1100007)) (la_give_271 h2315_)
        have e2508_ : g115 1100007 (g171 1046 0) = g115 1100007 (g115 1100023 (g115 1100023 (g115 1046 0))) := congrArg ((g115 1100007)) (la_give_271 h2315_)
        have e2509_ : g115 1100007 (g171 1046 0) = g115 1100007 (g115 1100025 (g115 1046 0)) := congrArg ((g115 1100007)) (la_give_271 h2315_)
        have e2510_ : g115 1100007 (g171 1046 0) = g115 1100007 (g115 1100025 (g115 1100025 (g115 1046 0))) := congrArg ((g115 1100007)) (la_give_271 h2315_)
        have e2511_ : g115 1100007 (g171 1100023 (g171 1046 0)) = g115 1100007 (g115 1046 0) := congrArg ((g115 1100007)) (la_give_271 h2315_)
        have e2512_ : g115 1100007 (g171 1100023 (g171 1046 0)) = g115 1100007 (g115 1100023 (g115 1046 0)) := congrArg ((g115 1100007)) (la_give_271 h2315_)
        have e2513_ : g115 1100007 (g171 1100023 (g171 1046 0)) = g115 1100007 (g115 1100023 (g115 1100023 (g115 1046 0))) := congrArg ((g115 1100007)) (la_give_271 h2315_)
        have e2514_ : g115 1100007 (g171 1100023 (g171 1046 0)) = g115 1100007 (g115 1100025 (g115 1046 0)) := congrArg ((g115 1100007)) (la_give_271 h2315_)
        have e2515_ : g115 1100007 (g171 1100023 (g171 1046 0)) = g115 1100007 (g115 1100025 (g115 1100025 (g115 1046 0))) := congrArg ((g115 1100007)) (la_give_271 h2315_)
        have e2516_ : g115 1100007 (g171 1100023 (g171 1046 0)) = g115 1100007 (g171 1046 0) := congrArg ((g115 1100007)) (la_give_271 h2315_)
        have e2517_ : g115 1100007 (g171 1100025 (g171 1046 0)) = g115 1100007 (g115 1046 0) := congrArg ((g115 1100007)) (la_give_271 h2315_)
        have e2518_ : g115 1100007 (g171 1100025 (g171 1046 0)) = g115 1100007 (g115 1100023 (g115 1046 0)) := congrArg ((g115 1100007)) (la_give_271 h2315_)
        have e2519_ : g115 1100007 (g171 1100025 (g171 1046 0)) = g115 1100007 (g115 1100023 (g115 1100023 (g115 1046 0))) := congrArg ((g115 1100007)) (la_give_271 h2315_)
        have e2520_ : g115 1100007 (g171 1100025 (g171 1046 0)) = g115 1100007 (g115 1100025 (g115 1046 0)) := congrArg ((g115 1100007)) (la_give_271 h2315_)
        have e2521_ : g115 1100007 (g171 1100025 (g171 1046 0)) = g115 1100007 (g115 1100025 (g115 1100025 (g115 1046 0))) := congrArg ((g115 1100007)) (la_give_271 h2315_)
        have e2522_ : g115 1100007 (g171 1100025 (g171 1046 0)) = g115 1100007 (g171 1046 0) := congrArg ((g115 1100007)) (la_give_271 h2315_)
        have e2523_ : g115 1100007 (g171 1100025 (g171 1046 0)) = g115 1100007 (g171 1100023 (g171 1046 0)) := congrArg ((g115 1100007)) (la_give_271 h2315_)
        have e2524_ : g115 1100023 (g115 1100023 (g115 1046 0)) = g115 1100023 (g115 1046 0) := congrArg ((g115 1100023)) (la_give_271 h2315_)
        have e2525_ : g115 1100023 (g171 1046 0) = g115 1100023 (g115 1046 0) := congrArg ((g115 1100023)) (la_give_271 h2315_)
        have e2526_ : g115 1100023 (g171 1046 0) = g115 1100023 (g115 1100023 (g115 1046 0)) := congrArg ((g115 1100023)) (la_give_271 h2315_)
        have e2527_ : g115 1100024 (g171 1046 0) = g115 1100024 (g115 1046 0) := congrArg ((g115 1100024)) (la_give_271 h2315_)
        have e2528_ : g115 1100025 (g115 1100025 (g115 1046 0)) = g115 1100025 (g115 1046 0) := congrArg ((g115 1100025)) (la_give_271 h2315_)
        have e2529_ : g115 1100025 (g171 1046 0) = g115 1100025 (g115 1046 0) := congrArg ((g115 1100025)) (la_give_271 h2315_)
        have e2530_ : g115 1100025 (g171 1046 0) = g115 1100025 (g115 1100025 (g115 1046 0)) := congrArg ((g115 1100025)) (la_give_271 h2315_)
        have e2531_ : g171 1100007 (g171 1100023 (g171 1046 0)) = g171 1100007 (g171 1046 0) := congrArg ((g171 1100007)) (la_give_271 h2315_)
        have e2532_ : g171 1100007 (g171 1100025 (g171 1046 0)) = g171 1100007 (g171 1046 0) := congrArg ((g171 1100007)) (la_give_271 h2315_)
        have e2533_ : g171 1100007 (g171 1100025 (g171 1046 0)) = g171 1100007 (g171 1100023 (g171 1046 0)) := congrArg ((g171 1100007)) (la_give_271 h2315_)
        have e2534_ : g171 1100023 (g171 1100023 (g171 1046 0)) = g171 1100023 (g171 1046 0) := congrArg ((g171 1100023)) (la_give_271 h2315_)
        have e2535_ : g171 1100025 (g171 1100025 (g171 1046 0)) = g171 1100025 (g171 1046 0) := congrArg ((g171 1100025)) (la_give_271 h2315_)
        have e2536_ : S 1100007 (g115 1100023 (g115 1100023 (g115 1046 0))) = S 1100007 (S 1046 0) := congrArg ((S 1100007)) (la_give_271 h2315_)
        have e2537_ : S 1100007 (g115 1100023 (g115 1100023 (g115 1046 0))) = S 1100007 (S 1100023 (S 1046 0)) := congrArg ((S 1100007)) (la_give_271 h2315_)
        have e2538_ : S 1100007 (g115 1100023 (g115 1100023 (g115 1046 0))) = S 1100007 (S 1100025 (S 1046 0)) := congrArg ((S 1100007)) (la_give_271 h2315_)
        have e2539_ : S 1100007 (g115 1100023 (g115 1100023 (g115 1046 0))) = S 1100007 (g115 1046 0) := congrArg ((S 1100007)) (la_give_271 h2315_)
        have e2540_ : S 1100007 (g115 1100023 (g115 1100023 (g115 1046 0))) = S 1100007 (g115 1100023 (g115 1046 0)) := congrArg ((S 1100007)) e2524_
        have e2541_ : S 1100007 (g115 1100025 (g115 1046 0)) = S 1100007 (g115 1100023 (g115 1100023 (g115 1046 0))) := congrArg ((S 1100007)) (la_give_271 h2315_)
        have e2542_ : S 1100007 (g115 1100025 (g115 1100025 (g115 1046 0))) = S 1100007 (g115 1100023 (g115 1100023 (g115 1046 0))) := congrArg ((S 1100007)) (la_give_271 h2315_)
        have e2543_ : S 1100007 (g171 1046 0) = S 1100007 (g115 1100023 (g115 1100023 (g115 1046 0))) := congrArg ((S 1100007)) (la_give_271 h2315_)
        have e2544_ : S 1100007 (g171 1100023 (g171 1046 0)) = S 1100007 (g115 1100023 (g115 1100023 (g115 1046 0))) := congrArg ((S 1100007)) (la_give_271 h2315_)
        have e2545_ : S 1100007 (g171 1100025 (g171 1046 0)) = S 1100007 (g115 1100023 (g115 1100023 (g115 1046 0))) := congrArg ((S 1100007)) (la_give_271 h2315_)
        have e2546_ : S 1100023 (g115 1100023 (g115 1046 0)) = S 1100023 (S 1046 0) := congrArg ((S 1100023)) (la_give_271 h2315_)
        have e2547_ : S 1100023 (g115 1100023 (g115 1046 0)) = S 1100023 (g115 1046 0) := congrArg ((S 1100023)) (la_give_271 h2315_)
        have e2548_ : S 1100023 (g171 1046 0) = S 1100023 (g115 1100023 (g115 1046 0)) := congrArg ((S 1100023)) (la_give_271 h2315_)
        have e2549_ : S 1100023 (g171 1100023 (g171 1046 0)) = S 1100023 (S 1046 0) := congrArg ((S 1100023)) (la_give_271 h2315_)
        have e2550_ : S 1100023 (g171 1100023 (g171 1046 0)) = S 1100023 (g115 1046 0) := congrArg ((S 1100023)) (la_give_271 h2315_)
        have e2551_ : S 1100023 (g171 1100023 (g171 1046 0)) = S 1100023 (g115 1100023 (g115 1046 0)) := congrArg ((S 1100023)) (la_give_271 h2315_)
        have e2552_ : S 1100023 (g171 1100023 (g171 1046 0)) = S 1100023 (g171 1046 0) := congrArg ((S 1100023)) (la_give_271 h2315_)
        have e2553_ : S 1100025 (g171 1100025 (g171 1046 0)) = S 1100025 (S 1046 0) := congrArg ((S 1100025)) (la_give_271 h2315_)
        have e2554_ : S 1100025 (g171 1100025 (g171 1046 0)) = S 1100025 (g115 1046 0) := congrArg ((S 1100025)) (la_give_271 h2315_)
        have e2555_ : S 1100025 (g171 1100025 (g171 1046 0)) = S 1100025 (g115 1100025 (g115 1046 0)) := congrArg ((S 1100025)) (la_give_271 h2315_)
        have e2556_ : S 1100025 (g171 1100025 (g171 1046 0)) = S 1100025 (g171 1046 0) := congrArg ((S 1100025)) (la_give_271 h2315_)
        have e2557_ : g115 1100023 (g171 1100023 (g171 1046 0)) = g115 1100023 (g115 1046 0) := congrArg ((g115 1100023)) (la_give_271 h2315_)
        have e2558_ : g115 1100023 (g171 1100023 (g171 1046 0)) = g115 1100023 (g115 1100023 (g115 1046 0)) := congrArg ((g115 1100023)) (la_give_271 h2315_)
        have e2559_ : g115 1100023 (g171 1100023 (g171 1046 0)) = g115 1100023 (g171 1046 0) := congrArg ((g115 1100023)) (la_give_271 h2315_)
        have e2560_ : g115 1100025 (g171 1100025 (g171 1046 0)) = g115 1100025 (g115 1046 0) := congrArg ((g115 1100025)) (la_give_271 h2315_)
        have e2561_ : g115 1100025 (g171 1100025 (g171 1046 0)) = g115 1100025 (g115 1100025 (g115 1046 0)) := congrArg ((g115 1100025)) (la_give_271 h2315_)
        have e2562_ : g115 1100025 (g171 1100025 (g171 1046 0)) = g115 1100025 (g171 1046 0) := congrArg ((g115 1100025)) (la_give_271 h2315_)
        exact ((la_give_272 h2315_)).elim
      intro g178
      rintro ⟨h2563_, ⟨h2564_, ⟨h2565_, ⟨h2566_, ⟨h2567_, ⟨h2568_, ⟨h2569_, ⟨h2570_, ⟨h2571_, ⟨h2572_, ⟨h2573_, ⟨h2574_, ⟨h2575_, ⟨h2576_, ⟨h2577_, ⟨h2578_, h2579_⟩⟩⟩⟩⟩⟩⟩⟩⟩⟩⟩⟩⟩⟩⟩⟩
      have h2580_ := (h2569_ h2394_)
      have h2581_ := (h2570_ h2580_)
      obtain ⟨h2582_, ⟨h2583_, ⟨h2584_, ⟨h2585_, ⟨h2586_, ⟨h2587_, ⟨h2588_, ⟨h2589_, ⟨h2590_, ⟨h2591_, ⟨h2592_, ⟨h2593_, ⟨h2594_, h2595_⟩⟩⟩⟩⟩⟩⟩⟩⟩⟩⟩⟩⟩ := (h2579_ (la_give_275 h2315_))
      have h2596_ := (h2581_.resolve_left (la_give_276 h2315_))
      have h2597_ := (h2593_ (la_give_324 h2315_))
      have h2598_ := (h2594_ (la_give_325 h2315_))
      have h2599_ := (h2595_ la_give_179)
      have h2600_ := (h2598_ (la_give_266 h2315_))
      have h2601_ := (h2599_ la_give_181)
      have h2602_ := (h2600_ (la_give_271 h2315_))
      refine ⟨(sm_KC_n h2584_).1.1, ?_⟩
      refine ⟨h2568_, ?_⟩
      refine ⟨h2563_, ?_⟩
      refine ⟨h2564_, ?_⟩
      refine ⟨h1574_, ?_⟩
      refine ⟨h1575_, ?_⟩
      refine ⟨(la_give_264 h2315_), ?_⟩
      refine ⟨(la_give_279 h2315_), ?_⟩
      refine ⟨(sm_F1_tr (sm_F1_tr (sm_F1_le h1578_ (Int.le_refl _)) h2379_ h1576_) h2571_ (la_give_264 h2315_)), ?_⟩
      refine ⟨(sm_F1_tr (sm_F1_tr (sm_F1_le h1579_ (Int.le_refl _)) h2380_ h1576_) h2572_ (la_give_264 h2315_)), ?_⟩
      refine ⟨(sm_F1_tr (sm_F1_tr (sm_F1_le h1580_ (Int.le_refl _)) h2381_ h1576_) h2573_ (la_give_264 h2315_)), ?_⟩
      refine ⟨(sm_F1_tr (sm_F1_tr (sm_F1_le h1581_ (Int.le_refl _)) h2382_ h1576_) h2574_ (la_give_264 h2315_)), ?_⟩
      refine ⟨(sm_F1_tr (sm_F1_tr (sm_F1_le h1582_ (Int.le_refl _)) h2383_ (la_give_280 h2315_)) h2575_ (la_give_280 h2315_)), ?_⟩
      refine ⟨(sm_F1_tr (sm_F1_tr (sm_F1_le h1583_ (Int.le_refl _)) h2384_ (la_give_280 h2315_)) h2576_ (la_give_280 h2315_)), ?_⟩
      refine ⟨(sm_F1_tr (sm_F1_tr (sm_F1_le h1584_ (Int.le_refl _)) h2385_ (la_give_280 h2315_)) h2577_ (la_give_280 h2315_)), ?_⟩
      refine ⟨(sm_F1_tr (sm_F1_tr (sm_F1_le h1585_ (Int.le_refl _)) h2386_ (la_give_280 h2315_)) h2578_ (la_give_280 h2315_)), ?_⟩
      refine ⟨h1586_, ?_⟩
      refine ⟨h1587_, ?_⟩
      refine ⟨h1588_, ?_⟩
      refine ⟨h1589_, ?_⟩
      refine ⟨h1590_, ?_⟩
      refine ⟨h1591_, ?_⟩
      refine ⟨h1592_, ?_⟩
      refine ⟨h1593_, ?_⟩
      refine ⟨h1594_, ?_⟩
      refine ⟨h1595_, ?_⟩
      refine ⟨h1596_, ?_⟩
      intro h2603_
      refine ⟨h33_, ?_⟩
      refine ⟨h2584_, ?_⟩
      refine ⟨h2398_, ?_⟩
      refine ⟨h2399_, ?_⟩
      refine ⟨(la_give_264 h2315_), ?_⟩
      refine ⟨(la_give_326 h2315_), ?_⟩
      refine ⟨(sm_FC_0 (la_give_264 h2315_)), ?_⟩
      refine ⟨(la_give_327 h2315_), ?_⟩
      refine ⟨(la_give_271 h2315_), ?_⟩
      refine ⟨(la_give_271 h2315_), ?_⟩
      refine ⟨(la_give_271 h2315_), ?_⟩
      refine ⟨(la_give_271 h2315_), ?_⟩
      refine ⟨(la_give_271 h2315_), ?_⟩
      refine ⟨h2409_, ?_⟩
      refine ⟨(sm_HB_0 (la_give_264 h2315_)), ?_⟩
      refine ⟨(la_give_283 h2315_), ?_⟩
      exact trivial
    intro h2604_
    intro h2605_
    have h2606_ := (h2605_ h5_)
    have h2607_ := (h2606_ h24_)
    have h2608_ := (h2607_ h25_)
    have h2609_ := (h2608_ h26_)
    have h2610_ := (h2609_ h1566_)
    intro h2611_
    have h2612_ := (h2611_ h2610_)
    obtain ⟨h2613_, h2614_⟩ := (h2612_ h6_)
    refine ⟨(la_give_286 h10_ h24_ h25_), ?_⟩
    refine ⟨(la_give_118 h50_ h65_ h1592_ h1601_), ?_⟩
    refine ⟨?_, ?_⟩
    · skip
      refine ⟨h1570_, ?_⟩
      refine ⟨h1571_, ?_⟩
      refine ⟨h1572_, ?_⟩
      refine ⟨h1573_, ?_⟩
      refine ⟨h13_, ?_⟩
      refine ⟨h14_, ?_⟩
      refine ⟨h12_, ?_⟩
      refine ⟨h15_, ?_⟩
      refine ⟨la_give_211, ?_⟩
      intro h2615_
      obtain ⟨h2616_, ⟨h2617_, ⟨h2618_, ⟨h2619_, ⟨h2620_, ⟨h2621_, ⟨h2622_, ⟨h2623_, ⟨h2624_, ⟨h2625_, ⟨h2626_, ⟨h2627_, ⟨h2628_, ⟨h2629_, ⟨h2630_, ⟨h2631_, -⟩⟩⟩⟩⟩⟩⟩⟩⟩⟩⟩⟩⟩⟩⟩⟩ := (h1597_ h2615_)
      refine ⟨h2617_, ?_⟩
      refine ⟨?_, ?_⟩
      · skip
        have e2632_ : S 1100007 (g115 1100023 (g115 1046 0)) = S 1100007 (S 1100023 (S 1046 0)) := congrArg ((S 1100007)) h2624_
        have e2633_ : S 1100007 (g115 1100025 (g115 1046 0)) = S 1100007 (S 1100025 (S 1046 0)) := congrArg ((S 1100007)) h2626_
        have e2634_ : S 12 (5 * p2 + 0) = S 12 (5 * p2) := congrArg ((S 12)) la_give_229
        exact (la_give_230 h2613_ e2634_)
      refine ⟨?_, ?_⟩
      · skip
        have e2635_ : S 1100007 (g115 1100023 (g115 1046 0)) = S 1100007 (S 1100023 (S 1046 0)) := congrArg ((S 1100007)) h2624_
        have e2636_ : S 1100007 (g115 1100025 (g115 1046 0)) = S 1100007 (S 1100025 (S 1046 0)) := congrArg ((S 1100007)) h2626_
        have e2637_ : S 12 (5 * p2 + 0) = S 12 (5 * p2) := congrArg ((S 12)) la_give_229
        exact (la_give_287 h2614_ e2637_)
      refine ⟨(la_give_328 h38_ h39_ e1598_ h2623_ h2624_ h2626_ h2627_ h2628_), ?_⟩
      intro h2638_
      refine ⟨(la_give_329 h2638_), ?_⟩
      refine ⟨(la_give_330 h2638_), ?_⟩
      intro h2639_
      have h2640_ := (h38_ (la_give_331 h2638_))
      have h2641_ := (h39_ (la_give_331 h2638_))
      have h2642_ := (h63_ (la_give_332 h2638_))
      have e2643_ : (if S 1100002 p2 ≤ S 1100002 p3 then S 1100002 p3 else S 1100002 p2 : Int) = S 1100002 p3 := if_pos (la_give_333 h2638_)
      have e2644_ : (if S 1100005 p2 ≤ S 1100005 p3 + 1 then S 1100005 p3 + 1 else S 1100005 p2 : Int) = S 1100005 p3 + 1 := if_pos (la_give_334 h2638_)
      exact (la_give_335 h2638_)
    refine ⟨(la_give_292 h50_ h65_ h1592_ h1601_), ?_⟩
    intro g190
    rintro ⟨h2645_, ⟨h2646_, ⟨h2647_, ⟨h2648_, ⟨h2649_, ⟨h2650_, ⟨h2651_, ⟨h2652_, ⟨h2653_, ⟨h2654_, ⟨h2655_, ⟨h2656_, ⟨h2657_, ⟨h2658_, ⟨h2659_, ⟨h2660_, h2661_⟩⟩⟩⟩⟩⟩⟩⟩⟩⟩⟩⟩⟩⟩⟩⟩
    have e2662_ : (if (1 : Int) = 1 then 1 else 0 : Int) = 1 := if_pos h1599_
    refine ⟨(la_give_24 h2647_), ?_⟩
    refine ⟨h2650_, ?_⟩
    refine ⟨h2645_, ?_⟩
    refine ⟨h2646_, ?_⟩
    refine ⟨h1574_, ?_⟩
    refine ⟨h1575_, ?_⟩
    refine ⟨(la_give_25 h1576_ h2648_), ?_⟩
    refine ⟨(la_give_26 h33_ h2646_), ?_⟩
    refine ⟨(sm_F1_tr (sm_F1_le h1578_ (Int.le_refl _)) h2653_ h1576_), ?_⟩
    refine ⟨(sm_F1_tr (sm_F1_le h1579_ (Int.le_refl _)) h2654_ h1576_), ?_⟩
    refine ⟨(sm_F1_tr (sm_F1_le h1580_ (Int.le_refl _)) h2655_ h1576_), ?_⟩
    refine ⟨(sm_F1_tr (sm_F1_le h1581_ (Int.le_refl _)) h2656_ h1576_), ?_⟩
    refine ⟨(sm_F1_tr (sm_F1_le h1582_ (Int.le_refl _)) h2657_ (la_give_27 h1576_)), ?_⟩
    refine ⟨(sm_F1_tr (sm_F1_le h1583_ (Int.le_refl _)) h2658_ (la_give_27 h1576_)), ?_⟩
    refine ⟨(sm_F1_tr (sm_F1_le h1584_ (Int.le_refl _)) h2659_ (la_give_27 h1576_)), ?_⟩
    refine ⟨(sm_F1_tr (sm_F1_le h1585_ (Int.le_refl _)) h2660_ (la_give_27 h1576_)), ?_⟩
    refine ⟨h1586_, ?_⟩
    refine ⟨h1587_, ?_⟩
    refine ⟨h1588_, ?_⟩
    refine ⟨h1589_, ?_⟩
    refine ⟨h1590_, ?_⟩
    refine ⟨h1591_, ?_⟩
    refine ⟨h1592_, ?_⟩
    refine ⟨h1593_, ?_⟩
    refine ⟨h1594_, ?_⟩
    refine ⟨h1595_, ?_⟩
    refine ⟨h1596_, ?_⟩
    intro h2663_
    have h2664_ : ¬ (g115 1047 0 = 1) := fun q_ => (la_give_9 h2663_) (h2651_ q_)
    obtain ⟨h2665_, ⟨h2666_, ⟨h2667_, ⟨h2668_, ⟨h2669_, ⟨h2670_, ⟨h2671_, ⟨h2672_, ⟨h2673_, ⟨h2674_, ⟨h2675_, h2676_⟩⟩⟩⟩⟩⟩⟩⟩⟩⟩⟩ := (h2661_ h2663_)
    obtain ⟨h2677_, ⟨h2678_, ⟨h2679_, ⟨h2680_, ⟨h2681_, ⟨h2682_, ⟨h2683_, ⟨h2684_, ⟨h2685_, ⟨h2686_, ⟨h2687_, ⟨h2688_, ⟨h2689_, ⟨h2690_, ⟨h2691_, ⟨h2692_, -⟩⟩⟩⟩⟩⟩⟩⟩⟩⟩⟩⟩⟩⟩⟩⟩ := (h1597_ h2665_)
    refine ⟨h33_, ?_⟩
    refine ⟨h2667_, ?_⟩
    refine ⟨h2679_, ?_⟩
    refine ⟨h2680_, ?_⟩
    refine ⟨(la_give_32 h2666_ h2681_), ?_⟩
    refine ⟨?_, ?_⟩
    · skip
      have e2693_ : (if p1 = (-1) then 0 else 1 : Int) = 1 := if_neg h2314_
      have e2694_ : S 1100007 (g115 1100023 (g115 1046 0)) = S 1100007 (S 1100023 (S 1046 0)) := congrArg ((S 1100007)) h2685_
      have e2695_ : S 1100007 (g115 1100025 (g115 1046 0)) = S 1100007 (S 1100025 (S 1046 0)) := congrArg ((S 1100007)) h2687_
      have e2696_ : S 1100007 (g190 1100023 (g190 1046 0)) = S 1100007 (S 1100023 (S 1046 0)) := congrArg ((S 1100007)) (la_give_95 h2672_ h2685_)
      have e2697_ : S 1100007 (g190 1100023 (g190 1046 0)) = S 1100007 (g115 1100023 (g115 1046 0)) := congrArg ((S 1100007)) h2672_
      have e2698_ : S 1100007 (g190 1100025 (g190 1046 0)) = S 1100007 (S 1100025 (S 1046 0)) := congrArg ((S 1100007)) (la_give_95 h2674_ h2687_)
      have e2699_ : S 1100007 (g190 1100025 (g190 1046 0)) = S 1100007 (g115 1100025 (g115 1046 0)) := congrArg ((S 1100007)) h2674_
      have e2700_ : g115 1100007 (g190 1100023 (g190 1046 0)) = g115 1100007 (g115 1100023 (g115 1046 0)) := congrArg ((g115 1100007)) h2672_
      have e2701_ : g115 1100007 (g190 1100025 (g190 1046 0)) = g115 1100007 (g115 1100025 (g115 1046 0)) := congrArg ((g115 1100007)) h2674_
      exact (la_give_336 h2666_ h2682_ e2693_)
    refine ⟨(sm_FC_s (sm_FC_F h2683_ (sm_F1_le h2656_ (Int.le_refl _)) (Int.le_refl _) (Int.le_refl _) (Int.le_refl _) rfl) (sm_FC_1 h2670_ (sm_FC_0 h2649_))), ?_⟩
    refine ⟨?_, ?_⟩
    · skip
      have e2702_ : (if p1 = (-1) then 0 else 1 : Int) = 1 := if_neg h2314_
      have e2703_ : S 1100007 (g115 1100023 (g115 1046 0)) = S 1100007 (S 1100023 (S 1046 0)) := congrArg ((S 1100007)) h2685_
      have e2704_ : S 1100007 (g115 1100025 (g115 1046 0)) = S 1100007 (S 1100025 (S 1046 0)) := congrArg ((S 1100007)) h2687_
      have e2705_ : S 1100007 (g190 1100023 (g190 1046 0)) = S 1100007 (S 1100023 (S 1046 0)) := congrArg ((S 1100007)) (la_give_95 h2672_ h2685_)
      have e2706_ : S 1100007 (g190 1100023 (g190 1046 0)) = S 1100007 (g115 1100023 (g115 1046 0)) := congrArg ((S 1100007)) h2672_
      have e2707_ : S 1100007 (g190 1100025 (g190 1046 0)) = S 1100007 (S 1100025 (S 1046 0)) := congrArg ((S 1100007)) (la_give_95 h2674_ h2687_)
      have e2708_ : S 1100007 (g190 1100025 (g190 1046 0)) = S 1100007 (g115 1100025 (g115 1046 0)) := congrArg ((S 1100007)) h2674_
      have e2709_ : g115 1100007 (g190 1100023 (g190 1046 0)) = g115 1100007 (g115 1100023 (g115 1046 0)) := congrArg ((g115 1100007)) h2672_
      have e2710_ : g115 1100007 (g190 1100025 (g190 1046 0)) = g115 1100007 (g115 1100025 (g115 1046 0)) := congrArg ((g115 1100007)) h2674_
      exact (la_give_337 e2662_ h2671_ h2684_ e2702_)
    refine ⟨(la_give_95 h2672_ h2685_), ?_⟩
    refine ⟨(la_give_95 h2673_ h2686_), ?_⟩
    refine ⟨(la_give_95 h2674_ h2687_), ?_⟩
    refine ⟨(la_give_95 h2675_ h2688_), ?_⟩
    refine ⟨(la_give_95 h2676_ h2689_), ?_⟩
    refine ⟨h2690_, ?_⟩
    refine ⟨(sm_HB_s (sm_HB_F h2691_ (sm_F1_le h2657_ la_give_42) (Int.le_refl _) (Int.le_refl _) (Int.le_refl _) (la_give_339 h2666_)) (sm_HB_1 (by rw [((sm_F1_at h2657_ (g115 1046 0) la_give_39).trans rfl)]; exact (la_give_340 h64_ h68_ e1598_ h2666_ h2682_ h2684_)) (sm_HB_0 h2649_))), ?_⟩
    refine ⟨(la_give_46 h2666_ h2692_), ?_⟩
    exact trivial
  refine ⟨?_, ?_⟩
  · skip
    intro h2711_
    refine ⟨la_give_341, ?_⟩
    refine ⟨(la_give_342 h1565_), ?_⟩
    refine ⟨la_give_343, ?_⟩
    refine ⟨h16_, ?_⟩
    refine ⟨h17_, ?_⟩
    refine ⟨h18_, ?_⟩
    refine ⟨h19_, ?_⟩
    refine ⟨h20_, ?_⟩
    refine ⟨h21_, ?_⟩
    refine ⟨la_give_219, ?_⟩
    refine ⟨(la_give_344 h33_), ?_⟩
    refine ⟨sm_F1_rf, ?_⟩
    refine ⟨sm_F1_rf, ?_⟩
    refine ⟨sm_F1_rf, ?_⟩
    refine ⟨sm_F1_rf, ?_⟩
    refine ⟨sm_F1_rf, ?_⟩
    refine ⟨sm_F1_rf, ?_⟩
    refine ⟨sm_F1_rf, ?_⟩
    refine ⟨sm_F1_rf, ?_⟩
    refine ⟨sm_F1_rf, ?_⟩
    refine ⟨sm_F1_rf, ?_⟩
    refine ⟨sm_F1_rf, ?_⟩
    refine ⟨sm_F1_rf, ?_⟩
    refine ⟨sm_F1_rf, ?_⟩
    refine ⟨sm_F1_rf, ?_⟩
    refine ⟨la_give_219, ?_⟩
    refine ⟨la_give_221, ?_⟩
    refine ⟨sm_F1_rf, ?_⟩
    refine ⟨la_give_222, ?_⟩
    refine ⟨(la_give_345 h17_ h50_ h65_), ?_⟩
    intro h2712_
    refine ⟨h33_, ?_⟩
    refine ⟨h34_, ?_⟩
    refine ⟨h35_, ?_⟩
    refine ⟨h36_, ?_⟩
    refine ⟨h37_, ?_⟩
    refine ⟨?_, ?_⟩
    · skip
      have e2713_ : (if (1 : Int) = 1 then 0 else 2 : Int) = 0 := if_pos la_give_213
      exact (la_give_346 e2713_)
    refine ⟨(sm_FC_0 la_give_219), ?_⟩
    refine ⟨?_, ?_⟩
    · skip
      have e2714_ : (if (1 : Int) = 1 then 0 else 2 : Int) = 0 := if_pos la_give_213
      exact (la_give_347 e2714_)
    refine ⟨la_give_221, ?_⟩
    refine ⟨la_give_221, ?_⟩
    refine ⟨la_give_221, ?_⟩
    refine ⟨la_give_221, ?_⟩
    refine ⟨la_give_221, ?_⟩
    refine ⟨(sm_AP_0 la_give_219), ?_⟩
    refine ⟨(sm_HB_0 la_give_219), ?_⟩
    refine ⟨la_give_226, ?_⟩
    exact trivial
  intro h2715_
  intro h2716_
  have h2717_ := (h2716_ h5_)
  have h2718_ := (h2717_ h24_)
  have h2719_ := (h2718_ h25_)
  have h2720_ := (h2719_ h26_)
  obtain ⟨h2721_, ⟨h2722_, ⟨h2723_, h2724_⟩⟩⟩ := (h2720_ (la_give_348 h2715_))
  have e2725_ : (if S 1100002 p2 ≤ S 1100002 p3 then S 1100002 p3 else S 1100002 p2 : Int) = S 1100002 p3 := if_pos (la_give_349 h2715_)
  have e2726_ : (if S 1100005 p2 ≤ S 1100005 p3 + 1 then S 1100005 p3 + 1 else S 1100005 p2 : Int) = S 1100005 p3 + 1 := if_pos (la_give_350 h2715_)
  have h2727_ := (h38_ (la_give_351 h2715_))
  have h2728_ := (h39_ (la_give_351 h2715_))
  have h2729_ := (h62_ (la_give_352 h2715_))
  have h2730_ := (h63_ (la_give_353 h2715_))
  intro h2731_
  have h2732_ := (h2731_ h5_)
  have h2733_ := (h2732_ (sm_ex_e h2721_).1)
  obtain ⟨h2734_, ⟨h2735_, ⟨h2736_, h2737_⟩⟩⟩ := (h2733_ (sm_ex_e h2721_).2.1)
  obtain ⟨h2738_, ⟨h2739_, ⟨h2740_, h2741_⟩⟩⟩ := (h2734_ (sm_ex_e h2721_).2.2.1)
  obtain ⟨h2742_, ⟨h2743_, h2744_⟩⟩ := (h2735_ (la_give_354 h2715_))
  obtain ⟨h2745_, ⟨h2746_, h2747_⟩⟩ := (h2736_ (la_give_355 h2715_))
  have h2748_ := (h2737_ (la_give_352 h2715_))
  have h2749_ := (h2739_ (la_give_352 h2715_))
  have h2750_ := (h2740_ (la_give_353 h2715_))
  have h2751_ := (h2744_ (la_give_356 h2715_))
  have h2752_ := (h2747_ (la_give_357 h2715_))
  intro h2753_
  have h2754_ := (h2753_ h5_)
  have h2755_ := (h2754_ (sm_ex_e h2723_).1)
  obtain ⟨h2756_, ⟨h2757_, ⟨h2758_, h2759_⟩⟩⟩ := (h2755_ (sm_ex_e h2723_).2.1)
  obtain ⟨h2760_, ⟨h2761_, ⟨h2762_, h2763_⟩⟩⟩ := (h2756_ (sm_ex_e h2723_).2.2.1)
  obtain ⟨h2764_, ⟨h2765_, h2766_⟩⟩ := (h2757_ (la_give_354 h2715_))
  obtain ⟨h2767_, ⟨h2768_, h2769_⟩⟩ := (h2758_ (la_give_355 h2715_))
  have h2770_ := (h2759_ (la_give_352 h2715_))
  have h2771_ := (h2761_ (la_give_352 h2715_))
  have h2772_ := (h2762_ (la_give_353 h2715_))
  have h2773_ := (h2766_ (la_give_356 h2715_))
  have h2774_ := (h2769_ (la_give_357 h2715_))
  intro h2775_
  intro h2776_
  refine ⟨(la_give_358 h2715_), ?_⟩
  refine ⟨(la_give_359 h2715_), ?_⟩
  refine ⟨?_, ?_⟩
  · skip
    refine ⟨h5_, ?_⟩
    refine ⟨h6_, ?_⟩
    refine ⟨h7_, ?_⟩
    refine ⟨h8_, ?_⟩
    refine ⟨h9_, ?_⟩
    refine ⟨h10_, ?_⟩
    refine ⟨h11_, ?_⟩
    refine ⟨h12_, ?_⟩
    refine ⟨h13_, ?_⟩
    refine ⟨h14_, ?_⟩
    refine ⟨h15_, ?_⟩
    refine ⟨h16_, ?_⟩
    refine ⟨h17_, ?_⟩
    refine ⟨h18_, ?_⟩
    refine ⟨h19_, ?_⟩
    refine ⟨h20_, ?_⟩
    refine ⟨h21_, ?_⟩
    refine ⟨(la_give_351 h2715_), ?_⟩
    refine ⟨(la_give_360 h2715_), ?_⟩
    refine ⟨(la_give_361 h2715_), ?_⟩
    refine ⟨(sm_LF_0 (la_give_362 h2715_)), ?_⟩
    intro h2777_
    refine ⟨h34_, ?_⟩
    refine ⟨h35_, ?_⟩
    refine ⟨h36_, ?_⟩
    refine ⟨h37_, ?_⟩
    refine ⟨h38_, ?_⟩
    refine ⟨h39_, ?_⟩
    refine ⟨h40_, ?_⟩
    exact (la_give_363 h2715_)
  refine ⟨(la_give_364 h2715_), ?_⟩
  refine ⟨(la_give_365 h2715_), ?_⟩
  intro g207
  rintro ⟨h2778_, ⟨h2779_, ⟨h2780_, ⟨h2781_, ⟨h2782_, ⟨h2783_, ⟨h2784_, ⟨h2785_, ⟨h2786_, ⟨h2787_, ⟨h2788_, ⟨h2789_, ⟨h2790_, ⟨h2791_, ⟨h2792_, ⟨h2793_, ⟨h2794_, ⟨h2795_, ⟨h2796_, ⟨h2797_, ⟨h2798_, ⟨h2799_, ⟨h2800_, ⟨h2801_, ⟨h2802_, ⟨h2803_, ⟨h2804_, h2805_⟩⟩⟩⟩⟩⟩⟩⟩⟩⟩⟩⟩⟩⟩⟩⟩⟩⟩⟩⟩⟩⟩⟩⟩⟩⟩⟩
  have h2806_ := (h2785_ (la_give_361 h2715_))
  have h2807_ := (h2803_ (la_give_361 h2715_))
  have h2808_ := (h2804_ h33_)
  obtain ⟨h2809_, ⟨h2810_, ⟨h2811_, ⟨h2812_, ⟨h2813_, ⟨h2814_, ⟨h2815_, ⟨h2816_, ⟨h2817_, ⟨h2818_, ⟨h2819_, ⟨h2820_, ⟨h2821_, ⟨h2822_, ⟨h2823_, ⟨h2824_, -⟩⟩⟩⟩⟩⟩⟩⟩⟩⟩⟩⟩⟩⟩⟩⟩ := (h2805_ (la_give_362 h2715_))
  refine ⟨(la_give_366 h2715_), ?_⟩
  refine ⟨?_, ?_⟩
  · skip
    refine ⟨h5_, ?_⟩
    refine ⟨h6_, ?_⟩
    refine ⟨h7_, ?_⟩
    refine ⟨h8_, ?_⟩
    refine ⟨h9_, ?_⟩
    refine ⟨h10_, ?_⟩
    refine ⟨h11_, ?_⟩
    refine ⟨h12_, ?_⟩
    refine ⟨h13_, ?_⟩
    refine ⟨h14_, ?_⟩
    refine ⟨h15_, ?_⟩
    refine ⟨h2778_, ?_⟩
    refine ⟨h2779_, ?_⟩
    refine ⟨h2780_, ?_⟩
    refine ⟨h2781_, ?_⟩
    refine ⟨h2782_, ?_⟩
    refine ⟨h2783_, ?_⟩
    refine ⟨(sm_ex_e h2723_).1, ?_⟩
    refine ⟨(sm_ex_e h2723_).2.1, ?_⟩
    refine ⟨(sm_ex_e h2723_).2.2.1, ?_⟩
    refine ⟨(sm_LF_0 (la_give_362 h2715_)), ?_⟩
    intro h2825_
    refine ⟨h2810_, ?_⟩
    refine ⟨h2811_, ?_⟩
    refine ⟨h2812_, ?_⟩
    refine ⟨h2813_, ?_⟩
    refine ⟨(la_give_367 h2715_), ?_⟩
    refine ⟨(la_give_367 h2715_), ?_⟩
    refine ⟨(la_give_349 h2715_), ?_⟩
    exact (la_give_363 h2715_)
  refine ⟨(la_give_364 h2715_), ?_⟩
  refine ⟨(la_give_365 h2715_), ?_⟩
  intro g217
  rintro ⟨h2826_, ⟨h2827_, ⟨h2828_, ⟨h2829_, ⟨h2830_, ⟨h2831_, ⟨h2832_, ⟨h2833_, ⟨h2834_, ⟨h2835_, ⟨h2836_, ⟨h2837_, ⟨h2838_, ⟨h2839_, ⟨h2840_, ⟨h2841_, ⟨h2842_, ⟨h2843_, ⟨h2844_, ⟨h2845_, ⟨h2846_, ⟨h2847_, ⟨h2848_, ⟨h2849_, ⟨h2850_, ⟨h2851_, ⟨h2852_, h2853_⟩⟩⟩⟩⟩⟩⟩⟩⟩⟩⟩⟩⟩⟩⟩⟩⟩⟩⟩⟩⟩⟩⟩⟩⟩⟩⟩
  have h2854_ := (h2833_ h2806_)
  have h2855_ := (h2851_ h2806_)
  have h2856_ := (h2852_ (la_give_362 h2715_))
  obtain ⟨h2857_, ⟨h2858_, ⟨h2859_, ⟨h2860_, ⟨h2861_, ⟨h2862_, ⟨h2863_, ⟨h2864_, ⟨h2865_, ⟨h2866_, ⟨h2867_, ⟨h2868_, ⟨h2869_, ⟨h2870_, ⟨h2871_, ⟨h2872_, -⟩⟩⟩⟩⟩⟩⟩⟩⟩⟩⟩⟩⟩⟩⟩⟩ := (h2853_ (la_give_362 h2715_))
  refine ⟨la_give_341, ?_⟩
  refine ⟨(la_give_368 h2715_), ?_⟩
  refine ⟨la_give_343, ?_⟩
  refine ⟨h2826_, ?_⟩
  refine ⟨h2827_, ?_⟩
  refine ⟨h2828_, ?_⟩
  refine ⟨h2829_, ?_⟩
  refine ⟨h2830_, ?_⟩
  refine ⟨h2831_, ?_⟩
  refine ⟨(la_give_349 h2715_), ?_⟩
  refine ⟨(la_give_369 h2715_), ?_⟩
  refine ⟨(sm_F1_tr (sm_F1_le h2786_ (Int.le_refl _)) h2834_ h2784_), ?_⟩
  refine ⟨(sm_F1_tr (sm_F1_le h2787_ (Int.le_refl _)) h2835_ h2784_), ?_⟩
  refine ⟨(sm_F1_tr (sm_F1_le h2788_ (Int.le_refl _)) h2836_ h2784_), ?_⟩
  refine ⟨(sm_F1_tr (sm_F1_le h2789_ (Int.le_refl _)) h2837_ h2784_), ?_⟩
  refine ⟨(sm_F1_tr (sm_F1_le h2790_ (Int.le_refl _)) h2838_ (la_give_370 h2715_)), ?_⟩
  refine ⟨(sm_F1_tr (sm_F1_le h2791_ (Int.le_refl _)) h2839_ (la_give_370 h2715_)), ?_⟩
  refine ⟨(sm_F1_tr (sm_F1_le h2792_ (Int.le_refl _)) h2840_ (la_give_370 h2715_)), ?_⟩
  refine ⟨(sm_F1_tr (sm_F1_le h2793_ (Int.le_refl _)) h2841_ (la_give_370 h2715_)), ?_⟩
  refine ⟨(sm_F1_tr (sm_F1_le h2794_ (Int.le_refl _)) h2842_ h2800_), ?_⟩
  refine ⟨(sm_F1_tr (sm_F1_le h2795_ (Int.le_refl _)) h2843_ h2800_), ?_⟩
  refine ⟨(sm_F1_tr (sm_F1_le h2796_ (Int.le_refl _)) h2844_ h2800_), ?_⟩
  refine ⟨(sm_F1_tr (sm_F1_le h2797_ (Int.le_refl _)) h2845_ h2800_), ?_⟩
  refine ⟨(sm_F1_tr (sm_F1_le h2798_ (Int.le_refl _)) h2846_ h2800_), ?_⟩
  refine ⟨(sm_F1_tr (sm_F1_le h2799_ (Int.le_refl _)) h2847_ h2800_), ?_⟩
  refine ⟨(la_give_349 h2715_), ?_⟩
  refine ⟨(la_give_371 h2715_), ?_⟩
  refine ⟨(sm_F1_tr (sm_F1_le h2802_ (Int.le_refl _)) h2850_ (la_give_349 h2715_)), ?_⟩
  refine ⟨(la_give_372 h2715_), ?_⟩
  refine ⟨(la_give_373 h2715_), ?_⟩
  intro h2873_
  refine ⟨h33_, ?_⟩
  refine ⟨h2858_, ?_⟩
  refine ⟨h2859_, ?_⟩
  refine ⟨h2860_, ?_⟩
  refine ⟨h2861_, ?_⟩
  refine ⟨(la_give_374 h2715_), ?_⟩
  refine ⟨(sm_FC_0 (la_give_349 h2715_)), ?_⟩
  refine ⟨(la_give_375 h2715_), ?_⟩
  refine ⟨(la_give_371 h2715_), ?_⟩
  refine ⟨(la_give_371 h2715_), ?_⟩
  refine ⟨(la_give_371 h2715_), ?_⟩
  refine ⟨(la_give_371 h2715_), ?_⟩
  refine ⟨(la_give_371 h2715_), ?_⟩
  refine ⟨(sm_AP_0 (la_give_349 h2715_)), ?_⟩
  refine ⟨(sm_HB_0 (la_give_349 h2715_)), ?_⟩
  refine ⟨(la_give_376 h2715_), ?_⟩
  exact trivial
set_option maxRecDepth 8000 in
set_option maxHeartbeats 2000000 in
theorem s_give (d : Int) (h0 : 0 ≤ d) (IH : ∀ d' : Int, 0 ≤ d' → d' < d → P_K d') : T_give d := by
  intro p1 p2 p3 S hok hp1 hp2 hp3 hpre hd
  have h := f_give d p1 p2 p3 S hok hp1 hp2 hp3 hpre hd
  have hM := sm_h103
  show sv_T sm_XS sm_cs sm_L sm_sh ((if (S 1100002 p2) ≤ (S 1100002 p3) then (S 1100002 p3) else (S 1100002 p2)) + (600 - (S 1046 0)) + 9).toNat (q_give p1 p2 p3 S) 103 0 [(0, .ref 0), (1, sv_I p1), (2, sv_I p2), (3, sv_I p3)] [] S
  have k1 : (sm_WF (S 11) (S 12) (S 13) (S 1100001) (S 1100002) (S 1100005) (S 1100003) (S 1100004) (S 1024 0) (S 1007 0) (S 1009 0) (sm_fn (S 1032 0) (S 21) (S 1056 0)) → 0 ≤ p2 → p2 < (S 1024 0) → ((S 1100001 (p2)) = 1 → 0 ≤ (S 1100002 (p2)) ∧ ((S 11 (p2)) = 3 → (S 12 (5 * (p2) + 1)) < (p2)) ∧ ((S 11 (p2)) = 4 ∨ (S 11 (p2)) = 5 ∨ (S 11 (p2)) = 8 ∨ (S 11 (p2)) = 9 → 17 * (S 1100005 (p2)) + 2 ≤ (S 1100002 (p2))) ∧ 0 ≤ (S 1100005 (p2))) ∧ ((S 1100001 (p2)) = 2 → 0 ≤ (S 1100005 (p2)) ∧ (S 1100002 (p2)) ≤ 17 * (S 1100005 (p2)) + 5 ∧ ((S 11 (p2)) = 33 → 1 ≤ (S 1100005 (p2)))) ∧ ((S 1100001 (p2)) = 6 → 0 ≤ (S 1100002 (p2)) ∧ 1 ≤ (S 1100004 (p2)) ∧ ((S 12 (5 * (p2))) = - 1 → (S 1100004 (p2)) = 2)) ∧ ((S 1100001 (p2)) = 3 → 1 ≤ (S 1100002 (p2)))) := fun h a0 a1 => sm_gx h _ a0 a1
  have h := h k1
  have k2 : (sm_WF (S 11) (S 12) (S 13) (S 1100001) (S 1100002) (S 1100005) (S 1100003) (S 1100004) (S 1024 0) (S 1007 0) (S 1009 0) (sm_fn (S 1032 0) (S 21) (S 1056 0)) → 0 ≤ p3 → p3 < (S 1024 0) → ((S 1100001 (p3)) = 1 → 0 ≤ (S 1100002 (p3)) ∧ ((S 11 (p3)) = 3 → (S 12 (5 * (p3) + 1)) < (p3)) ∧ ((S 11 (p3)) = 4 ∨ (S 11 (p3)) = 5 ∨ (S 11 (p3)) = 8 ∨ (S 11 (p3)) = 9 → 17 * (S 1100005 (p3)) + 2 ≤ (S 1100002 (p3))) ∧ 0 ≤ (S 1100005 (p3))) ∧ ((S 1100001 (p3)) = 2 → 0 ≤ (S 1100005 (p3)) ∧ (S 1100002 (p3)) ≤ 17 * (S 1100005 (p3)) + 5 ∧ ((S 11 (p3)) = 33 → 1 ≤ (S 1100005 (p3)))) ∧ ((S 1100001 (p3)) = 6 → 0 ≤ (S 1100002 (p3)) ∧ 1 ≤ (S 1100004 (p3)) ∧ ((S 12 (5 * (p3))) = - 1 → (S 1100004 (p3)) = 2)) ∧ ((S 1100001 (p3)) = 3 → 1 ≤ (S 1100002 (p3)))) := fun h a0 a1 => sm_gx h _ a0 a1
  have h := h k2
  have k3 : ((S 1100002 p2) ≤ (if (S 1100002 p2) ≤ (S 1100002 p3) then (S 1100002 p3) else (S 1100002 p2)) ∧ (S 1100002 p3) ≤ (if (S 1100002 p2) ≤ (S 1100002 p3) then (S 1100002 p3) else (S 1100002 p2))) := sm_h_mx
  have h := h k3
  have k4 : ((S 1100005 p2) ≤ (if (S 1100005 p2) ≤ ((S 1100005 p3) + 1) then ((S 1100005 p3) + 1) else (S 1100005 p2)) ∧ ((S 1100005 p3) + 1) ≤ (if (S 1100005 p2) ≤ ((S 1100005 p3) + 1) then ((S 1100005 p3) + 1) else (S 1100005 p2))) := sm_h_mxs
  have h := h k4
  refine sv_aload_n hM dX12_give_0 rfl rfl ?_
  refine sv_getA hM dX12_give_1 sm_fl_42 (sm_a0 _) sm_k25 rfl ?_
  refine sv_iload_n hM dX12_give_4 rfl rfl ?_
  obtain ⟨o5, h⟩ := h
  have k6 : sv_R (S 11 p2) := sm_okI hok sm_r11 p2
  have h := h k6
  refine sv_iald hM dX12_give_5 (sm_a11 _) (by decide) o5.1 o5.2 rfl (x := (S 11 p2)) rfl ?_
  refine sv_iconst (d := (2 : Int)) hM dX12_give_6 rfl rfl ?_
  refine sv_icmp_ne hM dX12_give_7 k6 (⟨by decide, by decide⟩ : sv_R (2 : Int)) (t := 14) rfl rfl (fun hc => ?_) (fun hc => ?_)
  · have h := h.1 (hc)
    refine sv_iconst (d := (0 : Int)) hM dX12_give_14 rfl rfl ?_
    refine sv_istore hM dX12_give_15 (by decide) rfl ?_
    show sv_T sm_XS sm_cs sm_L sm_sh ((if (S 1100002 p2) ≤ (S 1100002 p3) then (S 1100002 p3) else (S 1100002 p2)) + (600 - (S 1046 0)) + 9).toNat (q_give p1 p2 p3 S) 103 17 [(0, .ref 0), (1, sv_I p1), (2, sv_I p2), (3, sv_I p3), (4, sv_I (0 : Int))] [] S
    have J88 : ∀ g7 : sv_S, sm_ok (sv_sts S [26, 27, 28, 29, 1046, 1047, 1100007, 1100023, 1100024, 1100025, 1053, 31, 1100030, 1100009, 1100027, 1100028, 1100026, 1055, 1100033, 39, 1066] g7) → (((0 : Int) = 0 ∨ (0 : Int) = 1) ∧ ((0 : Int) = 1 → (S 11 p2) = 2) ∧ ((0 : Int) = 0 → (S 11 p2) = 7) ∧ 0 ≤ (g7 1046 0) ∧ (g7 1046 0) ≤ 600 ∧ 0 ≤ (g7 1047 0) ∧ (g7 1047 0) ≤ 1 ∧ 0 ≤ (g7 1053 0) ∧ 0 ≤ (g7 1066 0) ∧ (S 1046 0) ≤ (g7 1046 0) ∧ ((S 1047 0) = 1 → (g7 1047 0) = 1) ∧ sm_F1 (S 26) (g7 26) (S 1046 0) ∧ sm_F1 (S 27) (g7 27) (S 1046 0) ∧ sm_F1 (S 28) (g7 28) (S 1046 0) ∧ sm_F1 (S 29) (g7 29) (S 1046 0) ∧ sm_F1 (S 1100007) (g7 1100007) ((S 1046 0) + 1) ∧ sm_F1 (S 1100023) (g7 1100023) ((S 1046 0) + 1) ∧ sm_F1 (S 1100024) (g7 1100024) ((S 1046 0) + 1) ∧ sm_F1 (S 1100025) (g7 1100025) ((S 1046 0) + 1) ∧ sm_F1 (S 1100009) (g7 1100009) (S 1053 0) ∧ sm_F1 (S 1100027) (g7 1100027) (S 1053 0) ∧ sm_F1 (S 1100028) (g7 1100028) (S 1053 0) ∧ sm_F1 (S 1100026) (g7 1100026) (S 1053 0) ∧ sm_F1 (S 1100030) (g7 1100030) (S 1053 0) ∧ sm_F1 (S 31) (g7 31) (S 1053 0) ∧ (S 1053 0) ≤ (g7 1053 0) ∧ (g7 1066 0) = (S 1066 0) ∧ sm_F1 (S 39) (g7 39) (S 1066 0) ∧ ((S 1047 0) = 1 → (g7 1053 0) = (S 1053 0)) ∧ ((S 1047 0) = 0 → (g7 1053 0) ≤ (S 1053 0) + 3 * (600 - (S 1046 0)) + (if (S 1100002 p2) ≤ (S 1100002 p3) then (S 1100002 p3) else (S 1100002 p2))) ∧ ((g7 1047 0) = 0 → (S 1047 0) = 0 ∧ sm_KC (g7 26) (g7 27) (g7 28) (g7 29) (g7 1100007) (g7 1100023) (g7 1100024) (g7 1100025) (g7 31) (g7 1100009) (g7 1100027) (g7 1100028) (g7 1100026) (g7 1100030) (S 21) (S 32) (S 33) (g7 1046 0) (g7 1053 0) (S 1056 0) (S 1032 0) (S 1007 0) (g7 1100033 0) ∧ (g7 1100033 0) = (g7 1055 0) ∧ 0 ≤ (g7 1055 0) ∧ (g7 1055 0) ≤ (g7 1046 0) ∧ (S 1046 0) + (if (0 : Int) = 1 then (0 : Int) else 2) ≤ (g7 1046 0) ∧ sm_FC (g7 29) (S 1046 0) (g7 1046 0) (S 1056 0) ∧ (g7 1100007 (g7 1046 0)) = (S 1100007 (S 1046 0)) + (if (0 : Int) = 1 then (0 : Int) else 2) ∧ (g7 1100023 (g7 1046 0)) = (S 1100023 (S 1046 0)) ∧ (g7 1100024 (g7 1046 0)) = (S 1100024 (S 1046 0)) ∧ (g7 1100025 (g7 1046 0)) = (S 1100025 (S 1046 0)) ∧ (g7 1100007 (g7 1100023 (g7 1046 0))) = (S 1100007 (S 1100023 (S 1046 0))) ∧ (g7 1100007 (g7 1100025 (g7 1046 0))) = (S 1100007 (S 1100025 (S 1046 0))) ∧ sm_AP (g7 1100030) (S 1053 0) (g7 1053 0) ∧ sm_HB (g7 1100007) (S 1046 0) (g7 1046 0) (2 * (S 1100007 (S 1046 0)) + ((g7 1046 0) - (S 1046 0)) + 8 * (if (S 1100005 p2) ≤ ((S 1100005 p3) + 1) then ((S 1100005 p3) + 1) else (S 1100005 p2)) + 12) ∧ (g7 1053 0) ≤ (S 1053 0) + 3 * ((g7 1046 0) - (S 1046 0)) ∧ True)) → sv_T sm_XS sm_cs sm_L sm_sh ((if (S 1100002 p2) ≤ (S 1100002 p3) then (S 1100002 p3) else (S 1100002 p2)) + (600 - (S 1046 0)) + 9).toNat (q_give p1 p2 p3 S) 103 42 [(0, .ref 0), (1, sv_I p1), (2, sv_I p2), (3, sv_I p3), (4, sv_I (0 : Int))] [] (sv_sts S [26, 27, 28, 29, 1046, 1047, 1100007, 1100023, 1100024, 1100025, 1053, 31, 1100030, 1100009, 1100027, 1100028, 1100026, 1055, 1100033, 39, 1066] g7) := by
      intro  g7 ok8 hin9
      have h := h.1 g7 hin9
      have md10 : sv_mod [26, 27, 28, 29, 1046, 1047, 1100007, 1100023, 1100024, 1100025, 1053, 31, 1100030, 1100009, 1100027, 1100028, 1100026, 1055, 1100033, 39, 1066] S (sv_sts S [26, 27, 28, 29, 1046, 1047, 1100007, 1100023, 1100024, 1100025, 1053, 31, 1100030, 1100009, 1100027, 1100028, 1100026, 1055, 1100033, 39, 1066] g7) := sv_mod.sts sv_mod.rf (by decide)
      have md11 : sv_mod [26, 27, 28, 29, 1046, 1047, 1100007, 1100023, 1100024, 1100025, 1053, 31, 1100030, 1100009, 1100027, 1100028, 1100026, 1055, 1100033, 39, 1066] S (sv_sts S [26, 27, 28, 29, 1046, 1047, 1100007, 1100023, 1100024, 1100025, 1053, 31, 1100030, 1100009, 1100027, 1100028, 1100026, 1055, 1100033, 39, 1066] g7) := sv_mod.sts sv_mod.rf (by decide)
      have J60 : ∀ g12 : sv_S, sm_ok (sv_sts (sv_sts S [26, 27, 28, 29, 1046, 1047, 1100007, 1100023, 1100024, 1100025, 1053, 31, 1100030, 1100009, 1100027, 1100028, 1100026, 1055, 1100033, 39, 1066] g7) [26, 27, 28, 29, 1046, 1047, 1100007, 1100023, 1100024, 1100025, 1053, 31, 1100030, 1100009, 1100027, 1100028, 1100026, 1055, 1100033, 39, 1066] g12) → (0 ≤ (g12 1046 0) ∧ (g12 1046 0) ≤ 600 ∧ 0 ≤ (g12 1047 0) ∧ (g12 1047 0) ≤ 1 ∧ 0 ≤ (g12 1053 0) ∧ 0 ≤ (g12 1066 0) ∧ (S 1046 0) ≤ (g12 1046 0) ∧ ((S 1047 0) = 1 → (g12 1047 0) = 1) ∧ sm_F1 (S 26) (g12 26) (S 1046 0) ∧ sm_F1 (S 27) (g12 27) (S 1046 0) ∧ sm_F1 (S 28) (g12 28) (S 1046 0) ∧ sm_F1 (S 29) (g12 29) (S 1046 0) ∧ sm_F1 (S 1100007) (g12 1100007) ((S 1046 0) + 1) ∧ sm_F1 (S 1100023) (g12 1100023) ((S 1046 0) + 1) ∧ sm_F1 (S 1100024) (g12 1100024) ((S 1046 0) + 1) ∧ sm_F1 (S 1100025) (g12 1100025) ((S 1046 0) + 1) ∧ sm_F1 (S 1100009) (g12 1100009) (S 1053 0) ∧ sm_F1 (S 1100027) (g12 1100027) (S 1053 0) ∧ sm_F1 (S 1100028) (g12 1100028) (S 1053 0) ∧ sm_F1 (S 1100026) (g12 1100026) (S 1053 0) ∧ sm_F1 (S 1100030) (g12 1100030) (S 1053 0) ∧ sm_F1 (S 31) (g12 31) (S 1053 0) ∧ (S 1053 0) ≤ (g12 1053 0) ∧ (g12 1066 0) = (S 1066 0) ∧ sm_F1 (S 39) (g12 39) (S 1066 0) ∧ ((S 1047 0) = 1 → (g12 1053 0) = (S 1053 0)) ∧ ((S 1047 0) = 0 → (g12 1053 0) ≤ (S 1053 0) + 3 * (600 - (S 1046 0)) + (if (S 1100002 p2) ≤ (S 1100002 p3) then (S 1100002 p3) else (S 1100002 p2))) ∧ ((g12 1047 0) = 0 → (S 1047 0) = 0 ∧ sm_KC (g12 26) (g12 27) (g12 28) (g12 29) (g12 1100007) (g12 1100023) (g12 1100024) (g12 1100025) (g12 31) (g12 1100009) (g12 1100027) (g12 1100028) (g12 1100026) (g12 1100030) (S 21) (S 32) (S 33) (g12 1046 0) (g12 1053 0) (S 1056 0) (S 1032 0) (S 1007 0) (g12 1100033 0) ∧ (g12 1100033 0) = (g12 1055 0) ∧ 0 ≤ (g12 1055 0) ∧ (g12 1055 0) ≤ (g12 1046 0) ∧ (S 1046 0) + ((if (0 : Int) = 1 then (0 : Int) else 2) + (if p1 = -1 then (0 : Int) else 1)) ≤ (g12 1046 0) ∧ sm_FC (g12 29) (S 1046 0) (g12 1046 0) (S 1056 0) ∧ (g12 1100007 (g12 1046 0)) = (S 1100007 (S 1046 0)) + ((if (0 : Int) = 1 then (0 : Int) else 2) + (if p1 = -1 then (0 : Int) else 1)) ∧ (g12 1100023 (g12 1046 0)) = (S 1100023 (S 1046 0)) ∧ (g12 1100024 (g12 1046 0)) = (S 1100024 (S 1046 0)) ∧ (g12 1100025 (g12 1046 0)) = (S 1100025 (S 1046 0)) ∧ (g12 1100007 (g12 1100023 (g12 1046 0))) = (S 1100007 (S 1100023 (S 1046 0))) ∧ (g12 1100007 (g12 1100025 (g12 1046 0))) = (S 1100007 (S 1100025 (S 1046 0))) ∧ sm_AP (g12 1100030) (S 1053 0) (g12 1053 0) ∧ sm_HB (g12 1100007) (S 1046 0) (g12 1046 0) (2 * (S 1100007 (S 1046 0)) + ((g12 1046 0) - (S 1046 0)) + 8 * (if (S 1100005 p2) ≤ ((S 1100005 p3) + 1) then ((S 1100005 p3) + 1) else (S 1100005 p2)) + 12) ∧ (g12 1053 0) ≤ (S 1053 0) + 3 * ((g12 1046 0) - (S 1046 0)) ∧ True)) → sv_T sm_XS sm_cs sm_L sm_sh ((if (S 1100002 p2) ≤ (S 1100002 p3) then (S 1100002 p3) else (S 1100002 p2)) + (600 - (S 1046 0)) + 9).toNat (q_give p1 p2 p3 S) 103 77 [(0, .ref 0), (1, sv_I p1), (2, sv_I p2), (3, sv_I p3), (4, sv_I (0 : Int))] [] (sv_sts (sv_sts S [26, 27, 28, 29, 1046, 1047, 1100007, 1100023, 1100024, 1100025, 1053, 31, 1100030, 1100009, 1100027, 1100028, 1100026, 1055, 1100033, 39, 1066] g7) [26, 27, 28, 29, 1046, 1047, 1100007, 1100023, 1100024, 1100025, 1053, 31, 1100030, 1100009, 1100027, 1100028, 1100026, 1055, 1100033, 39, 1066] g12) := by
        intro  g12 ok13 hin14
        have h := h.1 g12 hin14
        have md15 : sv_mod [26, 27, 28, 29, 1046, 1047, 1100007, 1100023, 1100024, 1100025, 1053, 31, 1100030, 1100009, 1100027, 1100028, 1100026, 1055, 1100033, 39, 1066] S (sv_sts (sv_sts S [26, 27, 28, 29, 1046, 1047, 1100007, 1100023, 1100024, 1100025, 1053, 31, 1100030, 1100009, 1100027, 1100028, 1100026, 1055, 1100033, 39, 1066] g7) [26, 27, 28, 29, 1046, 1047, 1100007, 1100023, 1100024, 1100025, 1053, 31, 1100030, 1100009, 1100027, 1100028, 1100026, 1055, 1100033, 39, 1066] g12) := sv_mod.sts md10 (by decide)
        have md16 : sv_mod [26, 27, 28, 29, 1046, 1047, 1100007, 1100023, 1100024, 1100025, 1053, 31, 1100030, 1100009, 1100027, 1100028, 1100026, 1055, 1100033, 39, 1066] (sv_sts S [26, 27, 28, 29, 1046, 1047, 1100007, 1100023, 1100024, 1100025, 1053, 31, 1100030, 1100009, 1100027, 1100028, 1100026, 1055, 1100033, 39, 1066] g7) (sv_sts (sv_sts S [26, 27, 28, 29, 1046, 1047, 1100007, 1100023, 1100024, 1100025, 1053, 31, 1100030, 1100009, 1100027, 1100028, 1100026, 1055, 1100033, 39, 1066] g7) [26, 27, 28, 29, 1046, 1047, 1100007, 1100023, 1100024, 1100025, 1053, 31, 1100030, 1100009, 1100027, 1100028, 1100026, 1055, 1100033, 39, 1066] g12) := sv_mod.sts sv_mod.rf (by decide)
        have k17 : (0 ≤ (if (0 : Int) = 1 then (0 : Int) else 2) + (if p1 = -1 then (0 : Int) else 1) ∧ (if (0 : Int) = 1 then (0 : Int) else 2) + (if p1 = -1 then (0 : Int) else 1) ≤ 3) := sm_h_gv
        have h := h k17
        have J41 : ∀ g18 : sv_S, sm_ok (sv_sts (sv_sts (sv_sts S [26, 27, 28, 29, 1046, 1047, 1100007, 1100023, 1100024, 1100025, 1053, 31, 1100030, 1100009, 1100027, 1100028, 1100026, 1055, 1100033, 39, 1066] g7) [26, 27, 28, 29, 1046, 1047, 1100007, 1100023, 1100024, 1100025, 1053, 31, 1100030, 1100009, 1100027, 1100028, 1100026, 1055, 1100033, 39, 1066] g12) [26, 27, 28, 29, 1046, 1047, 1100007, 1100023, 1100024, 1100025, 1053, 31, 1100030, 1100009, 1100027, 1100028, 1100026, 1055, 1100033, 39, 1066] g18) → (0 ≤ (g18 1046 0) ∧ (g18 1046 0) ≤ 600 ∧ 0 ≤ (g18 1047 0) ∧ (g18 1047 0) ≤ 1 ∧ 0 ≤ (g18 1053 0) ∧ 0 ≤ (g18 1066 0) ∧ (S 1046 0) ≤ (g18 1046 0) ∧ ((S 1047 0) = 1 → (g18 1047 0) = 1) ∧ sm_F1 (S 26) (g18 26) (S 1046 0) ∧ sm_F1 (S 27) (g18 27) (S 1046 0) ∧ sm_F1 (S 28) (g18 28) (S 1046 0) ∧ sm_F1 (S 29) (g18 29) (S 1046 0) ∧ sm_F1 (S 1100007) (g18 1100007) ((S 1046 0) + 1) ∧ sm_F1 (S 1100023) (g18 1100023) ((S 1046 0) + 1) ∧ sm_F1 (S 1100024) (g18 1100024) ((S 1046 0) + 1) ∧ sm_F1 (S 1100025) (g18 1100025) ((S 1046 0) + 1) ∧ sm_F1 (S 1100009) (g18 1100009) (S 1053 0) ∧ sm_F1 (S 1100027) (g18 1100027) (S 1053 0) ∧ sm_F1 (S 1100028) (g18 1100028) (S 1053 0) ∧ sm_F1 (S 1100026) (g18 1100026) (S 1053 0) ∧ sm_F1 (S 1100030) (g18 1100030) (S 1053 0) ∧ sm_F1 (S 31) (g18 31) (S 1053 0) ∧ (S 1053 0) ≤ (g18 1053 0) ∧ (g18 1066 0) = (S 1066 0) ∧ sm_F1 (S 39) (g18 39) (S 1066 0) ∧ ((S 1047 0) = 1 → (g18 1053 0) = (S 1053 0)) ∧ ((S 1047 0) = 0 → (g18 1053 0) ≤ (S 1053 0) + 3 * (600 - (S 1046 0)) + (if (S 1100002 p2) ≤ (S 1100002 p3) then (S 1100002 p3) else (S 1100002 p2))) ∧ ((g18 1047 0) = 0 → (S 1047 0) = 0 ∧ sm_KC (g18 26) (g18 27) (g18 28) (g18 29) (g18 1100007) (g18 1100023) (g18 1100024) (g18 1100025) (g18 31) (g18 1100009) (g18 1100027) (g18 1100028) (g18 1100026) (g18 1100030) (S 21) (S 32) (S 33) (g18 1046 0) (g18 1053 0) (S 1056 0) (S 1032 0) (S 1007 0) (g18 1100033 0) ∧ (g18 1100033 0) = (g18 1055 0) ∧ 0 ≤ (g18 1055 0) ∧ (g18 1055 0) ≤ (g18 1046 0) ∧ (S 1046 0) + ((if (0 : Int) = 1 then (0 : Int) else 2) + 1) ≤ (g18 1046 0) ∧ sm_FC (g18 29) (S 1046 0) (g18 1046 0) (S 1056 0) ∧ (g18 1100007 (g18 1046 0)) = (S 1100007 (S 1046 0)) + ((if (0 : Int) = 1 then (0 : Int) else 2) + 1) ∧ (g18 1100023 (g18 1046 0)) = (S 1100023 (S 1046 0)) ∧ (g18 1100024 (g18 1046 0)) = (S 1100024 (S 1046 0)) ∧ (g18 1100025 (g18 1046 0)) = (S 1100025 (S 1046 0)) ∧ (g18 1100007 (g18 1100023 (g18 1046 0))) = (S 1100007 (S 1100023 (S 1046 0))) ∧ (g18 1100007 (g18 1100025 (g18 1046 0))) = (S 1100007 (S 1100025 (S 1046 0))) ∧ sm_AP (g18 1100030) (S 1053 0) (g18 1053 0) ∧ sm_HB (g18 1100007) (S 1046 0) (g18 1046 0) (2 * (S 1100007 (S 1046 0)) + ((g18 1046 0) - (S 1046 0)) + 8 * (if (S 1100005 p2) ≤ ((S 1100005 p3) + 1) then ((S 1100005 p3) + 1) else (S 1100005 p2)) + 11) ∧ (g18 1053 0) ≤ (S 1053 0) + 3 * ((g18 1046 0) - (S 1046 0)) ∧ True)) → sv_T sm_XS sm_cs sm_L sm_sh ((if (S 1100002 p2) ≤ (S 1100002 p3) then (S 1100002 p3) else (S 1100002 p2)) + (600 - (S 1046 0)) + 9).toNat (q_give p1 p2 p3 S) 103 95 [(0, .ref 0), (1, sv_I p1), (2, sv_I p2), (3, sv_I p3), (4, sv_I (0 : Int))] [] (sv_sts (sv_sts (sv_sts S [26, 27, 28, 29, 1046, 1047, 1100007, 1100023, 1100024, 1100025, 1053, 31, 1100030, 1100009, 1100027, 1100028, 1100026, 1055, 1100033, 39, 1066] g7) [26, 27, 28, 29, 1046, 1047, 1100007, 1100023, 1100024, 1100025, 1053, 31, 1100030, 1100009, 1100027, 1100028, 1100026, 1055, 1100033, 39, 1066] g12) [26, 27, 28, 29, 1046, 1047, 1100007, 1100023, 1100024, 1100025, 1053, 31, 1100030, 1100009, 1100027, 1100028, 1100026, 1055, 1100033, 39, 1066] g18) := by
          intro  g18 ok19 hin20
          have h := h.1 g18 hin20
          have md21 : sv_mod [26, 27, 28, 29, 1046, 1047, 1100007, 1100023, 1100024, 1100025, 1053, 31, 1100030, 1100009, 1100027, 1100028, 1100026, 1055, 1100033, 39, 1066] S (sv_sts (sv_sts (sv_sts S [26, 27, 28, 29, 1046, 1047, 1100007, 1100023, 1100024, 1100025, 1053, 31, 1100030, 1100009, 1100027, 1100028, 1100026, 1055, 1100033, 39, 1066] g7) [26, 27, 28, 29, 1046, 1047, 1100007, 1100023, 1100024, 1100025, 1053, 31, 1100030, 1100009, 1100027, 1100028, 1100026, 1055, 1100033, 39, 1066] g12) [26, 27, 28, 29, 1046, 1047, 1100007, 1100023, 1100024, 1100025, 1053, 31, 1100030, 1100009, 1100027, 1100028, 1100026, 1055, 1100033, 39, 1066] g18) := sv_mod.sts md15 (by decide)
          have md22 : sv_mod [26, 27, 28, 29, 1046, 1047, 1100007, 1100023, 1100024, 1100025, 1053, 31, 1100030, 1100009, 1100027, 1100028, 1100026, 1055, 1100033, 39, 1066] (sv_sts (sv_sts S [26, 27, 28, 29, 1046, 1047, 1100007, 1100023, 1100024, 1100025, 1053, 31, 1100030, 1100009, 1100027, 1100028, 1100026, 1055, 1100033, 39, 1066] g7) [26, 27, 28, 29, 1046, 1047, 1100007, 1100023, 1100024, 1100025, 1053, 31, 1100030, 1100009, 1100027, 1100028, 1100026, 1055, 1100033, 39, 1066] g12) (sv_sts (sv_sts (sv_sts S [26, 27, 28, 29, 1046, 1047, 1100007, 1100023, 1100024, 1100025, 1053, 31, 1100030, 1100009, 1100027, 1100028, 1100026, 1055, 1100033, 39, 1066] g7) [26, 27, 28, 29, 1046, 1047, 1100007, 1100023, 1100024, 1100025, 1053, 31, 1100030, 1100009, 1100027, 1100028, 1100026, 1055, 1100033, 39, 1066] g12) [26, 27, 28, 29, 1046, 1047, 1100007, 1100023, 1100024, 1100025, 1053, 31, 1100030, 1100009, 1100027, 1100028, 1100026, 1055, 1100033, 39, 1066] g18) := sv_mod.sts sv_mod.rf (by decide)
          refine sv_iload hM dX12_give_95 rfl rfl ?_
          refine sv_cond_eq hM dX12_give_97 (⟨by decide, by decide⟩ : sv_R (0 : Int)) (t := 113) rfl rfl (fun hc => ?_) (fun hc => ?_)
          · have h := h.1 (hc)
            refine sv_aload_n hM dX12_give_113 rfl rfl ?_
            refine sv_bipush (d := (11 : Int)) hM dX12_give_114 rfl rfl ?_
            obtain ⟨o23, h⟩ := h
            obtain ⟨o24, h⟩ := h
            refine sv_callV hM dX12_give_116 sm_iv_666 (by decide) (sm_a0 _) rfl rfl (Nat.le_of_ble_eq_true rfl) sm_h83 (Nat.le_of_ble_eq_true rfl) (Nat.le_of_ble_eq_true rfl) (F' := 1) (sv_Fn (n := 1) o24) rfl (t_emit_ (11 : Int) (sv_sts (sv_sts (sv_sts S [26, 27, 28, 29, 1046, 1047, 1100007, 1100023, 1100024, 1100025, 1053, 31, 1100030, 1100009, 1100027, 1100028, 1100026, 1055, 1100033, 39, 1066] g7) [26, 27, 28, 29, 1046, 1047, 1100007, 1100023, 1100024, 1100025, 1053, 31, 1100030, 1100009, 1100027, 1100028, 1100026, 1055, 1100033, 39, 1066] g12) [26, 27, 28, 29, 1046, 1047, 1100007, 1100023, 1100024, 1100025, 1053, 31, 1100030, 1100009, 1100027, 1100028, 1100026, 1055, 1100033, 39, 1066] g18) ok19 (⟨by decide, by decide⟩ : sv_R (11 : Int)) o23) (fun v S1 hq => ?_)
            obtain ⟨rfl, ok26, md27, hpo28⟩ := hq
            obtain ⟨g25, rfl⟩ : ∃ g, S1 = sv_sts (sv_sts (sv_sts (sv_sts S [26, 27, 28, 29, 1046, 1047, 1100007, 1100023, 1100024, 1100025, 1053, 31, 1100030, 1100009, 1100027, 1100028, 1100026, 1055, 1100033, 39, 1066] g7) [26, 27, 28, 29, 1046, 1047, 1100007, 1100023, 1100024, 1100025, 1053, 31, 1100030, 1100009, 1100027, 1100028, 1100026, 1055, 1100033, 39, 1066] g12) [26, 27, 28, 29, 1046, 1047, 1100007, 1100023, 1100024, 1100025, 1053, 31, 1100030, 1100009, 1100027, 1100028, 1100026, 1055, 1100033, 39, 1066] g18) [26, 27, 28, 29, 1046, 1047, 1100007, 1100023, 1100024, 1100025] g := ⟨_, md27.eq⟩
            show sv_T sm_XS sm_cs sm_L sm_sh ((if (S 1100002 p2) ≤ (S 1100002 p3) then (S 1100002 p3) else (S 1100002 p2)) + (600 - (S 1046 0)) + 9).toNat (q_give p1 p2 p3 S) 103 119 [(0, .ref 0), (1, sv_I p1), (2, sv_I p2), (3, sv_I p3), (4, sv_I (0 : Int))] [] (sv_sts (sv_sts (sv_sts (sv_sts S [26, 27, 28, 29, 1046, 1047, 1100007, 1100023, 1100024, 1100025, 1053, 31, 1100030, 1100009, 1100027, 1100028, 1100026, 1055, 1100033, 39, 1066] g7) [26, 27, 28, 29, 1046, 1047, 1100007, 1100023, 1100024, 1100025, 1053, 31, 1100030, 1100009, 1100027, 1100028, 1100026, 1055, 1100033, 39, 1066] g12) [26, 27, 28, 29, 1046, 1047, 1100007, 1100023, 1100024, 1100025, 1053, 31, 1100030, 1100009, 1100027, 1100028, 1100026, 1055, 1100033, 39, 1066] g18) [26, 27, 28, 29, 1046, 1047, 1100007, 1100023, 1100024, 1100025] g25)
            have md29 : sv_mod [26, 27, 28, 29, 1046, 1047, 1100007, 1100023, 1100024, 1100025, 1053, 31, 1100030, 1100009, 1100027, 1100028, 1100026, 1055, 1100033, 39, 1066] S (sv_sts (sv_sts (sv_sts (sv_sts S [26, 27, 28, 29, 1046, 1047, 1100007, 1100023, 1100024, 1100025, 1053, 31, 1100030, 1100009, 1100027, 1100028, 1100026, 1055, 1100033, 39, 1066] g7) [26, 27, 28, 29, 1046, 1047, 1100007, 1100023, 1100024, 1100025, 1053, 31, 1100030, 1100009, 1100027, 1100028, 1100026, 1055, 1100033, 39, 1066] g12) [26, 27, 28, 29, 1046, 1047, 1100007, 1100023, 1100024, 1100025, 1053, 31, 1100030, 1100009, 1100027, 1100028, 1100026, 1055, 1100033, 39, 1066] g18) [26, 27, 28, 29, 1046, 1047, 1100007, 1100023, 1100024, 1100025] g25) := sv_mod.sts md21 (by decide)
            have h := h g25 hpo28
            exact sv_vret hM dX12_give_119 rfl ⟨rfl, ok26, md29, h⟩
          · have h := h.2 (hc)
            have k30 : (sm_WF (S 11) (S 12) (S 13) (S 1100001) (S 1100002) (S 1100005) (S 1100003) (S 1100004) (S 1024 0) (S 1007 0) (S 1009 0) (sm_fn (S 1032 0) (S 21) (S 1056 0)) → 0 ≤ p2 → p2 < (S 1024 0) → (S 1100001 p2) = 1 → (S 11 p2) = 2 → sm_nm (S 1007 0) (S 1009 0) ((S 12 (5 * (p2))))) := fun h a0 a1 a2 a3 => sm_g1_2 h _ a0 a1 a2 a3
            have h := h k30
            have k31 : (sm_nm (S 1007 0) (S 1009 0) ((S 12 (5 * p2))) → (S 1009 0) = 0 → 0 ≤ (S 12 (5 * p2)) ∧ (S 12 (5 * p2)) < (S 1007 0)) := fun h a => sm_h_nm h a
            have h := h k31
            refine sv_aload_n hM dX12_give_100 rfl rfl ?_
            refine sv_aload_n hM dX12_give_101 rfl rfl ?_
            refine sv_iload_n hM dX12_give_102 rfl rfl ?_
            refine sv_iconst (d := (0 : Int)) hM dX12_give_103 rfl rfl ?_
            obtain ⟨o32, h⟩ := h
            obtain ⟨o33, h⟩ := h
            refine sv_callV hM dX12_give_104 sm_iv_644 (by decide) (sm_a0 _) rfl rfl (Nat.le_of_ble_eq_true rfl) sm_h34 (Nat.le_of_ble_eq_true rfl) (Nat.le_of_ble_eq_true rfl) (F' := 0) (sv_Fn (n := 0) o33) rfl (t_part p2 (0 : Int) (sv_sts (sv_sts (sv_sts S [26, 27, 28, 29, 1046, 1047, 1100007, 1100023, 1100024, 1100025, 1053, 31, 1100030, 1100009, 1100027, 1100028, 1100026, 1055, 1100033, 39, 1066] g7) [26, 27, 28, 29, 1046, 1047, 1100007, 1100023, 1100024, 1100025, 1053, 31, 1100030, 1100009, 1100027, 1100028, 1100026, 1055, 1100033, 39, 1066] g12) [26, 27, 28, 29, 1046, 1047, 1100007, 1100023, 1100024, 1100025, 1053, 31, 1100030, 1100009, 1100027, 1100028, 1100026, 1055, 1100033, 39, 1066] g18) ok19 hp2 (⟨by decide, by decide⟩ : sv_R (0 : Int)) o32) (fun v S1 hq => ?_)
            obtain ⟨rfl, hS1⟩ := hq
            obtain rfl : (sv_sts (sv_sts (sv_sts S [26, 27, 28, 29, 1046, 1047, 1100007, 1100023, 1100024, 1100025, 1053, 31, 1100030, 1100009, 1100027, 1100028, 1100026, 1055, 1100033, 39, 1066] g7) [26, 27, 28, 29, 1046, 1047, 1100007, 1100023, 1100024, 1100025, 1053, 31, 1100030, 1100009, 1100027, 1100028, 1100026, 1055, 1100033, 39, 1066] g12) [26, 27, 28, 29, 1046, 1047, 1100007, 1100023, 1100024, 1100025, 1053, 31, 1100030, 1100009, 1100027, 1100028, 1100026, 1055, 1100033, 39, 1066] g18) = S1 := hS1.symm
            show sv_T sm_XS sm_cs sm_L sm_sh ((if (S 1100002 p2) ≤ (S 1100002 p3) then (S 1100002 p3) else (S 1100002 p2)) + (600 - (S 1046 0)) + 9).toNat (q_give p1 p2 p3 S) 103 107 [(0, .ref 0), (1, sv_I p1), (2, sv_I p2), (3, sv_I p3), (4, sv_I (0 : Int))] [sv_I ((S 12 (5 * p2 + (0 : Int)))), .ref 0] (sv_sts (sv_sts (sv_sts S [26, 27, 28, 29, 1046, 1047, 1100007, 1100023, 1100024, 1100025, 1053, 31, 1100030, 1100009, 1100027, 1100028, 1100026, 1055, 1100033, 39, 1066] g7) [26, 27, 28, 29, 1046, 1047, 1100007, 1100023, 1100024, 1100025, 1053, 31, 1100030, 1100009, 1100027, 1100028, 1100026, 1055, 1100033, 39, 1066] g12) [26, 27, 28, 29, 1046, 1047, 1100007, 1100023, 1100024, 1100025, 1053, 31, 1100030, 1100009, 1100027, 1100028, 1100026, 1055, 1100033, 39, 1066] g18)
            obtain ⟨o34, h⟩ := h
            obtain ⟨o35, h⟩ := h
            refine sv_callV hM dX12_give_107 sm_iv_704 (by decide) (sm_a0 _) rfl rfl (Nat.le_of_ble_eq_true rfl) sm_h89 (Nat.le_of_ble_eq_true rfl) (Nat.le_of_ble_eq_true rfl) (F' := 2) (sv_Fn (n := 2) o35) rfl (t_coderset ((S 12 (5 * p2 + (0 : Int)))) (sv_sts (sv_sts (sv_sts S [26, 27, 28, 29, 1046, 1047, 1100007, 1100023, 1100024, 1100025, 1053, 31, 1100030, 1100009, 1100027, 1100028, 1100026, 1055, 1100033, 39, 1066] g7) [26, 27, 28, 29, 1046, 1047, 1100007, 1100023, 1100024, 1100025, 1053, 31, 1100030, 1100009, 1100027, 1100028, 1100026, 1055, 1100033, 39, 1066] g12) [26, 27, 28, 29, 1046, 1047, 1100007, 1100023, 1100024, 1100025, 1053, 31, 1100030, 1100009, 1100027, 1100028, 1100026, 1055, 1100033, 39, 1066] g18) ok19 (sm_okI ok19 sm_r12 _) o34) (fun v S1 hq => ?_)
            obtain ⟨rfl, ok37, md38, hpo39⟩ := hq
            obtain ⟨g36, rfl⟩ : ∃ g, S1 = sv_sts (sv_sts (sv_sts (sv_sts S [26, 27, 28, 29, 1046, 1047, 1100007, 1100023, 1100024, 1100025, 1053, 31, 1100030, 1100009, 1100027, 1100028, 1100026, 1055, 1100033, 39, 1066] g7) [26, 27, 28, 29, 1046, 1047, 1100007, 1100023, 1100024, 1100025, 1053, 31, 1100030, 1100009, 1100027, 1100028, 1100026, 1055, 1100033, 39, 1066] g12) [26, 27, 28, 29, 1046, 1047, 1100007, 1100023, 1100024, 1100025, 1053, 31, 1100030, 1100009, 1100027, 1100028, 1100026, 1055, 1100033, 39, 1066] g18) [26, 27, 28, 29, 1046, 1047, 1100007, 1100023, 1100024, 1100025] g := ⟨_, md38.eq⟩
            show sv_T sm_XS sm_cs sm_L sm_sh ((if (S 1100002 p2) ≤ (S 1100002 p3) then (S 1100002 p3) else (S 1100002 p2)) + (600 - (S 1046 0)) + 9).toNat (q_give p1 p2 p3 S) 103 110 [(0, .ref 0), (1, sv_I p1), (2, sv_I p2), (3, sv_I p3), (4, sv_I (0 : Int))] [] (sv_sts (sv_sts (sv_sts (sv_sts S [26, 27, 28, 29, 1046, 1047, 1100007, 1100023, 1100024, 1100025, 1053, 31, 1100030, 1100009, 1100027, 1100028, 1100026, 1055, 1100033, 39, 1066] g7) [26, 27, 28, 29, 1046, 1047, 1100007, 1100023, 1100024, 1100025, 1053, 31, 1100030, 1100009, 1100027, 1100028, 1100026, 1055, 1100033, 39, 1066] g12) [26, 27, 28, 29, 1046, 1047, 1100007, 1100023, 1100024, 1100025, 1053, 31, 1100030, 1100009, 1100027, 1100028, 1100026, 1055, 1100033, 39, 1066] g18) [26, 27, 28, 29, 1046, 1047, 1100007, 1100023, 1100024, 1100025] g36)
            have md40 : sv_mod [26, 27, 28, 29, 1046, 1047, 1100007, 1100023, 1100024, 1100025, 1053, 31, 1100030, 1100009, 1100027, 1100028, 1100026, 1055, 1100033, 39, 1066] S (sv_sts (sv_sts (sv_sts (sv_sts S [26, 27, 28, 29, 1046, 1047, 1100007, 1100023, 1100024, 1100025, 1053, 31, 1100030, 1100009, 1100027, 1100028, 1100026, 1055, 1100033, 39, 1066] g7) [26, 27, 28, 29, 1046, 1047, 1100007, 1100023, 1100024, 1100025, 1053, 31, 1100030, 1100009, 1100027, 1100028, 1100026, 1055, 1100033, 39, 1066] g12) [26, 27, 28, 29, 1046, 1047, 1100007, 1100023, 1100024, 1100025, 1053, 31, 1100030, 1100009, 1100027, 1100028, 1100026, 1055, 1100033, 39, 1066] g18) [26, 27, 28, 29, 1046, 1047, 1100007, 1100023, 1100024, 1100025] g36) := sv_mod.sts md21 (by decide)
            have h := h g36 hpo39
            refine sv_goto hM dX12_give_110 (pc' := 119) rfl ?_
            exact sv_vret hM dX12_give_119 rfl ⟨rfl, ok37, md40, h⟩
        have h := h.2
        have k42 : (0 ≤ (if (0 : Int) = 1 then (0 : Int) else 2) + (if p1 = -1 then (0 : Int) else 1) ∧ (if (0 : Int) = 1 then (0 : Int) else 2) + (if p1 = -1 then (0 : Int) else 1) ≤ 3) := sm_h_gv
        have h := h k42
        refine sv_aload_n hM dX12_give_77 rfl rfl ?_
        refine sv_iload_n hM dX12_give_78 rfl rfl ?_
        obtain ⟨o43, h⟩ := h
        obtain ⟨o44, h⟩ := h
        obtain ⟨o45, h⟩ := h
        refine sv_callV hM dX12_give_79 sm_iv_668 (by decide) (sm_a0 _) rfl rfl (Nat.le_of_ble_eq_true rfl) sm_h96 (Nat.le_of_ble_eq_true rfl) (Nat.le_of_ble_eq_true rfl) (F' := (((if (g12 1047 0) = 0 then (S 1100002 p3) + (600 - (g12 1046 0)) + 8 else 4))).toNat) (sv_Fe o45) rfl ((IH ((if (g12 1047 0) = 0 then (S 1100002 p3) + (600 - (g12 1046 0)) + 8 else 4)) o44.1 o44.2).1 p3 (sv_sts (sv_sts S [26, 27, 28, 29, 1046, 1047, 1100007, 1100023, 1100024, 1100025, 1053, 31, 1100030, 1100009, 1100027, 1100028, 1100026, 1055, 1100033, 39, 1066] g7) [26, 27, 28, 29, 1046, 1047, 1100007, 1100023, 1100024, 1100025, 1053, 31, 1100030, 1100009, 1100027, 1100028, 1100026, 1055, 1100033, 39, 1066] g12) ok13 hp3 o43 rfl) (fun v S1 hq => ?_)
        obtain ⟨rfl, ok47, md48, hpo49⟩ := hq
        obtain ⟨g46, rfl⟩ : ∃ g, S1 = sv_sts (sv_sts (sv_sts S [26, 27, 28, 29, 1046, 1047, 1100007, 1100023, 1100024, 1100025, 1053, 31, 1100030, 1100009, 1100027, 1100028, 1100026, 1055, 1100033, 39, 1066] g7) [26, 27, 28, 29, 1046, 1047, 1100007, 1100023, 1100024, 1100025, 1053, 31, 1100030, 1100009, 1100027, 1100028, 1100026, 1055, 1100033, 39, 1066] g12) [26, 27, 28, 29, 1046, 1047, 1100007, 1100023, 1100024, 1100025, 1053, 31, 1100030, 1100009, 1100027, 1100028, 1100026, 1055, 1100033, 39, 1066] g := ⟨_, md48.eq⟩
        show sv_T sm_XS sm_cs sm_L sm_sh ((if (S 1100002 p2) ≤ (S 1100002 p3) then (S 1100002 p3) else (S 1100002 p2)) + (600 - (S 1046 0)) + 9).toNat (q_give p1 p2 p3 S) 103 82 [(0, .ref 0), (1, sv_I p1), (2, sv_I p2), (3, sv_I p3), (4, sv_I (0 : Int))] [] (sv_sts (sv_sts (sv_sts S [26, 27, 28, 29, 1046, 1047, 1100007, 1100023, 1100024, 1100025, 1053, 31, 1100030, 1100009, 1100027, 1100028, 1100026, 1055, 1100033, 39, 1066] g7) [26, 27, 28, 29, 1046, 1047, 1100007, 1100023, 1100024, 1100025, 1053, 31, 1100030, 1100009, 1100027, 1100028, 1100026, 1055, 1100033, 39, 1066] g12) [26, 27, 28, 29, 1046, 1047, 1100007, 1100023, 1100024, 1100025, 1053, 31, 1100030, 1100009, 1100027, 1100028, 1100026, 1055, 1100033, 39, 1066] g46)
        have md50 : sv_mod [26, 27, 28, 29, 1046, 1047, 1100007, 1100023, 1100024, 1100025, 1053, 31, 1100030, 1100009, 1100027, 1100028, 1100026, 1055, 1100033, 39, 1066] S (sv_sts (sv_sts (sv_sts S [26, 27, 28, 29, 1046, 1047, 1100007, 1100023, 1100024, 1100025, 1053, 31, 1100030, 1100009, 1100027, 1100028, 1100026, 1055, 1100033, 39, 1066] g7) [26, 27, 28, 29, 1046, 1047, 1100007, 1100023, 1100024, 1100025, 1053, 31, 1100030, 1100009, 1100027, 1100028, 1100026, 1055, 1100033, 39, 1066] g12) [26, 27, 28, 29, 1046, 1047, 1100007, 1100023, 1100024, 1100025, 1053, 31, 1100030, 1100009, 1100027, 1100028, 1100026, 1055, 1100033, 39, 1066] g46) := sv_mod.sts md15 (by decide)
        have md51 : sv_mod [26, 27, 28, 29, 1046, 1047, 1100007, 1100023, 1100024, 1100025, 1053, 31, 1100030, 1100009, 1100027, 1100028, 1100026, 1055, 1100033, 39, 1066] (sv_sts (sv_sts S [26, 27, 28, 29, 1046, 1047, 1100007, 1100023, 1100024, 1100025, 1053, 31, 1100030, 1100009, 1100027, 1100028, 1100026, 1055, 1100033, 39, 1066] g7) [26, 27, 28, 29, 1046, 1047, 1100007, 1100023, 1100024, 1100025, 1053, 31, 1100030, 1100009, 1100027, 1100028, 1100026, 1055, 1100033, 39, 1066] g12) (sv_sts (sv_sts (sv_sts S [26, 27, 28, 29, 1046, 1047, 1100007, 1100023, 1100024, 1100025, 1053, 31, 1100030, 1100009, 1100027, 1100028, 1100026, 1055, 1100033, 39, 1066] g7) [26, 27, 28, 29, 1046, 1047, 1100007, 1100023, 1100024, 1100025, 1053, 31, 1100030, 1100009, 1100027, 1100028, 1100026, 1055, 1100033, 39, 1066] g12) [26, 27, 28, 29, 1046, 1047, 1100007, 1100023, 1100024, 1100025, 1053, 31, 1100030, 1100009, 1100027, 1100028, 1100026, 1055, 1100033, 39, 1066] g46) := sv_mod.sts (sv_mod.rf (l := [26, 27, 28, 29, 1046, 1047, 1100007, 1100023, 1100024, 1100025, 1053, 31, 1100030, 1100009, 1100027, 1100028, 1100026, 1055, 1100033, 39, 1066]) (S := (sv_sts (sv_sts S [26, 27, 28, 29, 1046, 1047, 1100007, 1100023, 1100024, 1100025, 1053, 31, 1100030, 1100009, 1100027, 1100028, 1100026, 1055, 1100033, 39, 1066] g7) [26, 27, 28, 29, 1046, 1047, 1100007, 1100023, 1100024, 1100025, 1053, 31, 1100030, 1100009, 1100027, 1100028, 1100026, 1055, 1100033, 39, 1066] g12))) (by decide)
        have h := h g46 hpo49
        refine sv_iload_n hM dX12_give_82 rfl rfl ?_
        refine sv_iconst (d := (-1 : Int)) hM dX12_give_83 rfl rfl ?_
        refine sv_icmp_eq hM dX12_give_84 hp1 (⟨by decide, by decide⟩ : sv_R (-1 : Int)) (t := 95) rfl rfl (fun hc => ?_) (fun hc => ?_)
        · have h := h.1 (hc)
          have eS := sv_mod.eq md51
          have hb := J41 (sv_sts (sv_sts (sv_sts S [26, 27, 28, 29, 1046, 1047, 1100007, 1100023, 1100024, 1100025, 1053, 31, 1100030, 1100009, 1100027, 1100028, 1100026, 1055, 1100033, 39, 1066] g7) [26, 27, 28, 29, 1046, 1047, 1100007, 1100023, 1100024, 1100025, 1053, 31, 1100030, 1100009, 1100027, 1100028, 1100026, 1055, 1100033, 39, 1066] g12) [26, 27, 28, 29, 1046, 1047, 1100007, 1100023, 1100024, 1100025, 1053, 31, 1100030, 1100009, 1100027, 1100028, 1100026, 1055, 1100033, 39, 1066] g46) (by rw [← eS]; exact ok47) h
          have hb : sv_T sm_XS sm_cs sm_L sm_sh ((if (S 1100002 p2) ≤ (S 1100002 p3) then (S 1100002 p3) else (S 1100002 p2)) + (600 - (S 1046 0)) + 9).toNat (q_give p1 p2 p3 S) 103 95 [(0, .ref 0), (1, sv_I p1), (2, sv_I p2), (3, sv_I p3), (4, sv_I (0 : Int))] [] (sv_sts (sv_sts (sv_sts S [26, 27, 28, 29, 1046, 1047, 1100007, 1100023, 1100024, 1100025, 1053, 31, 1100030, 1100009, 1100027, 1100028, 1100026, 1055, 1100033, 39, 1066] g7) [26, 27, 28, 29, 1046, 1047, 1100007, 1100023, 1100024, 1100025, 1053, 31, 1100030, 1100009, 1100027, 1100028, 1100026, 1055, 1100033, 39, 1066] g12) [26, 27, 28, 29, 1046, 1047, 1100007, 1100023, 1100024, 1100025, 1053, 31, 1100030, 1100009, 1100027, 1100028, 1100026, 1055, 1100033, 39, 1066] g46) := Eq.mpr (congrArg (fun Z => sv_T sm_XS sm_cs sm_L sm_sh ((if (S 1100002 p2) ≤ (S 1100002 p3) then (S 1100002 p3) else (S 1100002 p2)) + (600 - (S 1046 0)) + 9).toNat (q_give p1 p2 p3 S) 103 95 [(0, .ref 0), (1, sv_I p1), (2, sv_I p2), (3, sv_I p3), (4, sv_I (0 : Int))] [] Z) eS) hb
          exact sv_less (lv := [(0, .ref 0), (1, sv_I p1), (2, sv_I p2), (3, sv_I p3), (4, sv_I (0 : Int))]) (sv_Sub_cons rfl (sv_Sub_cons rfl (sv_Sub_cons rfl (sv_Sub_cons rfl (sv_Sub_cons rfl sv_Sub_nil))))) hb
        · have h := h.2 (hc)
          refine sv_aload_n hM dX12_give_87 rfl rfl ?_
          refine sv_bipush (d := (14 : Int)) hM dX12_give_88 rfl rfl ?_
          refine sv_iload_n hM dX12_give_90 rfl rfl ?_
          refine sv_iconst (d := (0 : Int)) hM dX12_give_91 rfl rfl ?_
          obtain ⟨o52, h⟩ := h
          obtain ⟨o53, h⟩ := h
          refine sv_callV hM dX12_give_92 sm_iv_615 (by decide) (sm_a0 _) rfl rfl (Nat.le_of_ble_eq_true rfl) sm_h82 (Nat.le_of_ble_eq_true rfl) (Nat.le_of_ble_eq_true rfl) (F' := 0) (sv_Fn (n := 0) o53) rfl (t_emit (14 : Int) p1 (0 : Int) (sv_sts (sv_sts (sv_sts S [26, 27, 28, 29, 1046, 1047, 1100007, 1100023, 1100024, 1100025, 1053, 31, 1100030, 1100009, 1100027, 1100028, 1100026, 1055, 1100033, 39, 1066] g7) [26, 27, 28, 29, 1046, 1047, 1100007, 1100023, 1100024, 1100025, 1053, 31, 1100030, 1100009, 1100027, 1100028, 1100026, 1055, 1100033, 39, 1066] g12) [26, 27, 28, 29, 1046, 1047, 1100007, 1100023, 1100024, 1100025, 1053, 31, 1100030, 1100009, 1100027, 1100028, 1100026, 1055, 1100033, 39, 1066] g46) ok47 (⟨by decide, by decide⟩ : sv_R (14 : Int)) hp1 (⟨by decide, by decide⟩ : sv_R (0 : Int)) o52) (fun v S1 hq => ?_)
          obtain ⟨rfl, ok55, md56, hpo57⟩ := hq
          obtain ⟨g54, rfl⟩ : ∃ g, S1 = sv_sts (sv_sts (sv_sts (sv_sts S [26, 27, 28, 29, 1046, 1047, 1100007, 1100023, 1100024, 1100025, 1053, 31, 1100030, 1100009, 1100027, 1100028, 1100026, 1055, 1100033, 39, 1066] g7) [26, 27, 28, 29, 1046, 1047, 1100007, 1100023, 1100024, 1100025, 1053, 31, 1100030, 1100009, 1100027, 1100028, 1100026, 1055, 1100033, 39, 1066] g12) [26, 27, 28, 29, 1046, 1047, 1100007, 1100023, 1100024, 1100025, 1053, 31, 1100030, 1100009, 1100027, 1100028, 1100026, 1055, 1100033, 39, 1066] g46) [26, 27, 28, 29, 1046, 1047, 1100007, 1100023, 1100024, 1100025] g := ⟨_, md56.eq⟩
          show sv_T sm_XS sm_cs sm_L sm_sh ((if (S 1100002 p2) ≤ (S 1100002 p3) then (S 1100002 p3) else (S 1100002 p2)) + (600 - (S 1046 0)) + 9).toNat (q_give p1 p2 p3 S) 103 95 [(0, .ref 0), (1, sv_I p1), (2, sv_I p2), (3, sv_I p3), (4, sv_I (0 : Int))] [] (sv_sts (sv_sts (sv_sts (sv_sts S [26, 27, 28, 29, 1046, 1047, 1100007, 1100023, 1100024, 1100025, 1053, 31, 1100030, 1100009, 1100027, 1100028, 1100026, 1055, 1100033, 39, 1066] g7) [26, 27, 28, 29, 1046, 1047, 1100007, 1100023, 1100024, 1100025, 1053, 31, 1100030, 1100009, 1100027, 1100028, 1100026, 1055, 1100033, 39, 1066] g12) [26, 27, 28, 29, 1046, 1047, 1100007, 1100023, 1100024, 1100025, 1053, 31, 1100030, 1100009, 1100027, 1100028, 1100026, 1055, 1100033, 39, 1066] g46) [26, 27, 28, 29, 1046, 1047, 1100007, 1100023, 1100024, 1100025] g54)
          have md58 : sv_mod [26, 27, 28, 29, 1046, 1047, 1100007, 1100023, 1100024, 1100025, 1053, 31, 1100030, 1100009, 1100027, 1100028, 1100026, 1055, 1100033, 39, 1066] S (sv_sts (sv_sts (sv_sts (sv_sts S [26, 27, 28, 29, 1046, 1047, 1100007, 1100023, 1100024, 1100025, 1053, 31, 1100030, 1100009, 1100027, 1100028, 1100026, 1055, 1100033, 39, 1066] g7) [26, 27, 28, 29, 1046, 1047, 1100007, 1100023, 1100024, 1100025, 1053, 31, 1100030, 1100009, 1100027, 1100028, 1100026, 1055, 1100033, 39, 1066] g12) [26, 27, 28, 29, 1046, 1047, 1100007, 1100023, 1100024, 1100025, 1053, 31, 1100030, 1100009, 1100027, 1100028, 1100026, 1055, 1100033, 39, 1066] g46) [26, 27, 28, 29, 1046, 1047, 1100007, 1100023, 1100024, 1100025] g54) := sv_mod.sts md50 (by decide)
          have md59 : sv_mod [26, 27, 28, 29, 1046, 1047, 1100007, 1100023, 1100024, 1100025, 1053, 31, 1100030, 1100009, 1100027, 1100028, 1100026, 1055, 1100033, 39, 1066] (sv_sts (sv_sts S [26, 27, 28, 29, 1046, 1047, 1100007, 1100023, 1100024, 1100025, 1053, 31, 1100030, 1100009, 1100027, 1100028, 1100026, 1055, 1100033, 39, 1066] g7) [26, 27, 28, 29, 1046, 1047, 1100007, 1100023, 1100024, 1100025, 1053, 31, 1100030, 1100009, 1100027, 1100028, 1100026, 1055, 1100033, 39, 1066] g12) (sv_sts (sv_sts (sv_sts (sv_sts S [26, 27, 28, 29, 1046, 1047, 1100007, 1100023, 1100024, 1100025, 1053, 31, 1100030, 1100009, 1100027, 1100028, 1100026, 1055, 1100033, 39, 1066] g7) [26, 27, 28, 29, 1046, 1047, 1100007, 1100023, 1100024, 1100025, 1053, 31, 1100030, 1100009, 1100027, 1100028, 1100026, 1055, 1100033, 39, 1066] g12) [26, 27, 28, 29, 1046, 1047, 1100007, 1100023, 1100024, 1100025, 1053, 31, 1100030, 1100009, 1100027, 1100028, 1100026, 1055, 1100033, 39, 1066] g46) [26, 27, 28, 29, 1046, 1047, 1100007, 1100023, 1100024, 1100025] g54) := sv_mod.sts md51 (by decide)
          have h := h g54 hpo57
          have eS := sv_mod.eq md59
          have hb := J41 (sv_sts (sv_sts (sv_sts (sv_sts S [26, 27, 28, 29, 1046, 1047, 1100007, 1100023, 1100024, 1100025, 1053, 31, 1100030, 1100009, 1100027, 1100028, 1100026, 1055, 1100033, 39, 1066] g7) [26, 27, 28, 29, 1046, 1047, 1100007, 1100023, 1100024, 1100025, 1053, 31, 1100030, 1100009, 1100027, 1100028, 1100026, 1055, 1100033, 39, 1066] g12) [26, 27, 28, 29, 1046, 1047, 1100007, 1100023, 1100024, 1100025, 1053, 31, 1100030, 1100009, 1100027, 1100028, 1100026, 1055, 1100033, 39, 1066] g46) [26, 27, 28, 29, 1046, 1047, 1100007, 1100023, 1100024, 1100025] g54) (by rw [← eS]; exact ok55) h
          have hb : sv_T sm_XS sm_cs sm_L sm_sh ((if (S 1100002 p2) ≤ (S 1100002 p3) then (S 1100002 p3) else (S 1100002 p2)) + (600 - (S 1046 0)) + 9).toNat (q_give p1 p2 p3 S) 103 95 [(0, .ref 0), (1, sv_I p1), (2, sv_I p2), (3, sv_I p3), (4, sv_I (0 : Int))] [] (sv_sts (sv_sts (sv_sts (sv_sts S [26, 27, 28, 29, 1046, 1047, 1100007, 1100023, 1100024, 1100025, 1053, 31, 1100030, 1100009, 1100027, 1100028, 1100026, 1055, 1100033, 39, 1066] g7) [26, 27, 28, 29, 1046, 1047, 1100007, 1100023, 1100024, 1100025, 1053, 31, 1100030, 1100009, 1100027, 1100028, 1100026, 1055, 1100033, 39, 1066] g12) [26, 27, 28, 29, 1046, 1047, 1100007, 1100023, 1100024, 1100025, 1053, 31, 1100030, 1100009, 1100027, 1100028, 1100026, 1055, 1100033, 39, 1066] g46) [26, 27, 28, 29, 1046, 1047, 1100007, 1100023, 1100024, 1100025] g54) := Eq.mpr (congrArg (fun Z => sv_T sm_XS sm_cs sm_L sm_sh ((if (S 1100002 p2) ≤ (S 1100002 p3) then (S 1100002 p3) else (S 1100002 p2)) + (600 - (S 1046 0)) + 9).toNat (q_give p1 p2 p3 S) 103 95 [(0, .ref 0), (1, sv_I p1), (2, sv_I p2), (3, sv_I p3), (4, sv_I (0 : Int))] [] Z) eS) hb
          exact sv_less (lv := [(0, .ref 0), (1, sv_I p1), (2, sv_I p2), (3, sv_I p3), (4, sv_I (0 : Int))]) (sv_Sub_cons rfl (sv_Sub_cons rfl (sv_Sub_cons rfl (sv_Sub_cons rfl (sv_Sub_cons rfl sv_Sub_nil))))) hb
      have h := h.2
      refine sv_iload_n hM dX12_give_42 rfl rfl ?_
      refine sv_iconst (d := (-1 : Int)) hM dX12_give_43 rfl rfl ?_
      refine sv_icmp_eq hM dX12_give_44 hp1 (⟨by decide, by decide⟩ : sv_R (-1 : Int)) (t := 77) rfl rfl (fun hc => ?_) (fun hc => ?_)
      · have h := h.1 (hc)
        have eS := sv_mod.eq (sv_mod.rf (l := [26, 27, 28, 29, 1046, 1047, 1100007, 1100023, 1100024, 1100025, 1053, 31, 1100030, 1100009, 1100027, 1100028, 1100026, 1055, 1100033, 39, 1066]) (S := (sv_sts S [26, 27, 28, 29, 1046, 1047, 1100007, 1100023, 1100024, 1100025, 1053, 31, 1100030, 1100009, 1100027, 1100028, 1100026, 1055, 1100033, 39, 1066] g7)))
        have hb := J60 (sv_sts S [26, 27, 28, 29, 1046, 1047, 1100007, 1100023, 1100024, 1100025, 1053, 31, 1100030, 1100009, 1100027, 1100028, 1100026, 1055, 1100033, 39, 1066] g7) (by rw [← eS]; exact ok8) h
        have hb : sv_T sm_XS sm_cs sm_L sm_sh ((if (S 1100002 p2) ≤ (S 1100002 p3) then (S 1100002 p3) else (S 1100002 p2)) + (600 - (S 1046 0)) + 9).toNat (q_give p1 p2 p3 S) 103 77 [(0, .ref 0), (1, sv_I p1), (2, sv_I p2), (3, sv_I p3), (4, sv_I (0 : Int))] [] (sv_sts S [26, 27, 28, 29, 1046, 1047, 1100007, 1100023, 1100024, 1100025, 1053, 31, 1100030, 1100009, 1100027, 1100028, 1100026, 1055, 1100033, 39, 1066] g7) := Eq.mpr (congrArg (fun Z => sv_T sm_XS sm_cs sm_L sm_sh ((if (S 1100002 p2) ≤ (S 1100002 p3) then (S 1100002 p3) else (S 1100002 p2)) + (600 - (S 1046 0)) + 9).toNat (q_give p1 p2 p3 S) 103 77 [(0, .ref 0), (1, sv_I p1), (2, sv_I p2), (3, sv_I p3), (4, sv_I (0 : Int))] [] Z) eS) hb
        exact sv_less (lv := [(0, .ref 0), (1, sv_I p1), (2, sv_I p2), (3, sv_I p3), (4, sv_I (0 : Int))]) (sv_Sub_cons rfl (sv_Sub_cons rfl (sv_Sub_cons rfl (sv_Sub_cons rfl (sv_Sub_cons rfl sv_Sub_nil))))) hb
      · have h := h.2 (hc)
        refine sv_iload hM dX12_give_47 rfl rfl ?_
        refine sv_cond_eq hM dX12_give_49 (⟨by decide, by decide⟩ : sv_R (0 : Int)) (t := 65) rfl rfl (fun hc => ?_) (fun hc => ?_)
        · have h := h.1 (hc)
          refine sv_aload_n hM dX12_give_65 rfl rfl ?_
          refine sv_bipush (d := (19 : Int)) hM dX12_give_66 rfl rfl ?_
          obtain ⟨o61, h⟩ := h
          obtain ⟨o62, h⟩ := h
          refine sv_callV hM dX12_give_68 sm_iv_666 (by decide) (sm_a0 _) rfl rfl (Nat.le_of_ble_eq_true rfl) sm_h83 (Nat.le_of_ble_eq_true rfl) (Nat.le_of_ble_eq_true rfl) (F' := 1) (sv_Fn (n := 1) o62) rfl (t_emit_ (19 : Int) (sv_sts S [26, 27, 28, 29, 1046, 1047, 1100007, 1100023, 1100024, 1100025, 1053, 31, 1100030, 1100009, 1100027, 1100028, 1100026, 1055, 1100033, 39, 1066] g7) ok8 (⟨by decide, by decide⟩ : sv_R (19 : Int)) o61) (fun v S1 hq => ?_)
          obtain ⟨rfl, ok64, md65, hpo66⟩ := hq
          obtain ⟨g63, rfl⟩ : ∃ g, S1 = sv_sts (sv_sts S [26, 27, 28, 29, 1046, 1047, 1100007, 1100023, 1100024, 1100025, 1053, 31, 1100030, 1100009, 1100027, 1100028, 1100026, 1055, 1100033, 39, 1066] g7) [26, 27, 28, 29, 1046, 1047, 1100007, 1100023, 1100024, 1100025] g := ⟨_, md65.eq⟩
          show sv_T sm_XS sm_cs sm_L sm_sh ((if (S 1100002 p2) ≤ (S 1100002 p3) then (S 1100002 p3) else (S 1100002 p2)) + (600 - (S 1046 0)) + 9).toNat (q_give p1 p2 p3 S) 103 71 [(0, .ref 0), (1, sv_I p1), (2, sv_I p2), (3, sv_I p3), (4, sv_I (0 : Int))] [] (sv_sts (sv_sts S [26, 27, 28, 29, 1046, 1047, 1100007, 1100023, 1100024, 1100025, 1053, 31, 1100030, 1100009, 1100027, 1100028, 1100026, 1055, 1100033, 39, 1066] g7) [26, 27, 28, 29, 1046, 1047, 1100007, 1100023, 1100024, 1100025] g63)
          have md67 : sv_mod [26, 27, 28, 29, 1046, 1047, 1100007, 1100023, 1100024, 1100025, 1053, 31, 1100030, 1100009, 1100027, 1100028, 1100026, 1055, 1100033, 39, 1066] S (sv_sts (sv_sts S [26, 27, 28, 29, 1046, 1047, 1100007, 1100023, 1100024, 1100025, 1053, 31, 1100030, 1100009, 1100027, 1100028, 1100026, 1055, 1100033, 39, 1066] g7) [26, 27, 28, 29, 1046, 1047, 1100007, 1100023, 1100024, 1100025] g63) := sv_mod.sts md10 (by decide)
          have md68 : sv_mod [26, 27, 28, 29, 1046, 1047, 1100007, 1100023, 1100024, 1100025, 1053, 31, 1100030, 1100009, 1100027, 1100028, 1100026, 1055, 1100033, 39, 1066] (sv_sts S [26, 27, 28, 29, 1046, 1047, 1100007, 1100023, 1100024, 1100025, 1053, 31, 1100030, 1100009, 1100027, 1100028, 1100026, 1055, 1100033, 39, 1066] g7) (sv_sts (sv_sts S [26, 27, 28, 29, 1046, 1047, 1100007, 1100023, 1100024, 1100025, 1053, 31, 1100030, 1100009, 1100027, 1100028, 1100026, 1055, 1100033, 39, 1066] g7) [26, 27, 28, 29, 1046, 1047, 1100007, 1100023, 1100024, 1100025] g63) := sv_mod.sts (sv_mod.rf (l := [26, 27, 28, 29, 1046, 1047, 1100007, 1100023, 1100024, 1100025, 1053, 31, 1100030, 1100009, 1100027, 1100028, 1100026, 1055, 1100033, 39, 1066]) (S := (sv_sts S [26, 27, 28, 29, 1046, 1047, 1100007, 1100023, 1100024, 1100025, 1053, 31, 1100030, 1100009, 1100027, 1100028, 1100026, 1055, 1100033, 39, 1066] g7))) (by decide)
          have h := h g63 hpo66
          refine sv_aload_n hM dX12_give_71 rfl rfl ?_
          refine sv_bipush (d := (10 : Int)) hM dX12_give_72 rfl rfl ?_
          obtain ⟨o69, h⟩ := h
          refine sv_callV hM dX12_give_74 sm_iv_666 (by decide) (sm_a0 _) rfl rfl (Nat.le_of_ble_eq_true rfl) sm_h83 (Nat.le_of_ble_eq_true rfl) (Nat.le_of_ble_eq_true rfl) (F' := 1) (sv_Fn (n := 1) o62) rfl (t_emit_ (10 : Int) (sv_sts (sv_sts S [26, 27, 28, 29, 1046, 1047, 1100007, 1100023, 1100024, 1100025, 1053, 31, 1100030, 1100009, 1100027, 1100028, 1100026, 1055, 1100033, 39, 1066] g7) [26, 27, 28, 29, 1046, 1047, 1100007, 1100023, 1100024, 1100025] g63) ok64 (⟨by decide, by decide⟩ : sv_R (10 : Int)) o69) (fun v S1 hq => ?_)
          obtain ⟨rfl, ok71, md72, hpo73⟩ := hq
          obtain ⟨g70, rfl⟩ : ∃ g, S1 = sv_sts (sv_sts (sv_sts S [26, 27, 28, 29, 1046, 1047, 1100007, 1100023, 1100024, 1100025, 1053, 31, 1100030, 1100009, 1100027, 1100028, 1100026, 1055, 1100033, 39, 1066] g7) [26, 27, 28, 29, 1046, 1047, 1100007, 1100023, 1100024, 1100025] g63) [26, 27, 28, 29, 1046, 1047, 1100007, 1100023, 1100024, 1100025] g := ⟨_, md72.eq⟩
          show sv_T sm_XS sm_cs sm_L sm_sh ((if (S 1100002 p2) ≤ (S 1100002 p3) then (S 1100002 p3) else (S 1100002 p2)) + (600 - (S 1046 0)) + 9).toNat (q_give p1 p2 p3 S) 103 77 [(0, .ref 0), (1, sv_I p1), (2, sv_I p2), (3, sv_I p3), (4, sv_I (0 : Int))] [] (sv_sts (sv_sts (sv_sts S [26, 27, 28, 29, 1046, 1047, 1100007, 1100023, 1100024, 1100025, 1053, 31, 1100030, 1100009, 1100027, 1100028, 1100026, 1055, 1100033, 39, 1066] g7) [26, 27, 28, 29, 1046, 1047, 1100007, 1100023, 1100024, 1100025] g63) [26, 27, 28, 29, 1046, 1047, 1100007, 1100023, 1100024, 1100025] g70)
          have md74 : sv_mod [26, 27, 28, 29, 1046, 1047, 1100007, 1100023, 1100024, 1100025, 1053, 31, 1100030, 1100009, 1100027, 1100028, 1100026, 1055, 1100033, 39, 1066] S (sv_sts (sv_sts (sv_sts S [26, 27, 28, 29, 1046, 1047, 1100007, 1100023, 1100024, 1100025, 1053, 31, 1100030, 1100009, 1100027, 1100028, 1100026, 1055, 1100033, 39, 1066] g7) [26, 27, 28, 29, 1046, 1047, 1100007, 1100023, 1100024, 1100025] g63) [26, 27, 28, 29, 1046, 1047, 1100007, 1100023, 1100024, 1100025] g70) := sv_mod.sts md67 (by decide)
          have md75 : sv_mod [26, 27, 28, 29, 1046, 1047, 1100007, 1100023, 1100024, 1100025, 1053, 31, 1100030, 1100009, 1100027, 1100028, 1100026, 1055, 1100033, 39, 1066] (sv_sts S [26, 27, 28, 29, 1046, 1047, 1100007, 1100023, 1100024, 1100025, 1053, 31, 1100030, 1100009, 1100027, 1100028, 1100026, 1055, 1100033, 39, 1066] g7) (sv_sts (sv_sts (sv_sts S [26, 27, 28, 29, 1046, 1047, 1100007, 1100023, 1100024, 1100025, 1053, 31, 1100030, 1100009, 1100027, 1100028, 1100026, 1055, 1100033, 39, 1066] g7) [26, 27, 28, 29, 1046, 1047, 1100007, 1100023, 1100024, 1100025] g63) [26, 27, 28, 29, 1046, 1047, 1100007, 1100023, 1100024, 1100025] g70) := sv_mod.sts md68 (by decide)
          have h := h g70 hpo73
          have eS := sv_mod.eq md75
          have hb := J60 (sv_sts (sv_sts (sv_sts S [26, 27, 28, 29, 1046, 1047, 1100007, 1100023, 1100024, 1100025, 1053, 31, 1100030, 1100009, 1100027, 1100028, 1100026, 1055, 1100033, 39, 1066] g7) [26, 27, 28, 29, 1046, 1047, 1100007, 1100023, 1100024, 1100025] g63) [26, 27, 28, 29, 1046, 1047, 1100007, 1100023, 1100024, 1100025] g70) (by rw [← eS]; exact ok71) h
          have hb : sv_T sm_XS sm_cs sm_L sm_sh ((if (S 1100002 p2) ≤ (S 1100002 p3) then (S 1100002 p3) else (S 1100002 p2)) + (600 - (S 1046 0)) + 9).toNat (q_give p1 p2 p3 S) 103 77 [(0, .ref 0), (1, sv_I p1), (2, sv_I p2), (3, sv_I p3), (4, sv_I (0 : Int))] [] (sv_sts (sv_sts (sv_sts S [26, 27, 28, 29, 1046, 1047, 1100007, 1100023, 1100024, 1100025, 1053, 31, 1100030, 1100009, 1100027, 1100028, 1100026, 1055, 1100033, 39, 1066] g7) [26, 27, 28, 29, 1046, 1047, 1100007, 1100023, 1100024, 1100025] g63) [26, 27, 28, 29, 1046, 1047, 1100007, 1100023, 1100024, 1100025] g70) := Eq.mpr (congrArg (fun Z => sv_T sm_XS sm_cs sm_L sm_sh ((if (S 1100002 p2) ≤ (S 1100002 p3) then (S 1100002 p3) else (S 1100002 p2)) + (600 - (S 1046 0)) + 9).toNat (q_give p1 p2 p3 S) 103 77 [(0, .ref 0), (1, sv_I p1), (2, sv_I p2), (3, sv_I p3), (4, sv_I (0 : Int))] [] Z) eS) hb
          exact sv_less (lv := [(0, .ref 0), (1, sv_I p1), (2, sv_I p2), (3, sv_I p3), (4, sv_I (0 : Int))]) (sv_Sub_cons rfl (sv_Sub_cons rfl (sv_Sub_cons rfl (sv_Sub_cons rfl (sv_Sub_cons rfl sv_Sub_nil))))) hb
        · have h := h.2 (hc)
          have k76 : (sm_WF (S 11) (S 12) (S 13) (S 1100001) (S 1100002) (S 1100005) (S 1100003) (S 1100004) (S 1024 0) (S 1007 0) (S 1009 0) (sm_fn (S 1032 0) (S 21) (S 1056 0)) → 0 ≤ p2 → p2 < (S 1024 0) → (S 1100001 p2) = 1 → (S 11 p2) = 2 → sm_nm (S 1007 0) (S 1009 0) ((S 12 (5 * (p2))))) := fun h a0 a1 a2 a3 => sm_g1_2 h _ a0 a1 a2 a3
          have h := h k76
          have k77 : (sm_nm (S 1007 0) (S 1009 0) ((S 12 (5 * p2))) → (S 1009 0) = 0 → 0 ≤ (S 12 (5 * p2)) ∧ (S 12 (5 * p2)) < (S 1007 0)) := fun h a => sm_h_nm h a
          have h := h k77
          refine sv_aload_n hM dX12_give_52 rfl rfl ?_
          refine sv_aload_n hM dX12_give_53 rfl rfl ?_
          refine sv_iload_n hM dX12_give_54 rfl rfl ?_
          refine sv_iconst (d := (0 : Int)) hM dX12_give_55 rfl rfl ?_
          obtain ⟨o78, h⟩ := h
          obtain ⟨o79, h⟩ := h
          refine sv_callV hM dX12_give_56 sm_iv_644 (by decide) (sm_a0 _) rfl rfl (Nat.le_of_ble_eq_true rfl) sm_h34 (Nat.le_of_ble_eq_true rfl) (Nat.le_of_ble_eq_true rfl) (F' := 0) (sv_Fn (n := 0) o79) rfl (t_part p2 (0 : Int) (sv_sts S [26, 27, 28, 29, 1046, 1047, 1100007, 1100023, 1100024, 1100025, 1053, 31, 1100030, 1100009, 1100027, 1100028, 1100026, 1055, 1100033, 39, 1066] g7) ok8 hp2 (⟨by decide, by decide⟩ : sv_R (0 : Int)) o78) (fun v S1 hq => ?_)
          obtain ⟨rfl, hS1⟩ := hq
          obtain rfl : (sv_sts S [26, 27, 28, 29, 1046, 1047, 1100007, 1100023, 1100024, 1100025, 1053, 31, 1100030, 1100009, 1100027, 1100028, 1100026, 1055, 1100033, 39, 1066] g7) = S1 := hS1.symm
          show sv_T sm_XS sm_cs sm_L sm_sh ((if (S 1100002 p2) ≤ (S 1100002 p3) then (S 1100002 p3) else (S 1100002 p2)) + (600 - (S 1046 0)) + 9).toNat (q_give p1 p2 p3 S) 103 59 [(0, .ref 0), (1, sv_I p1), (2, sv_I p2), (3, sv_I p3), (4, sv_I (0 : Int))] [sv_I ((S 12 (5 * p2 + (0 : Int)))), .ref 0] (sv_sts S [26, 27, 28, 29, 1046, 1047, 1100007, 1100023, 1100024, 1100025, 1053, 31, 1100030, 1100009, 1100027, 1100028, 1100026, 1055, 1100033, 39, 1066] g7)
          obtain ⟨o80, h⟩ := h
          obtain ⟨o81, h⟩ := h
          refine sv_callV hM dX12_give_59 sm_iv_680 (by decide) (sm_a0 _) rfl rfl (Nat.le_of_ble_eq_true rfl) sm_h88 (Nat.le_of_ble_eq_true rfl) (Nat.le_of_ble_eq_true rfl) (F' := 2) (sv_Fn (n := 2) o81) rfl (t_coderget ((S 12 (5 * p2 + (0 : Int)))) (sv_sts S [26, 27, 28, 29, 1046, 1047, 1100007, 1100023, 1100024, 1100025, 1053, 31, 1100030, 1100009, 1100027, 1100028, 1100026, 1055, 1100033, 39, 1066] g7) ok8 (sm_okI ok8 sm_r12 _) o80) (fun v S1 hq => ?_)
          obtain ⟨rfl, ok83, md84, hpo85⟩ := hq
          obtain ⟨g82, rfl⟩ : ∃ g, S1 = sv_sts (sv_sts S [26, 27, 28, 29, 1046, 1047, 1100007, 1100023, 1100024, 1100025, 1053, 31, 1100030, 1100009, 1100027, 1100028, 1100026, 1055, 1100033, 39, 1066] g7) [26, 27, 28, 29, 1046, 1047, 1100007, 1100023, 1100024, 1100025] g := ⟨_, md84.eq⟩
          show sv_T sm_XS sm_cs sm_L sm_sh ((if (S 1100002 p2) ≤ (S 1100002 p3) then (S 1100002 p3) else (S 1100002 p2)) + (600 - (S 1046 0)) + 9).toNat (q_give p1 p2 p3 S) 103 62 [(0, .ref 0), (1, sv_I p1), (2, sv_I p2), (3, sv_I p3), (4, sv_I (0 : Int))] [] (sv_sts (sv_sts S [26, 27, 28, 29, 1046, 1047, 1100007, 1100023, 1100024, 1100025, 1053, 31, 1100030, 1100009, 1100027, 1100028, 1100026, 1055, 1100033, 39, 1066] g7) [26, 27, 28, 29, 1046, 1047, 1100007, 1100023, 1100024, 1100025] g82)
          have md86 : sv_mod [26, 27, 28, 29, 1046, 1047, 1100007, 1100023, 1100024, 1100025, 1053, 31, 1100030, 1100009, 1100027, 1100028, 1100026, 1055, 1100033, 39, 1066] S (sv_sts (sv_sts S [26, 27, 28, 29, 1046, 1047, 1100007, 1100023, 1100024, 1100025, 1053, 31, 1100030, 1100009, 1100027, 1100028, 1100026, 1055, 1100033, 39, 1066] g7) [26, 27, 28, 29, 1046, 1047, 1100007, 1100023, 1100024, 1100025] g82) := sv_mod.sts md10 (by decide)
          have md87 : sv_mod [26, 27, 28, 29, 1046, 1047, 1100007, 1100023, 1100024, 1100025, 1053, 31, 1100030, 1100009, 1100027, 1100028, 1100026, 1055, 1100033, 39, 1066] (sv_sts S [26, 27, 28, 29, 1046, 1047, 1100007, 1100023, 1100024, 1100025, 1053, 31, 1100030, 1100009, 1100027, 1100028, 1100026, 1055, 1100033, 39, 1066] g7) (sv_sts (sv_sts S [26, 27, 28, 29, 1046, 1047, 1100007, 1100023, 1100024, 1100025, 1053, 31, 1100030, 1100009, 1100027, 1100028, 1100026, 1055, 1100033, 39, 1066] g7) [26, 27, 28, 29, 1046, 1047, 1100007, 1100023, 1100024, 1100025] g82) := sv_mod.sts (sv_mod.rf (l := [26, 27, 28, 29, 1046, 1047, 1100007, 1100023, 1100024, 1100025, 1053, 31, 1100030, 1100009, 1100027, 1100028, 1100026, 1055, 1100033, 39, 1066]) (S := (sv_sts S [26, 27, 28, 29, 1046, 1047, 1100007, 1100023, 1100024, 1100025, 1053, 31, 1100030, 1100009, 1100027, 1100028, 1100026, 1055, 1100033, 39, 1066] g7))) (by decide)
          have h := h g82 hpo85
          refine sv_goto hM dX12_give_62 (pc' := 77) rfl ?_
          have eS := sv_mod.eq md87
          have hb := J60 (sv_sts (sv_sts S [26, 27, 28, 29, 1046, 1047, 1100007, 1100023, 1100024, 1100025, 1053, 31, 1100030, 1100009, 1100027, 1100028, 1100026, 1055, 1100033, 39, 1066] g7) [26, 27, 28, 29, 1046, 1047, 1100007, 1100023, 1100024, 1100025] g82) (by rw [← eS]; exact ok83) h
          have hb : sv_T sm_XS sm_cs sm_L sm_sh ((if (S 1100002 p2) ≤ (S 1100002 p3) then (S 1100002 p3) else (S 1100002 p2)) + (600 - (S 1046 0)) + 9).toNat (q_give p1 p2 p3 S) 103 77 [(0, .ref 0), (1, sv_I p1), (2, sv_I p2), (3, sv_I p3), (4, sv_I (0 : Int))] [] (sv_sts (sv_sts S [26, 27, 28, 29, 1046, 1047, 1100007, 1100023, 1100024, 1100025, 1053, 31, 1100030, 1100009, 1100027, 1100028, 1100026, 1055, 1100033, 39, 1066] g7) [26, 27, 28, 29, 1046, 1047, 1100007, 1100023, 1100024, 1100025] g82) := Eq.mpr (congrArg (fun Z => sv_T sm_XS sm_cs sm_L sm_sh ((if (S 1100002 p2) ≤ (S 1100002 p3) then (S 1100002 p3) else (S 1100002 p2)) + (600 - (S 1046 0)) + 9).toNat (q_give p1 p2 p3 S) 103 77 [(0, .ref 0), (1, sv_I p1), (2, sv_I p2), (3, sv_I p3), (4, sv_I (0 : Int))] [] Z) eS) hb
          exact sv_less (lv := [(0, .ref 0), (1, sv_I p1), (2, sv_I p2), (3, sv_I p3), (4, sv_I (0 : Int))]) (sv_Sub_cons rfl (sv_Sub_cons rfl (sv_Sub_cons rfl (sv_Sub_cons rfl (sv_Sub_cons rfl sv_Sub_nil))))) hb
    have h := h.2
    refine sv_iload hM dX12_give_17 rfl rfl ?_
    refine sv_cond_ne hM dX12_give_19 (⟨by decide, by decide⟩ : sv_R (0 : Int)) (t := 42) rfl rfl (fun hc => ?_) (fun hc => ?_)
    · have h := h.1 (hc)
      have eS := sv_mod.eq (sv_mod.rf (l := [26, 27, 28, 29, 1046, 1047, 1100007, 1100023, 1100024, 1100025, 1053, 31, 1100030, 1100009, 1100027, 1100028, 1100026, 1055, 1100033, 39, 1066]) (S := S))
      have hb := J88 S (by rw [← eS]; exact hok) h
      have hb : sv_T sm_XS sm_cs sm_L sm_sh ((if (S 1100002 p2) ≤ (S 1100002 p3) then (S 1100002 p3) else (S 1100002 p2)) + (600 - (S 1046 0)) + 9).toNat (q_give p1 p2 p3 S) 103 42 [(0, .ref 0), (1, sv_I p1), (2, sv_I p2), (3, sv_I p3), (4, sv_I (0 : Int))] [] S := Eq.mpr (congrArg (fun Z => sv_T sm_XS sm_cs sm_L sm_sh ((if (S 1100002 p2) ≤ (S 1100002 p3) then (S 1100002 p3) else (S 1100002 p2)) + (600 - (S 1046 0)) + 9).toNat (q_give p1 p2 p3 S) 103 42 [(0, .ref 0), (1, sv_I p1), (2, sv_I p2), (3, sv_I p3), (4, sv_I (0 : Int))] [] Z) eS) hb
      exact sv_less (lv := [(0, .ref 0), (1, sv_I p1), (2, sv_I p2), (3, sv_I p3), (4, sv_I (0 : Int))]) (sv_Sub_cons rfl (sv_Sub_cons rfl (sv_Sub_cons rfl (sv_Sub_cons rfl (sv_Sub_cons rfl sv_Sub_nil))))) hb
    · have h := h.2 (hc)
      have k89 : (sm_WF (S 11) (S 12) (S 13) (S 1100001) (S 1100002) (S 1100005) (S 1100003) (S 1100004) (S 1024 0) (S 1007 0) (S 1009 0) (sm_fn (S 1032 0) (S 21) (S 1056 0)) → 0 ≤ p2 → p2 < (S 1024 0) → (S 1100001 p2) = 1 → (S 11 p2) = 7 → sm_ex (S 1100001) (S 1100002) (S 1100005) (S 1024 0) 1 ((S 12 (5 * (p2)))) ((S 1100002 (p2))) ((S 1100005 (p2))) ∧ (S 12 (5 * (p2))) < (p2) ∧ sm_ex (S 1100001) (S 1100002) (S 1100005) (S 1024 0) 1 ((S 12 (5 * (p2) + 1))) (((S 1100002 (p2))) - 1) ((S 1100005 (p2))) ∧ (S 12 (5 * (p2) + 1)) < (p2)) := fun h a0 a1 a2 a3 => sm_g1_7 h _ a0 a1 a2 a3
      have h := h k89
      have k90 : (sm_WF (S 11) (S 12) (S 13) (S 1100001) (S 1100002) (S 1100005) (S 1100003) (S 1100004) (S 1024 0) (S 1007 0) (S 1009 0) (sm_fn (S 1032 0) (S 21) (S 1056 0)) → 0 ≤ (S 12 (5 * p2)) → (S 12 (5 * p2)) < (S 1024 0) → ((S 1100001 ((S 12 (5 * p2)))) = 1 → 0 ≤ (S 1100002 ((S 12 (5 * p2)))) ∧ ((S 11 ((S 12 (5 * p2)))) = 3 → (S 12 (5 * ((S 12 (5 * p2))) + 1)) < ((S 12 (5 * p2)))) ∧ ((S 11 ((S 12 (5 * p2)))) = 4 ∨ (S 11 ((S 12 (5 * p2)))) = 5 ∨ (S 11 ((S 12 (5 * p2)))) = 8 ∨ (S 11 ((S 12 (5 * p2)))) = 9 → 17 * (S 1100005 ((S 12 (5 * p2)))) + 2 ≤ (S 1100002 ((S 12 (5 * p2))))) ∧ 0 ≤ (S 1100005 ((S 12 (5 * p2))))) ∧ ((S 1100001 ((S 12 (5 * p2)))) = 2 → 0 ≤ (S 1100005 ((S 12 (5 * p2)))) ∧ (S 1100002 ((S 12 (5 * p2)))) ≤ 17 * (S 1100005 ((S 12 (5 * p2)))) + 5 ∧ ((S 11 ((S 12 (5 * p2)))) = 33 → 1 ≤ (S 1100005 ((S 12 (5 * p2)))))) ∧ ((S 1100001 ((S 12 (5 * p2)))) = 6 → 0 ≤ (S 1100002 ((S 12 (5 * p2)))) ∧ 1 ≤ (S 1100004 ((S 12 (5 * p2)))) ∧ ((S 12 (5 * ((S 12 (5 * p2))))) = - 1 → (S 1100004 ((S 12 (5 * p2)))) = 2)) ∧ ((S 1100001 ((S 12 (5 * p2)))) = 3 → 1 ≤ (S 1100002 ((S 12 (5 * p2)))))) := fun h a0 a1 => sm_gx h _ a0 a1
      have h := h k90
      have k91 : (sm_WF (S 11) (S 12) (S 13) (S 1100001) (S 1100002) (S 1100005) (S 1100003) (S 1100004) (S 1024 0) (S 1007 0) (S 1009 0) (sm_fn (S 1032 0) (S 21) (S 1056 0)) → 0 ≤ (S 12 (5 * p2 + 1)) → (S 12 (5 * p2 + 1)) < (S 1024 0) → ((S 1100001 ((S 12 (5 * p2 + 1)))) = 1 → 0 ≤ (S 1100002 ((S 12 (5 * p2 + 1)))) ∧ ((S 11 ((S 12 (5 * p2 + 1)))) = 3 → (S 12 (5 * ((S 12 (5 * p2 + 1))) + 1)) < ((S 12 (5 * p2 + 1)))) ∧ ((S 11 ((S 12 (5 * p2 + 1)))) = 4 ∨ (S 11 ((S 12 (5 * p2 + 1)))) = 5 ∨ (S 11 ((S 12 (5 * p2 + 1)))) = 8 ∨ (S 11 ((S 12 (5 * p2 + 1)))) = 9 → 17 * (S 1100005 ((S 12 (5 * p2 + 1)))) + 2 ≤ (S 1100002 ((S 12 (5 * p2 + 1))))) ∧ 0 ≤ (S 1100005 ((S 12 (5 * p2 + 1))))) ∧ ((S 1100001 ((S 12 (5 * p2 + 1)))) = 2 → 0 ≤ (S 1100005 ((S 12 (5 * p2 + 1)))) ∧ (S 1100002 ((S 12 (5 * p2 + 1)))) ≤ 17 * (S 1100005 ((S 12 (5 * p2 + 1)))) + 5 ∧ ((S 11 ((S 12 (5 * p2 + 1)))) = 33 → 1 ≤ (S 1100005 ((S 12 (5 * p2 + 1)))))) ∧ ((S 1100001 ((S 12 (5 * p2 + 1)))) = 6 → 0 ≤ (S 1100002 ((S 12 (5 * p2 + 1)))) ∧ 1 ≤ (S 1100004 ((S 12 (5 * p2 + 1)))) ∧ ((S 12 (5 * ((S 12 (5 * p2 + 1))))) = - 1 → (S 1100004 ((S 12 (5 * p2 + 1)))) = 2)) ∧ ((S 1100001 ((S 12 (5 * p2 + 1)))) = 3 → 1 ≤ (S 1100002 ((S 12 (5 * p2 + 1)))))) := fun h a0 a1 => sm_gx h _ a0 a1
      have h := h k91
      have k92 : ((S 1100005 (S 12 (5 * p2 + 0))) = (S 1100005 (S 12 (5 * p2)))) := by rw [Int.add_zero]
      have h := h k92
      have k93 : ((S 1100002 (S 12 (5 * p2 + 0))) = (S 1100002 (S 12 (5 * p2)))) := by rw [Int.add_zero]
      have h := h k93
      refine sv_aload_n hM dX12_give_22 rfl rfl ?_
      refine sv_aload_n hM dX12_give_23 rfl rfl ?_
      refine sv_iload_n hM dX12_give_24 rfl rfl ?_
      refine sv_iconst (d := (0 : Int)) hM dX12_give_25 rfl rfl ?_
      obtain ⟨o94, h⟩ := h
      obtain ⟨o95, h⟩ := h
      refine sv_callV hM dX12_give_26 sm_iv_644 (by decide) (sm_a0 _) rfl rfl (Nat.le_of_ble_eq_true rfl) sm_h34 (Nat.le_of_ble_eq_true rfl) (Nat.le_of_ble_eq_true rfl) (F' := 0) (sv_Fn (n := 0) o95) rfl (t_part p2 (0 : Int) S hok hp2 (⟨by decide, by decide⟩ : sv_R (0 : Int)) o94) (fun v S1 hq => ?_)
      obtain ⟨rfl, hS1⟩ := hq
      obtain rfl : S = S1 := hS1.symm
      show sv_T sm_XS sm_cs sm_L sm_sh ((if (S 1100002 p2) ≤ (S 1100002 p3) then (S 1100002 p3) else (S 1100002 p2)) + (600 - (S 1046 0)) + 9).toNat (q_give p1 p2 p3 S) 103 29 [(0, .ref 0), (1, sv_I p1), (2, sv_I p2), (3, sv_I p3), (4, sv_I (0 : Int))] [sv_I ((S 12 (5 * p2 + (0 : Int)))), .ref 0] S
      obtain ⟨o96, h⟩ := h
      obtain ⟨o97, h⟩ := h
      obtain ⟨o98, h⟩ := h
      refine sv_callV hM dX12_give_29 sm_iv_668 (by decide) (sm_a0 _) rfl rfl (Nat.le_of_ble_eq_true rfl) sm_h96 (Nat.le_of_ble_eq_true rfl) (Nat.le_of_ble_eq_true rfl) (F' := (((if (S 1047 0) = 0 then (S 1100002 ((S 12 (5 * p2 + (0 : Int))))) + (600 - (S 1046 0)) + 8 else 4))).toNat) (sv_Fe o98) rfl ((IH ((if (S 1047 0) = 0 then (S 1100002 ((S 12 (5 * p2 + (0 : Int))))) + (600 - (S 1046 0)) + 8 else 4)) o97.1 o97.2).1 ((S 12 (5 * p2 + (0 : Int)))) S hok (sm_okI hok sm_r12 _) o96 rfl) (fun v S1 hq => ?_)
      obtain ⟨rfl, ok100, md101, hpo102⟩ := hq
      obtain ⟨g99, rfl⟩ : ∃ g, S1 = sv_sts S [26, 27, 28, 29, 1046, 1047, 1100007, 1100023, 1100024, 1100025, 1053, 31, 1100030, 1100009, 1100027, 1100028, 1100026, 1055, 1100033, 39, 1066] g := ⟨_, md101.eq⟩
      show sv_T sm_XS sm_cs sm_L sm_sh ((if (S 1100002 p2) ≤ (S 1100002 p3) then (S 1100002 p3) else (S 1100002 p2)) + (600 - (S 1046 0)) + 9).toNat (q_give p1 p2 p3 S) 103 32 [(0, .ref 0), (1, sv_I p1), (2, sv_I p2), (3, sv_I p3), (4, sv_I (0 : Int))] [] (sv_sts S [26, 27, 28, 29, 1046, 1047, 1100007, 1100023, 1100024, 1100025, 1053, 31, 1100030, 1100009, 1100027, 1100028, 1100026, 1055, 1100033, 39, 1066] g99)
      have md103 : sv_mod [26, 27, 28, 29, 1046, 1047, 1100007, 1100023, 1100024, 1100025, 1053, 31, 1100030, 1100009, 1100027, 1100028, 1100026, 1055, 1100033, 39, 1066] S (sv_sts S [26, 27, 28, 29, 1046, 1047, 1100007, 1100023, 1100024, 1100025, 1053, 31, 1100030, 1100009, 1100027, 1100028, 1100026, 1055, 1100033, 39, 1066] g99) := sv_mod.sts sv_mod.rf (by decide)
      have md104 : sv_mod [26, 27, 28, 29, 1046, 1047, 1100007, 1100023, 1100024, 1100025, 1053, 31, 1100030, 1100009, 1100027, 1100028, 1100026, 1055, 1100033, 39, 1066] S (sv_sts S [26, 27, 28, 29, 1046, 1047, 1100007, 1100023, 1100024, 1100025, 1053, 31, 1100030, 1100009, 1100027, 1100028, 1100026, 1055, 1100033, 39, 1066] g99) := sv_mod.sts (sv_mod.rf (l := [26, 27, 28, 29, 1046, 1047, 1100007, 1100023, 1100024, 1100025, 1053, 31, 1100030, 1100009, 1100027, 1100028, 1100026, 1055, 1100033, 39, 1066]) (S := S)) (by decide)
      have h := h g99 hpo102
      refine sv_aload_n hM dX12_give_32 rfl rfl ?_
      refine sv_aload_n hM dX12_give_33 rfl rfl ?_
      refine sv_iload_n hM dX12_give_34 rfl rfl ?_
      refine sv_iconst (d := (1 : Int)) hM dX12_give_35 rfl rfl ?_
      obtain ⟨o105, h⟩ := h
      refine sv_callV hM dX12_give_36 sm_iv_644 (by decide) (sm_a0 _) rfl rfl (Nat.le_of_ble_eq_true rfl) sm_h34 (Nat.le_of_ble_eq_true rfl) (Nat.le_of_ble_eq_true rfl) (F' := 0) (sv_Fn (n := 0) o95) rfl (t_part p2 (1 : Int) (sv_sts S [26, 27, 28, 29, 1046, 1047, 1100007, 1100023, 1100024, 1100025, 1053, 31, 1100030, 1100009, 1100027, 1100028, 1100026, 1055, 1100033, 39, 1066] g99) ok100 hp2 (⟨by decide, by decide⟩ : sv_R (1 : Int)) o105) (fun v S1 hq => ?_)
      obtain ⟨rfl, hS1⟩ := hq
      obtain rfl : (sv_sts S [26, 27, 28, 29, 1046, 1047, 1100007, 1100023, 1100024, 1100025, 1053, 31, 1100030, 1100009, 1100027, 1100028, 1100026, 1055, 1100033, 39, 1066] g99) = S1 := hS1.symm
      show sv_T sm_XS sm_cs sm_L sm_sh ((if (S 1100002 p2) ≤ (S 1100002 p3) then (S 1100002 p3) else (S 1100002 p2)) + (600 - (S 1046 0)) + 9).toNat (q_give p1 p2 p3 S) 103 39 [(0, .ref 0), (1, sv_I p1), (2, sv_I p2), (3, sv_I p3), (4, sv_I (0 : Int))] [sv_I ((S 12 (5 * p2 + (1 : Int)))), .ref 0] (sv_sts S [26, 27, 28, 29, 1046, 1047, 1100007, 1100023, 1100024, 1100025, 1053, 31, 1100030, 1100009, 1100027, 1100028, 1100026, 1055, 1100033, 39, 1066] g99)
      obtain ⟨o106, h⟩ := h
      obtain ⟨o107, h⟩ := h
      obtain ⟨o108, h⟩ := h
      refine sv_callV hM dX12_give_39 sm_iv_668 (by decide) (sm_a0 _) rfl rfl (Nat.le_of_ble_eq_true rfl) sm_h96 (Nat.le_of_ble_eq_true rfl) (Nat.le_of_ble_eq_true rfl) (F' := (((if (g99 1047 0) = 0 then (S 1100002 ((S 12 (5 * p2 + (1 : Int))))) + (600 - (g99 1046 0)) + 8 else 4))).toNat) (sv_Fe o108) rfl ((IH ((if (g99 1047 0) = 0 then (S 1100002 ((S 12 (5 * p2 + (1 : Int))))) + (600 - (g99 1046 0)) + 8 else 4)) o107.1 o107.2).1 ((S 12 (5 * p2 + (1 : Int)))) (sv_sts S [26, 27, 28, 29, 1046, 1047, 1100007, 1100023, 1100024, 1100025, 1053, 31, 1100030, 1100009, 1100027, 1100028, 1100026, 1055, 1100033, 39, 1066] g99) ok100 (sm_okI ok100 sm_r12 _) o106 rfl) (fun v S1 hq => ?_)
      obtain ⟨rfl, ok110, md111, hpo112⟩ := hq
      obtain ⟨g109, rfl⟩ : ∃ g, S1 = sv_sts (sv_sts S [26, 27, 28, 29, 1046, 1047, 1100007, 1100023, 1100024, 1100025, 1053, 31, 1100030, 1100009, 1100027, 1100028, 1100026, 1055, 1100033, 39, 1066] g99) [26, 27, 28, 29, 1046, 1047, 1100007, 1100023, 1100024, 1100025, 1053, 31, 1100030, 1100009, 1100027, 1100028, 1100026, 1055, 1100033, 39, 1066] g := ⟨_, md111.eq⟩
      show sv_T sm_XS sm_cs sm_L sm_sh ((if (S 1100002 p2) ≤ (S 1100002 p3) then (S 1100002 p3) else (S 1100002 p2)) + (600 - (S 1046 0)) + 9).toNat (q_give p1 p2 p3 S) 103 42 [(0, .ref 0), (1, sv_I p1), (2, sv_I p2), (3, sv_I p3), (4, sv_I (0 : Int))] [] (sv_sts (sv_sts S [26, 27, 28, 29, 1046, 1047, 1100007, 1100023, 1100024, 1100025, 1053, 31, 1100030, 1100009, 1100027, 1100028, 1100026, 1055, 1100033, 39, 1066] g99) [26, 27, 28, 29, 1046, 1047, 1100007, 1100023, 1100024, 1100025, 1053, 31, 1100030, 1100009, 1100027, 1100028, 1100026, 1055, 1100033, 39, 1066] g109)
      have md113 : sv_mod [26, 27, 28, 29, 1046, 1047, 1100007, 1100023, 1100024, 1100025, 1053, 31, 1100030, 1100009, 1100027, 1100028, 1100026, 1055, 1100033, 39, 1066] S (sv_sts (sv_sts S [26, 27, 28, 29, 1046, 1047, 1100007, 1100023, 1100024, 1100025, 1053, 31, 1100030, 1100009, 1100027, 1100028, 1100026, 1055, 1100033, 39, 1066] g99) [26, 27, 28, 29, 1046, 1047, 1100007, 1100023, 1100024, 1100025, 1053, 31, 1100030, 1100009, 1100027, 1100028, 1100026, 1055, 1100033, 39, 1066] g109) := sv_mod.sts md103 (by decide)
      have md114 : sv_mod [26, 27, 28, 29, 1046, 1047, 1100007, 1100023, 1100024, 1100025, 1053, 31, 1100030, 1100009, 1100027, 1100028, 1100026, 1055, 1100033, 39, 1066] S (sv_sts (sv_sts S [26, 27, 28, 29, 1046, 1047, 1100007, 1100023, 1100024, 1100025, 1053, 31, 1100030, 1100009, 1100027, 1100028, 1100026, 1055, 1100033, 39, 1066] g99) [26, 27, 28, 29, 1046, 1047, 1100007, 1100023, 1100024, 1100025, 1053, 31, 1100030, 1100009, 1100027, 1100028, 1100026, 1055, 1100033, 39, 1066] g109) := sv_mod.sts md104 (by decide)
      have h := h g109 hpo112
      have eS := sv_mod.eq md114
      have hb := J88 (sv_sts (sv_sts S [26, 27, 28, 29, 1046, 1047, 1100007, 1100023, 1100024, 1100025, 1053, 31, 1100030, 1100009, 1100027, 1100028, 1100026, 1055, 1100033, 39, 1066] g99) [26, 27, 28, 29, 1046, 1047, 1100007, 1100023, 1100024, 1100025, 1053, 31, 1100030, 1100009, 1100027, 1100028, 1100026, 1055, 1100033, 39, 1066] g109) (by rw [← eS]; exact ok110) h
      have hb : sv_T sm_XS sm_cs sm_L sm_sh ((if (S 1100002 p2) ≤ (S 1100002 p3) then (S 1100002 p3) else (S 1100002 p2)) + (600 - (S 1046 0)) + 9).toNat (q_give p1 p2 p3 S) 103 42 [(0, .ref 0), (1, sv_I p1), (2, sv_I p2), (3, sv_I p3), (4, sv_I (0 : Int))] [] (sv_sts (sv_sts S [26, 27, 28, 29, 1046, 1047, 1100007, 1100023, 1100024, 1100025, 1053, 31, 1100030, 1100009, 1100027, 1100028, 1100026, 1055, 1100033, 39, 1066] g99) [26, 27, 28, 29, 1046, 1047, 1100007, 1100023, 1100024, 1100025, 1053, 31, 1100030, 1100009, 1100027, 1100028, 1100026, 1055, 1100033, 39, 1066] g109) := Eq.mpr (congrArg (fun Z => sv_T sm_XS sm_cs sm_L sm_sh ((if (S 1100002 p2) ≤ (S 1100002 p3) then (S 1100002 p3) else (S 1100002 p2)) + (600 - (S 1046 0)) + 9).toNat (q_give p1 p2 p3 S) 103 42 [(0, .ref 0), (1, sv_I p1), (2, sv_I p2), (3, sv_I p3), (4, sv_I (0 : Int))] [] Z) eS) hb
      exact sv_less (lv := [(0, .ref 0), (1, sv_I p1), (2, sv_I p2), (3, sv_I p3), (4, sv_I (0 : Int))]) (sv_Sub_cons rfl (sv_Sub_cons rfl (sv_Sub_cons rfl (sv_Sub_cons rfl (sv_Sub_cons rfl sv_Sub_nil))))) hb
  · have h := h.2 (hc)
    refine sv_iconst (d := (1 : Int)) hM dX12_give_10 rfl rfl ?_
    refine sv_goto hM dX12_give_11 (pc' := 15) rfl ?_
    refine sv_istore hM dX12_give_15 (by decide) rfl ?_
    show sv_T sm_XS sm_cs sm_L sm_sh ((if (S 1100002 p2) ≤ (S 1100002 p3) then (S 1100002 p3) else (S 1100002 p2)) + (600 - (S 1046 0)) + 9).toNat (q_give p1 p2 p3 S) 103 17 [(0, .ref 0), (1, sv_I p1), (2, sv_I p2), (3, sv_I p3), (4, sv_I (1 : Int))] [] S
    have J196 : ∀ g115 : sv_S, sm_ok (sv_sts S [26, 27, 28, 29, 1046, 1047, 1100007, 1100023, 1100024, 1100025, 1053, 31, 1100030, 1100009, 1100027, 1100028, 1100026, 1055, 1100033, 39, 1066] g115) → (((1 : Int) = 0 ∨ (1 : Int) = 1) ∧ ((1 : Int) = 1 → (S 11 p2) = 2) ∧ ((1 : Int) = 0 → (S 11 p2) = 7) ∧ 0 ≤ (g115 1046 0) ∧ (g115 1046 0) ≤ 600 ∧ 0 ≤ (g115 1047 0) ∧ (g115 1047 0) ≤ 1 ∧ 0 ≤ (g115 1053 0) ∧ 0 ≤ (g115 1066 0) ∧ (S 1046 0) ≤ (g115 1046 0) ∧ ((S 1047 0) = 1 → (g115 1047 0) = 1) ∧ sm_F1 (S 26) (g115 26) (S 1046 0) ∧ sm_F1 (S 27) (g115 27) (S 1046 0) ∧ sm_F1 (S 28) (g115 28) (S 1046 0) ∧ sm_F1 (S 29) (g115 29) (S 1046 0) ∧ sm_F1 (S 1100007) (g115 1100007) ((S 1046 0) + 1) ∧ sm_F1 (S 1100023) (g115 1100023) ((S 1046 0) + 1) ∧ sm_F1 (S 1100024) (g115 1100024) ((S 1046 0) + 1) ∧ sm_F1 (S 1100025) (g115 1100025) ((S 1046 0) + 1) ∧ sm_F1 (S 1100009) (g115 1100009) (S 1053 0) ∧ sm_F1 (S 1100027) (g115 1100027) (S 1053 0) ∧ sm_F1 (S 1100028) (g115 1100028) (S 1053 0) ∧ sm_F1 (S 1100026) (g115 1100026) (S 1053 0) ∧ sm_F1 (S 1100030) (g115 1100030) (S 1053 0) ∧ sm_F1 (S 31) (g115 31) (S 1053 0) ∧ (S 1053 0) ≤ (g115 1053 0) ∧ (g115 1066 0) = (S 1066 0) ∧ sm_F1 (S 39) (g115 39) (S 1066 0) ∧ ((S 1047 0) = 1 → (g115 1053 0) = (S 1053 0)) ∧ ((S 1047 0) = 0 → (g115 1053 0) ≤ (S 1053 0) + 3 * (600 - (S 1046 0)) + (if (S 1100002 p2) ≤ (S 1100002 p3) then (S 1100002 p3) else (S 1100002 p2))) ∧ ((g115 1047 0) = 0 → (S 1047 0) = 0 ∧ sm_KC (g115 26) (g115 27) (g115 28) (g115 29) (g115 1100007) (g115 1100023) (g115 1100024) (g115 1100025) (g115 31) (g115 1100009) (g115 1100027) (g115 1100028) (g115 1100026) (g115 1100030) (S 21) (S 32) (S 33) (g115 1046 0) (g115 1053 0) (S 1056 0) (S 1032 0) (S 1007 0) (g115 1100033 0) ∧ (g115 1100033 0) = (g115 1055 0) ∧ 0 ≤ (g115 1055 0) ∧ (g115 1055 0) ≤ (g115 1046 0) ∧ (S 1046 0) + (if (1 : Int) = 1 then (0 : Int) else 2) ≤ (g115 1046 0) ∧ sm_FC (g115 29) (S 1046 0) (g115 1046 0) (S 1056 0) ∧ (g115 1100007 (g115 1046 0)) = (S 1100007 (S 1046 0)) + (if (1 : Int) = 1 then (0 : Int) else 2) ∧ (g115 1100023 (g115 1046 0)) = (S 1100023 (S 1046 0)) ∧ (g115 1100024 (g115 1046 0)) = (S 1100024 (S 1046 0)) ∧ (g115 1100025 (g115 1046 0)) = (S 1100025 (S 1046 0)) ∧ (g115 1100007 (g115 1100023 (g115 1046 0))) = (S 1100007 (S 1100023 (S 1046 0))) ∧ (g115 1100007 (g115 1100025 (g115 1046 0))) = (S 1100007 (S 1100025 (S 1046 0))) ∧ sm_AP (g115 1100030) (S 1053 0) (g115 1053 0) ∧ sm_HB (g115 1100007) (S 1046 0) (g115 1046 0) (2 * (S 1100007 (S 1046 0)) + ((g115 1046 0) - (S 1046 0)) + 8 * (if (S 1100005 p2) ≤ ((S 1100005 p3) + 1) then ((S 1100005 p3) + 1) else (S 1100005 p2)) + 12) ∧ (g115 1053 0) ≤ (S 1053 0) + 3 * ((g115 1046 0) - (S 1046 0)) ∧ True)) → sv_T sm_XS sm_cs sm_L sm_sh ((if (S 1100002 p2) ≤ (S 1100002 p3) then (S 1100002 p3) else (S 1100002 p2)) + (600 - (S 1046 0)) + 9).toNat (q_give p1 p2 p3 S) 103 42 [(0, .ref 0), (1, sv_I p1), (2, sv_I p2), (3, sv_I p3), (4, sv_I (1 : Int))] [] (sv_sts S [26, 27, 28, 29, 1046, 1047, 1100007, 1100023, 1100024, 1100025, 1053, 31, 1100030, 1100009, 1100027, 1100028, 1100026, 1055, 1100033, 39, 1066] g115) := by
      intro  g115 ok116 hin117
      have h := h.1 g115 hin117
      have md118 : sv_mod [26, 27, 28, 29, 1046, 1047, 1100007, 1100023, 1100024, 1100025, 1053, 31, 1100030, 1100009, 1100027, 1100028, 1100026, 1055, 1100033, 39, 1066] S (sv_sts S [26, 27, 28, 29, 1046, 1047, 1100007, 1100023, 1100024, 1100025, 1053, 31, 1100030, 1100009, 1100027, 1100028, 1100026, 1055, 1100033, 39, 1066] g115) := sv_mod.sts sv_mod.rf (by decide)
      have md119 : sv_mod [26, 27, 28, 29, 1046, 1047, 1100007, 1100023, 1100024, 1100025, 1053, 31, 1100030, 1100009, 1100027, 1100028, 1100026, 1055, 1100033, 39, 1066] S (sv_sts S [26, 27, 28, 29, 1046, 1047, 1100007, 1100023, 1100024, 1100025, 1053, 31, 1100030, 1100009, 1100027, 1100028, 1100026, 1055, 1100033, 39, 1066] g115) := sv_mod.sts sv_mod.rf (by decide)
      have J168 : ∀ g120 : sv_S, sm_ok (sv_sts (sv_sts S [26, 27, 28, 29, 1046, 1047, 1100007, 1100023, 1100024, 1100025, 1053, 31, 1100030, 1100009, 1100027, 1100028, 1100026, 1055, 1100033, 39, 1066] g115) [26, 27, 28, 29, 1046, 1047, 1100007, 1100023, 1100024, 1100025, 1053, 31, 1100030, 1100009, 1100027, 1100028, 1100026, 1055, 1100033, 39, 1066] g120) → (0 ≤ (g120 1046 0) ∧ (g120 1046 0) ≤ 600 ∧ 0 ≤ (g120 1047 0) ∧ (g120 1047 0) ≤ 1 ∧ 0 ≤ (g120 1053 0) ∧ 0 ≤ (g120 1066 0) ∧ (S 1046 0) ≤ (g120 1046 0) ∧ ((S 1047 0) = 1 → (g120 1047 0) = 1) ∧ sm_F1 (S 26) (g120 26) (S 1046 0) ∧ sm_F1 (S 27) (g120 27) (S 1046 0) ∧ sm_F1 (S 28) (g120 28) (S 1046 0) ∧ sm_F1 (S 29) (g120 29) (S 1046 0) ∧ sm_F1 (S 1100007) (g120 1100007) ((S 1046 0) + 1) ∧ sm_F1 (S 1100023) (g120 1100023) ((S 1046 0) + 1) ∧ sm_F1 (S 1100024) (g120 1100024) ((S 1046 0) + 1) ∧ sm_F1 (S 1100025) (g120 1100025) ((S 1046 0) + 1) ∧ sm_F1 (S 1100009) (g120 1100009) (S 1053 0) ∧ sm_F1 (S 1100027) (g120 1100027) (S 1053 0) ∧ sm_F1 (S 1100028) (g120 1100028) (S 1053 0) ∧ sm_F1 (S 1100026) (g120 1100026) (S 1053 0) ∧ sm_F1 (S 1100030) (g120 1100030) (S 1053 0) ∧ sm_F1 (S 31) (g120 31) (S 1053 0) ∧ (S 1053 0) ≤ (g120 1053 0) ∧ (g120 1066 0) = (S 1066 0) ∧ sm_F1 (S 39) (g120 39) (S 1066 0) ∧ ((S 1047 0) = 1 → (g120 1053 0) = (S 1053 0)) ∧ ((S 1047 0) = 0 → (g120 1053 0) ≤ (S 1053 0) + 3 * (600 - (S 1046 0)) + (if (S 1100002 p2) ≤ (S 1100002 p3) then (S 1100002 p3) else (S 1100002 p2))) ∧ ((g120 1047 0) = 0 → (S 1047 0) = 0 ∧ sm_KC (g120 26) (g120 27) (g120 28) (g120 29) (g120 1100007) (g120 1100023) (g120 1100024) (g120 1100025) (g120 31) (g120 1100009) (g120 1100027) (g120 1100028) (g120 1100026) (g120 1100030) (S 21) (S 32) (S 33) (g120 1046 0) (g120 1053 0) (S 1056 0) (S 1032 0) (S 1007 0) (g120 1100033 0) ∧ (g120 1100033 0) = (g120 1055 0) ∧ 0 ≤ (g120 1055 0) ∧ (g120 1055 0) ≤ (g120 1046 0) ∧ (S 1046 0) + ((if (1 : Int) = 1 then (0 : Int) else 2) + (if p1 = -1 then (0 : Int) else 1)) ≤ (g120 1046 0) ∧ sm_FC (g120 29) (S 1046 0) (g120 1046 0) (S 1056 0) ∧ (g120 1100007 (g120 1046 0)) = (S 1100007 (S 1046 0)) + ((if (1 : Int) = 1 then (0 : Int) else 2) + (if p1 = -1 then (0 : Int) else 1)) ∧ (g120 1100023 (g120 1046 0)) = (S 1100023 (S 1046 0)) ∧ (g120 1100024 (g120 1046 0)) = (S 1100024 (S 1046 0)) ∧ (g120 1100025 (g120 1046 0)) = (S 1100025 (S 1046 0)) ∧ (g120 1100007 (g120 1100023 (g120 1046 0))) = (S 1100007 (S 1100023 (S 1046 0))) ∧ (g120 1100007 (g120 1100025 (g120 1046 0))) = (S 1100007 (S 1100025 (S 1046 0))) ∧ sm_AP (g120 1100030) (S 1053 0) (g120 1053 0) ∧ sm_HB (g120 1100007) (S 1046 0) (g120 1046 0) (2 * (S 1100007 (S 1046 0)) + ((g120 1046 0) - (S 1046 0)) + 8 * (if (S 1100005 p2) ≤ ((S 1100005 p3) + 1) then ((S 1100005 p3) + 1) else (S 1100005 p2)) + 12) ∧ (g120 1053 0) ≤ (S 1053 0) + 3 * ((g120 1046 0) - (S 1046 0)) ∧ True)) → sv_T sm_XS sm_cs sm_L sm_sh ((if (S 1100002 p2) ≤ (S 1100002 p3) then (S 1100002 p3) else (S 1100002 p2)) + (600 - (S 1046 0)) + 9).toNat (q_give p1 p2 p3 S) 103 77 [(0, .ref 0), (1, sv_I p1), (2, sv_I p2), (3, sv_I p3), (4, sv_I (1 : Int))] [] (sv_sts (sv_sts S [26, 27, 28, 29, 1046, 1047, 1100007, 1100023, 1100024, 1100025, 1053, 31, 1100030, 1100009, 1100027, 1100028, 1100026, 1055, 1100033, 39, 1066] g115) [26, 27, 28, 29, 1046, 1047, 1100007, 1100023, 1100024, 1100025, 1053, 31, 1100030, 1100009, 1100027, 1100028, 1100026, 1055, 1100033, 39, 1066] g120) := by
        intro  g120 ok121 hin122
        have h := h.1 g120 hin122
        have md123 : sv_mod [26, 27, 28, 29, 1046, 1047, 1100007, 1100023, 1100024, 1100025, 1053, 31, 1100030, 1100009, 1100027, 1100028, 1100026, 1055, 1100033, 39, 1066] S (sv_sts (sv_sts S [26, 27, 28, 29, 1046, 1047, 1100007, 1100023, 1100024, 1100025, 1053, 31, 1100030, 1100009, 1100027, 1100028, 1100026, 1055, 1100033, 39, 1066] g115) [26, 27, 28, 29, 1046, 1047, 1100007, 1100023, 1100024, 1100025, 1053, 31, 1100030, 1100009, 1100027, 1100028, 1100026, 1055, 1100033, 39, 1066] g120) := sv_mod.sts md118 (by decide)
        have md124 : sv_mod [26, 27, 28, 29, 1046, 1047, 1100007, 1100023, 1100024, 1100025, 1053, 31, 1100030, 1100009, 1100027, 1100028, 1100026, 1055, 1100033, 39, 1066] (sv_sts S [26, 27, 28, 29, 1046, 1047, 1100007, 1100023, 1100024, 1100025, 1053, 31, 1100030, 1100009, 1100027, 1100028, 1100026, 1055, 1100033, 39, 1066] g115) (sv_sts (sv_sts S [26, 27, 28, 29, 1046, 1047, 1100007, 1100023, 1100024, 1100025, 1053, 31, 1100030, 1100009, 1100027, 1100028, 1100026, 1055, 1100033, 39, 1066] g115) [26, 27, 28, 29, 1046, 1047, 1100007, 1100023, 1100024, 1100025, 1053, 31, 1100030, 1100009, 1100027, 1100028, 1100026, 1055, 1100033, 39, 1066] g120) := sv_mod.sts sv_mod.rf (by decide)
        have k125 : (0 ≤ (if (1 : Int) = 1 then (0 : Int) else 2) + (if p1 = -1 then (0 : Int) else 1) ∧ (if (1 : Int) = 1 then (0 : Int) else 2) + (if p1 = -1 then (0 : Int) else 1) ≤ 3) := sm_h_gv
        have h := h k125
        have J149 : ∀ g126 : sv_S, sm_ok (sv_sts (sv_sts (sv_sts S [26, 27, 28, 29, 1046, 1047, 1100007, 1100023, 1100024, 1100025, 1053, 31, 1100030, 1100009, 1100027, 1100028, 1100026, 1055, 1100033, 39, 1066] g115) [26, 27, 28, 29, 1046, 1047, 1100007, 1100023, 1100024, 1100025, 1053, 31, 1100030, 1100009, 1100027, 1100028, 1100026, 1055, 1100033, 39, 1066] g120) [26, 27, 28, 29, 1046, 1047, 1100007, 1100023, 1100024, 1100025, 1053, 31, 1100030, 1100009, 1100027, 1100028, 1100026, 1055, 1100033, 39, 1066] g126) → (0 ≤ (g126 1046 0) ∧ (g126 1046 0) ≤ 600 ∧ 0 ≤ (g126 1047 0) ∧ (g126 1047 0) ≤ 1 ∧ 0 ≤ (g126 1053 0) ∧ 0 ≤ (g126 1066 0) ∧ (S 1046 0) ≤ (g126 1046 0) ∧ ((S 1047 0) = 1 → (g126 1047 0) = 1) ∧ sm_F1 (S 26) (g126 26) (S 1046 0) ∧ sm_F1 (S 27) (g126 27) (S 1046 0) ∧ sm_F1 (S 28) (g126 28) (S 1046 0) ∧ sm_F1 (S 29) (g126 29) (S 1046 0) ∧ sm_F1 (S 1100007) (g126 1100007) ((S 1046 0) + 1) ∧ sm_F1 (S 1100023) (g126 1100023) ((S 1046 0) + 1) ∧ sm_F1 (S 1100024) (g126 1100024) ((S 1046 0) + 1) ∧ sm_F1 (S 1100025) (g126 1100025) ((S 1046 0) + 1) ∧ sm_F1 (S 1100009) (g126 1100009) (S 1053 0) ∧ sm_F1 (S 1100027) (g126 1100027) (S 1053 0) ∧ sm_F1 (S 1100028) (g126 1100028) (S 1053 0) ∧ sm_F1 (S 1100026) (g126 1100026) (S 1053 0) ∧ sm_F1 (S 1100030) (g126 1100030) (S 1053 0) ∧ sm_F1 (S 31) (g126 31) (S 1053 0) ∧ (S 1053 0) ≤ (g126 1053 0) ∧ (g126 1066 0) = (S 1066 0) ∧ sm_F1 (S 39) (g126 39) (S 1066 0) ∧ ((S 1047 0) = 1 → (g126 1053 0) = (S 1053 0)) ∧ ((S 1047 0) = 0 → (g126 1053 0) ≤ (S 1053 0) + 3 * (600 - (S 1046 0)) + (if (S 1100002 p2) ≤ (S 1100002 p3) then (S 1100002 p3) else (S 1100002 p2))) ∧ ((g126 1047 0) = 0 → (S 1047 0) = 0 ∧ sm_KC (g126 26) (g126 27) (g126 28) (g126 29) (g126 1100007) (g126 1100023) (g126 1100024) (g126 1100025) (g126 31) (g126 1100009) (g126 1100027) (g126 1100028) (g126 1100026) (g126 1100030) (S 21) (S 32) (S 33) (g126 1046 0) (g126 1053 0) (S 1056 0) (S 1032 0) (S 1007 0) (g126 1100033 0) ∧ (g126 1100033 0) = (g126 1055 0) ∧ 0 ≤ (g126 1055 0) ∧ (g126 1055 0) ≤ (g126 1046 0) ∧ (S 1046 0) + ((if (1 : Int) = 1 then (0 : Int) else 2) + 1) ≤ (g126 1046 0) ∧ sm_FC (g126 29) (S 1046 0) (g126 1046 0) (S 1056 0) ∧ (g126 1100007 (g126 1046 0)) = (S 1100007 (S 1046 0)) + ((if (1 : Int) = 1 then (0 : Int) else 2) + 1) ∧ (g126 1100023 (g126 1046 0)) = (S 1100023 (S 1046 0)) ∧ (g126 1100024 (g126 1046 0)) = (S 1100024 (S 1046 0)) ∧ (g126 1100025 (g126 1046 0)) = (S 1100025 (S 1046 0)) ∧ (g126 1100007 (g126 1100023 (g126 1046 0))) = (S 1100007 (S 1100023 (S 1046 0))) ∧ (g126 1100007 (g126 1100025 (g126 1046 0))) = (S 1100007 (S 1100025 (S 1046 0))) ∧ sm_AP (g126 1100030) (S 1053 0) (g126 1053 0) ∧ sm_HB (g126 1100007) (S 1046 0) (g126 1046 0) (2 * (S 1100007 (S 1046 0)) + ((g126 1046 0) - (S 1046 0)) + 8 * (if (S 1100005 p2) ≤ ((S 1100005 p3) + 1) then ((S 1100005 p3) + 1) else (S 1100005 p2)) + 11) ∧ (g126 1053 0) ≤ (S 1053 0) + 3 * ((g126 1046 0) - (S 1046 0)) ∧ True)) → sv_T sm_XS sm_cs sm_L sm_sh ((if (S 1100002 p2) ≤ (S 1100002 p3) then (S 1100002 p3) else (S 1100002 p2)) + (600 - (S 1046 0)) + 9).toNat (q_give p1 p2 p3 S) 103 95 [(0, .ref 0), (1, sv_I p1), (2, sv_I p2), (3, sv_I p3), (4, sv_I (1 : Int))] [] (sv_sts (sv_sts (sv_sts S [26, 27, 28, 29, 1046, 1047, 1100007, 1100023, 1100024, 1100025, 1053, 31, 1100030, 1100009, 1100027, 1100028, 1100026, 1055, 1100033, 39, 1066] g115) [26, 27, 28, 29, 1046, 1047, 1100007, 1100023, 1100024, 1100025, 1053, 31, 1100030, 1100009, 1100027, 1100028, 1100026, 1055, 1100033, 39, 1066] g120) [26, 27, 28, 29, 1046, 1047, 1100007, 1100023, 1100024, 1100025, 1053, 31, 1100030, 1100009, 1100027, 1100028, 1100026, 1055, 1100033, 39, 1066] g126) := by
          intro  g126 ok127 hin128
          have h := h.1 g126 hin128
          have md129 : sv_mod [26, 27, 28, 29, 1046, 1047, 1100007, 1100023, 1100024, 1100025, 1053, 31, 1100030, 1100009, 1100027, 1100028, 1100026, 1055, 1100033, 39, 1066] S (sv_sts (sv_sts (sv_sts S [26, 27, 28, 29, 1046, 1047, 1100007, 1100023, 1100024, 1100025, 1053, 31, 1100030, 1100009, 1100027, 1100028, 1100026, 1055, 1100033, 39, 1066] g115) [26, 27, 28, 29, 1046, 1047, 1100007, 1100023, 1100024, 1100025, 1053, 31, 1100030, 1100009, 1100027, 1100028, 1100026, 1055, 1100033, 39, 1066] g120) [26, 27, 28, 29, 1046, 1047, 1100007, 1100023, 1100024, 1100025, 1053, 31, 1100030, 1100009, 1100027, 1100028, 1100026, 1055, 1100033, 39, 1066] g126) := sv_mod.sts md123 (by decide)
          have md130 : sv_mod [26, 27, 28, 29, 1046, 1047, 1100007, 1100023, 1100024, 1100025, 1053, 31, 1100030, 1100009, 1100027, 1100028, 1100026, 1055, 1100033, 39, 1066] (sv_sts (sv_sts S [26, 27, 28, 29, 1046, 1047, 1100007, 1100023, 1100024, 1100025, 1053, 31, 1100030, 1100009, 1100027, 1100028, 1100026, 1055, 1100033, 39, 1066] g115) [26, 27, 28, 29, 1046, 1047, 1100007, 1100023, 1100024, 1100025, 1053, 31, 1100030, 1100009, 1100027, 1100028, 1100026, 1055, 1100033, 39, 1066] g120) (sv_sts (sv_sts (sv_sts S [26, 27, 28, 29, 1046, 1047, 1100007, 1100023, 1100024, 1100025, 1053, 31, 1100030, 1100009, 1100027, 1100028, 1100026, 1055, 1100033, 39, 1066] g115) [26, 27, 28, 29, 1046, 1047, 1100007, 1100023, 1100024, 1100025, 1053, 31, 1100030, 1100009, 1100027, 1100028, 1100026, 1055, 1100033, 39, 1066] g120) [26, 27, 28, 29, 1046, 1047, 1100007, 1100023, 1100024, 1100025, 1053, 31, 1100030, 1100009, 1100027, 1100028, 1100026, 1055, 1100033, 39, 1066] g126) := sv_mod.sts sv_mod.rf (by decide)
          refine sv_iload hM dX12_give_95 rfl rfl ?_
          refine sv_cond_eq hM dX12_give_97 (⟨by decide, by decide⟩ : sv_R (1 : Int)) (t := 113) rfl rfl (fun hc => ?_) (fun hc => ?_)
          · have h := h.1 (hc)
            refine sv_aload_n hM dX12_give_113 rfl rfl ?_
            refine sv_bipush (d := (11 : Int)) hM dX12_give_114 rfl rfl ?_
            obtain ⟨o131, h⟩ := h
            obtain ⟨o132, h⟩ := h
            refine sv_callV hM dX12_give_116 sm_iv_666 (by decide) (sm_a0 _) rfl rfl (Nat.le_of_ble_eq_true rfl) sm_h83 (Nat.le_of_ble_eq_true rfl) (Nat.le_of_ble_eq_true rfl) (F' := 1) (sv_Fn (n := 1) o132) rfl (t_emit_ (11 : Int) (sv_sts (sv_sts (sv_sts S [26, 27, 28, 29, 1046, 1047, 1100007, 1100023, 1100024, 1100025, 1053, 31, 1100030, 1100009, 1100027, 1100028, 1100026, 1055, 1100033, 39, 1066] g115) [26, 27, 28, 29, 1046, 1047, 1100007, 1100023, 1100024, 1100025, 1053, 31, 1100030, 1100009, 1100027, 1100028, 1100026, 1055, 1100033, 39, 1066] g120) [26, 27, 28, 29, 1046, 1047, 1100007, 1100023, 1100024, 1100025, 1053, 31, 1100030, 1100009, 1100027, 1100028, 1100026, 1055, 1100033, 39, 1066] g126) ok127 (⟨by decide, by decide⟩ : sv_R (11 : Int)) o131) (fun v S1 hq => ?_)
            obtain ⟨rfl, ok134, md135, hpo136⟩ := hq
            obtain ⟨g133, rfl⟩ : ∃ g, S1 = sv_sts (sv_sts (sv_sts (sv_sts S [26, 27, 28, 29, 1046, 1047, 1100007, 1100023, 1100024, 1100025, 1053, 31, 1100030, 1100009, 1100027, 1100028, 1100026, 1055, 1100033, 39, 1066] g115) [26, 27, 28, 29, 1046, 1047, 1100007, 1100023, 1100024, 1100025, 1053, 31, 1100030, 1100009, 1100027, 1100028, 1100026, 1055, 1100033, 39, 1066] g120) [26, 27, 28, 29, 1046, 1047, 1100007, 1100023, 1100024, 1100025, 1053, 31, 1100030, 1100009, 1100027, 1100028, 1100026, 1055, 1100033, 39, 1066] g126) [26, 27, 28, 29, 1046, 1047, 1100007, 1100023, 1100024, 1100025] g := ⟨_, md135.eq⟩
            show sv_T sm_XS sm_cs sm_L sm_sh ((if (S 1100002 p2) ≤ (S 1100002 p3) then (S 1100002 p3) else (S 1100002 p2)) + (600 - (S 1046 0)) + 9).toNat (q_give p1 p2 p3 S) 103 119 [(0, .ref 0), (1, sv_I p1), (2, sv_I p2), (3, sv_I p3), (4, sv_I (1 : Int))] [] (sv_sts (sv_sts (sv_sts (sv_sts S [26, 27, 28, 29, 1046, 1047, 1100007, 1100023, 1100024, 1100025, 1053, 31, 1100030, 1100009, 1100027, 1100028, 1100026, 1055, 1100033, 39, 1066] g115) [26, 27, 28, 29, 1046, 1047, 1100007, 1100023, 1100024, 1100025, 1053, 31, 1100030, 1100009, 1100027, 1100028, 1100026, 1055, 1100033, 39, 1066] g120) [26, 27, 28, 29, 1046, 1047, 1100007, 1100023, 1100024, 1100025, 1053, 31, 1100030, 1100009, 1100027, 1100028, 1100026, 1055, 1100033, 39, 1066] g126) [26, 27, 28, 29, 1046, 1047, 1100007, 1100023, 1100024, 1100025] g133)
            have md137 : sv_mod [26, 27, 28, 29, 1046, 1047, 1100007, 1100023, 1100024, 1100025, 1053, 31, 1100030, 1100009, 1100027, 1100028, 1100026, 1055, 1100033, 39, 1066] S (sv_sts (sv_sts (sv_sts (sv_sts S [26, 27, 28, 29, 1046, 1047, 1100007, 1100023, 1100024, 1100025, 1053, 31, 1100030, 1100009, 1100027, 1100028, 1100026, 1055, 1100033, 39, 1066] g115) [26, 27, 28, 29, 1046, 1047, 1100007, 1100023, 1100024, 1100025, 1053, 31, 1100030, 1100009, 1100027, 1100028, 1100026, 1055, 1100033, 39, 1066] g120) [26, 27, 28, 29, 1046, 1047, 1100007, 1100023, 1100024, 1100025, 1053, 31, 1100030, 1100009, 1100027, 1100028, 1100026, 1055, 1100033, 39, 1066] g126) [26, 27, 28, 29, 1046, 1047, 1100007, 1100023, 1100024, 1100025] g133) := sv_mod.sts md129 (by decide)
            have h := h g133 hpo136
            exact sv_vret hM dX12_give_119 rfl ⟨rfl, ok134, md137, h⟩
          · have h := h.2 (hc)
            have k138 : (sm_WF (S 11) (S 12) (S 13) (S 1100001) (S 1100002) (S 1100005) (S 1100003) (S 1100004) (S 1024 0) (S 1007 0) (S 1009 0) (sm_fn (S 1032 0) (S 21) (S 1056 0)) → 0 ≤ p2 → p2 < (S 1024 0) → (S 1100001 p2) = 1 → (S 11 p2) = 2 → sm_nm (S 1007 0) (S 1009 0) ((S 12 (5 * (p2))))) := fun h a0 a1 a2 a3 => sm_g1_2 h _ a0 a1 a2 a3
            have h := h k138
            have k139 : (sm_nm (S 1007 0) (S 1009 0) ((S 12 (5 * p2))) → (S 1009 0) = 0 → 0 ≤ (S 12 (5 * p2)) ∧ (S 12 (5 * p2)) < (S 1007 0)) := fun h a => sm_h_nm h a
            have h := h k139
            refine sv_aload_n hM dX12_give_100 rfl rfl ?_
            refine sv_aload_n hM dX12_give_101 rfl rfl ?_
            refine sv_iload_n hM dX12_give_102 rfl rfl ?_
            refine sv_iconst (d := (0 : Int)) hM dX12_give_103 rfl rfl ?_
            obtain ⟨o140, h⟩ := h
            obtain ⟨o141, h⟩ := h
            refine sv_callV hM dX12_give_104 sm_iv_644 (by decide) (sm_a0 _) rfl rfl (Nat.le_of_ble_eq_true rfl) sm_h34 (Nat.le_of_ble_eq_true rfl) (Nat.le_of_ble_eq_true rfl) (F' := 0) (sv_Fn (n := 0) o141) rfl (t_part p2 (0 : Int) (sv_sts (sv_sts (sv_sts S [26, 27, 28, 29, 1046, 1047, 1100007, 1100023, 1100024, 1100025, 1053, 31, 1100030, 1100009, 1100027, 1100028, 1100026, 1055, 1100033, 39, 1066] g115) [26, 27, 28, 29, 1046, 1047, 1100007, 1100023, 1100024, 1100025, 1053, 31, 1100030, 1100009, 1100027, 1100028, 1100026, 1055, 1100033, 39, 1066] g120) [26, 27, 28, 29, 1046, 1047, 1100007, 1100023, 1100024, 1100025, 1053, 31, 1100030, 1100009, 1100027, 1100028, 1100026, 1055, 1100033, 39, 1066] g126) ok127 hp2 (⟨by decide, by decide⟩ : sv_R (0 : Int)) o140) (fun v S1 hq => ?_)
            obtain ⟨rfl, hS1⟩ := hq
            obtain rfl : (sv_sts (sv_sts (sv_sts S [26, 27, 28, 29, 1046, 1047, 1100007, 1100023, 1100024, 1100025, 1053, 31, 1100030, 1100009, 1100027, 1100028, 1100026, 1055, 1100033, 39, 1066] g115) [26, 27, 28, 29, 1046, 1047, 1100007, 1100023, 1100024, 1100025, 1053, 31, 1100030, 1100009, 1100027, 1100028, 1100026, 1055, 1100033, 39, 1066] g120) [26, 27, 28, 29, 1046, 1047, 1100007, 1100023, 1100024, 1100025, 1053, 31, 1100030, 1100009, 1100027, 1100028, 1100026, 1055, 1100033, 39, 1066] g126) = S1 := hS1.symm
            show sv_T sm_XS sm_cs sm_L sm_sh ((if (S 1100002 p2) ≤ (S 1100002 p3) then (S 1100002 p3) else (S 1100002 p2)) + (600 - (S 1046 0)) + 9).toNat (q_give p1 p2 p3 S) 103 107 [(0, .ref 0), (1, sv_I p1), (2, sv_I p2), (3, sv_I p3), (4, sv_I (1 : Int))] [sv_I ((S 12 (5 * p2 + (0 : Int)))), .ref 0] (sv_sts (sv_sts (sv_sts S [26, 27, 28, 29, 1046, 1047, 1100007, 1100023, 1100024, 1100025, 1053, 31, 1100030, 1100009, 1100027, 1100028, 1100026, 1055, 1100033, 39, 1066] g115) [26, 27, 28, 29, 1046, 1047, 1100007, 1100023, 1100024, 1100025, 1053, 31, 1100030, 1100009, 1100027, 1100028, 1100026, 1055, 1100033, 39, 1066] g120) [26, 27, 28, 29, 1046, 1047, 1100007, 1100023, 1100024, 1100025, 1053, 31, 1100030, 1100009, 1100027, 1100028, 1100026, 1055, 1100033, 39, 1066] g126)
            obtain ⟨o142, h⟩ := h
            obtain ⟨o143, h⟩ := h
            refine sv_callV hM dX12_give_107 sm_iv_704 (by decide) (sm_a0 _) rfl rfl (Nat.le_of_ble_eq_true rfl) sm_h89 (Nat.le_of_ble_eq_true rfl) (Nat.le_of_ble_eq_true rfl) (F' := 2) (sv_Fn (n := 2) o143) rfl (t_coderset ((S 12 (5 * p2 + (0 : Int)))) (sv_sts (sv_sts (sv_sts S [26, 27, 28, 29, 1046, 1047, 1100007, 1100023, 1100024, 1100025, 1053, 31, 1100030, 1100009, 1100027, 1100028, 1100026, 1055, 1100033, 39, 1066] g115) [26, 27, 28, 29, 1046, 1047, 1100007, 1100023, 1100024, 1100025, 1053, 31, 1100030, 1100009, 1100027, 1100028, 1100026, 1055, 1100033, 39, 1066] g120) [26, 27, 28, 29, 1046, 1047, 1100007, 1100023, 1100024, 1100025, 1053, 31, 1100030, 1100009, 1100027, 1100028, 1100026, 1055, 1100033, 39, 1066] g126) ok127 (sm_okI ok127 sm_r12 _) o142) (fun v S1 hq => ?_)
            obtain ⟨rfl, ok145, md146, hpo147⟩ := hq
            obtain ⟨g144, rfl⟩ : ∃ g, S1 = sv_sts (sv_sts (sv_sts (sv_sts S [26, 27, 28, 29, 1046, 1047, 1100007, 1100023, 1100024, 1100025, 1053, 31, 1100030, 1100009, 1100027, 1100028, 1100026, 1055, 1100033, 39, 1066] g115) [26, 27, 28, 29, 1046, 1047, 1100007, 1100023, 1100024, 1100025, 1053, 31, 1100030, 1100009, 1100027, 1100028, 1100026, 1055, 1100033, 39, 1066] g120) [26, 27, 28, 29, 1046, 1047, 1100007, 1100023, 1100024, 1100025, 1053, 31, 1100030, 1100009, 1100027, 1100028, 1100026, 1055, 1100033, 39, 1066] g126) [26, 27, 28, 29, 1046, 1047, 1100007, 1100023, 1100024, 1100025] g := ⟨_, md146.eq⟩
            show sv_T sm_XS sm_cs sm_L sm_sh ((if (S 1100002 p2) ≤ (S 1100002 p3) then (S 1100002 p3) else (S 1100002 p2)) + (600 - (S 1046 0)) + 9).toNat (q_give p1 p2 p3 S) 103 110 [(0, .ref 0), (1, sv_I p1), (2, sv_I p2), (3, sv_I p3), (4, sv_I (1 : Int))] [] (sv_sts (sv_sts (sv_sts (sv_sts S [26, 27, 28, 29, 1046, 1047, 1100007, 1100023, 1100024, 1100025, 1053, 31, 1100030, 1100009, 1100027, 1100028, 1100026, 1055, 1100033, 39, 1066] g115) [26, 27, 28, 29, 1046, 1047, 1100007, 1100023, 1100024, 1100025, 1053, 31, 1100030, 1100009, 1100027, 1100028, 1100026, 1055, 1100033, 39, 1066] g120) [26, 27, 28, 29, 1046, 1047, 1100007, 1100023, 1100024, 1100025, 1053, 31, 1100030, 1100009, 1100027, 1100028, 1100026, 1055, 1100033, 39, 1066] g126) [26, 27, 28, 29, 1046, 1047, 1100007, 1100023, 1100024, 1100025] g144)
            have md148 : sv_mod [26, 27, 28, 29, 1046, 1047, 1100007, 1100023, 1100024, 1100025, 1053, 31, 1100030, 1100009, 1100027, 1100028, 1100026, 1055, 1100033, 39, 1066] S (sv_sts (sv_sts (sv_sts (sv_sts S [26, 27, 28, 29, 1046, 1047, 1100007, 1100023, 1100024, 1100025, 1053, 31, 1100030, 1100009, 1100027, 1100028, 1100026, 1055, 1100033, 39, 1066] g115) [26, 27, 28, 29, 1046, 1047, 1100007, 1100023, 1100024, 1100025, 1053, 31, 1100030, 1100009, 1100027, 1100028, 1100026, 1055, 1100033, 39, 1066] g120) [26, 27, 28, 29, 1046, 1047, 1100007, 1100023, 1100024, 1100025, 1053, 31, 1100030, 1100009, 1100027, 1100028, 1100026, 1055, 1100033, 39, 1066] g126) [26, 27, 28, 29, 1046, 1047, 1100007, 1100023, 1100024, 1100025] g144) := sv_mod.sts md129 (by decide)
            have h := h g144 hpo147
            refine sv_goto hM dX12_give_110 (pc' := 119) rfl ?_
            exact sv_vret hM dX12_give_119 rfl ⟨rfl, ok145, md148, h⟩
        have h := h.2
        have k150 : (0 ≤ (if (1 : Int) = 1 then (0 : Int) else 2) + (if p1 = -1 then (0 : Int) else 1) ∧ (if (1 : Int) = 1 then (0 : Int) else 2) + (if p1 = -1 then (0 : Int) else 1) ≤ 3) := sm_h_gv
        have h := h k150
        refine sv_aload_n hM dX12_give_77 rfl rfl ?_
        refine sv_iload_n hM dX12_give_78 rfl rfl ?_
        obtain ⟨o151, h⟩ := h
        obtain ⟨o152, h⟩ := h
        obtain ⟨o153, h⟩ := h
        refine sv_callV hM dX12_give_79 sm_iv_668 (by decide) (sm_a0 _) rfl rfl (Nat.le_of_ble_eq_true rfl) sm_h96 (Nat.le_of_ble_eq_true rfl) (Nat.le_of_ble_eq_true rfl) (F' := (((if (g120 1047 0) = 0 then (S 1100002 p3) + (600 - (g120 1046 0)) + 8 else 4))).toNat) (sv_Fe o153) rfl ((IH ((if (g120 1047 0) = 0 then (S 1100002 p3) + (600 - (g120 1046 0)) + 8 else 4)) o152.1 o152.2).1 p3 (sv_sts (sv_sts S [26, 27, 28, 29, 1046, 1047, 1100007, 1100023, 1100024, 1100025, 1053, 31, 1100030, 1100009, 1100027, 1100028, 1100026, 1055, 1100033, 39, 1066] g115) [26, 27, 28, 29, 1046, 1047, 1100007, 1100023, 1100024, 1100025, 1053, 31, 1100030, 1100009, 1100027, 1100028, 1100026, 1055, 1100033, 39, 1066] g120) ok121 hp3 o151 rfl) (fun v S1 hq => ?_)
        obtain ⟨rfl, ok155, md156, hpo157⟩ := hq
        obtain ⟨g154, rfl⟩ : ∃ g, S1 = sv_sts (sv_sts (sv_sts S [26, 27, 28, 29, 1046, 1047, 1100007, 1100023, 1100024, 1100025, 1053, 31, 1100030, 1100009, 1100027, 1100028, 1100026, 1055, 1100033, 39, 1066] g115) [26, 27, 28, 29, 1046, 1047, 1100007, 1100023, 1100024, 1100025, 1053, 31, 1100030, 1100009, 1100027, 1100028, 1100026, 1055, 1100033, 39, 1066] g120) [26, 27, 28, 29, 1046, 1047, 1100007, 1100023, 1100024, 1100025, 1053, 31, 1100030, 1100009, 1100027, 1100028, 1100026, 1055, 1100033, 39, 1066] g := ⟨_, md156.eq⟩
        show sv_T sm_XS sm_cs sm_L sm_sh ((if (S 1100002 p2) ≤ (S 1100002 p3) then (S 1100002 p3) else (S 1100002 p2)) + (600 - (S 1046 0)) + 9).toNat (q_give p1 p2 p3 S) 103 82 [(0, .ref 0), (1, sv_I p1), (2, sv_I p2), (3, sv_I p3), (4, sv_I (1 : Int))] [] (sv_sts (sv_sts (sv_sts S [26, 27, 28, 29, 1046, 1047, 1100007, 1100023, 1100024, 1100025, 1053, 31, 1100030, 1100009, 1100027, 1100028, 1100026, 1055, 1100033, 39, 1066] g115) [26, 27, 28, 29, 1046, 1047, 1100007, 1100023, 1100024, 1100025, 1053, 31, 1100030, 1100009, 1100027, 1100028, 1100026, 1055, 1100033, 39, 1066] g120) [26, 27, 28, 29, 1046, 1047, 1100007, 1100023, 1100024, 1100025, 1053, 31, 1100030, 1100009, 1100027, 1100028, 1100026, 1055, 1100033, 39, 1066] g154)
        have md158 : sv_mod [26, 27, 28, 29, 1046, 1047, 1100007, 1100023, 1100024, 1100025, 1053, 31, 1100030, 1100009, 1100027, 1100028, 1100026, 1055, 1100033, 39, 1066] S (sv_sts (sv_sts (sv_sts S [26, 27, 28, 29, 1046, 1047, 1100007, 1100023, 1100024, 1100025, 1053, 31, 1100030, 1100009, 1100027, 1100028, 1100026, 1055, 1100033, 39, 1066] g115) [26, 27, 28, 29, 1046, 1047, 1100007, 1100023, 1100024, 1100025, 1053, 31, 1100030, 1100009, 1100027, 1100028, 1100026, 1055, 1100033, 39, 1066] g120) [26, 27, 28, 29, 1046, 1047, 1100007, 1100023, 1100024, 1100025, 1053, 31, 1100030, 1100009, 1100027, 1100028, 1100026, 1055, 1100033, 39, 1066] g154) := sv_mod.sts md123 (by decide)
        have md159 : sv_mod [26, 27, 28, 29, 1046, 1047, 1100007, 1100023, 1100024, 1100025, 1053, 31, 1100030, 1100009, 1100027, 1100028, 1100026, 1055, 1100033, 39, 1066] (sv_sts (sv_sts S [26, 27, 28, 29, 1046, 1047, 1100007, 1100023, 1100024, 1100025, 1053, 31, 1100030, 1100009, 1100027, 1100028, 1100026, 1055, 1100033, 39, 1066] g115) [26, 27, 28, 29, 1046, 1047, 1100007, 1100023, 1100024, 1100025, 1053, 31, 1100030, 1100009, 1100027, 1100028, 1100026, 1055, 1100033, 39, 1066] g120) (sv_sts (sv_sts (sv_sts S [26, 27, 28, 29, 1046, 1047, 1100007, 1100023, 1100024, 1100025, 1053, 31, 1100030, 1100009, 1100027, 1100028, 1100026, 1055, 1100033, 39, 1066] g115) [26, 27, 28, 29, 1046, 1047, 1100007, 1100023, 1100024, 1100025, 1053, 31, 1100030, 1100009, 1100027, 1100028, 1100026, 1055, 1100033, 39, 1066] g120) [26, 27, 28, 29, 1046, 1047, 1100007, 1100023, 1100024, 1100025, 1053, 31, 1100030, 1100009, 1100027, 1100028, 1100026, 1055, 1100033, 39, 1066] g154) := sv_mod.sts (sv_mod.rf (l := [26, 27, 28, 29, 1046, 1047, 1100007, 1100023, 1100024, 1100025, 1053, 31, 1100030, 1100009, 1100027, 1100028, 1100026, 1055, 1100033, 39, 1066]) (S := (sv_sts (sv_sts S [26, 27, 28, 29, 1046, 1047, 1100007, 1100023, 1100024, 1100025, 1053, 31, 1100030, 1100009, 1100027, 1100028, 1100026, 1055, 1100033, 39, 1066] g115) [26, 27, 28, 29, 1046, 1047, 1100007, 1100023, 1100024, 1100025, 1053, 31, 1100030, 1100009, 1100027, 1100028, 1100026, 1055, 1100033, 39, 1066] g120))) (by decide)
        have h := h g154 hpo157
        refine sv_iload_n hM dX12_give_82 rfl rfl ?_
        refine sv_iconst (d := (-1 : Int)) hM dX12_give_83 rfl rfl ?_
        refine sv_icmp_eq hM dX12_give_84 hp1 (⟨by decide, by decide⟩ : sv_R (-1 : Int)) (t := 95) rfl rfl (fun hc => ?_) (fun hc => ?_)
        · have h := h.1 (hc)
          have eS := sv_mod.eq md159
          have hb := J149 (sv_sts (sv_sts (sv_sts S [26, 27, 28, 29, 1046, 1047, 1100007, 1100023, 1100024, 1100025, 1053, 31, 1100030, 1100009, 1100027, 1100028, 1100026, 1055, 1100033, 39, 1066] g115) [26, 27, 28, 29, 1046, 1047, 1100007, 1100023, 1100024, 1100025, 1053, 31, 1100030, 1100009, 1100027, 1100028, 1100026, 1055, 1100033, 39, 1066] g120) [26, 27, 28, 29, 1046, 1047, 1100007, 1100023, 1100024, 1100025, 1053, 31, 1100030, 1100009, 1100027, 1100028, 1100026, 1055, 1100033, 39, 1066] g154) (by rw [← eS]; exact ok155) h
          have hb : sv_T sm_XS sm_cs sm_L sm_sh ((if (S 1100002 p2) ≤ (S 1100002 p3) then (S 1100002 p3) else (S 1100002 p2)) + (600 - (S 1046 0)) + 9).toNat (q_give p1 p2 p3 S) 103 95 [(0, .ref 0), (1, sv_I p1), (2, sv_I p2), (3, sv_I p3), (4, sv_I (1 : Int))] [] (sv_sts (sv_sts (sv_sts S [26, 27, 28, 29, 1046, 1047, 1100007, 1100023, 1100024, 1100025, 1053, 31, 1100030, 1100009, 1100027, 1100028, 1100026, 1055, 1100033, 39, 1066] g115) [26, 27, 28, 29, 1046, 1047, 1100007, 1100023, 1100024, 1100025, 1053, 31, 1100030, 1100009, 1100027, 1100028, 1100026, 1055, 1100033, 39, 1066] g120) [26, 27, 28, 29, 1046, 1047, 1100007, 1100023, 1100024, 1100025, 1053, 31, 1100030, 1100009, 1100027, 1100028, 1100026, 1055, 1100033, 39, 1066] g154) := Eq.mpr (congrArg (fun Z => sv_T sm_XS sm_cs sm_L sm_sh ((if (S 1100002 p2) ≤ (S 1100002 p3) then (S 1100002 p3) else (S 1100002 p2)) + (600 - (S 1046 0)) + 9).toNat (q_give p1 p2 p3 S) 103 95 [(0, .ref 0), (1, sv_I p1), (2, sv_I p2), (3, sv_I p3), (4, sv_I (1 : Int))] [] Z) eS) hb
          exact sv_less (lv := [(0, .ref 0), (1, sv_I p1), (2, sv_I p2), (3, sv_I p3), (4, sv_I (1 : Int))]) (sv_Sub_cons rfl (sv_Sub_cons rfl (sv_Sub_cons rfl (sv_Sub_cons rfl (sv_Sub_cons rfl sv_Sub_nil))))) hb
        · have h := h.2 (hc)
          refine sv_aload_n hM dX12_give_87 rfl rfl ?_
          refine sv_bipush (d := (14 : Int)) hM dX12_give_88 rfl rfl ?_
          refine sv_iload_n hM dX12_give_90 rfl rfl ?_
          refine sv_iconst (d := (0 : Int)) hM dX12_give_91 rfl rfl ?_
          obtain ⟨o160, h⟩ := h
          obtain ⟨o161, h⟩ := h
          refine sv_callV hM dX12_give_92 sm_iv_615 (by decide) (sm_a0 _) rfl rfl (Nat.le_of_ble_eq_true rfl) sm_h82 (Nat.le_of_ble_eq_true rfl) (Nat.le_of_ble_eq_true rfl) (F' := 0) (sv_Fn (n := 0) o161) rfl (t_emit (14 : Int) p1 (0 : Int) (sv_sts (sv_sts (sv_sts S [26, 27, 28, 29, 1046, 1047, 1100007, 1100023, 1100024, 1100025, 1053, 31, 1100030, 1100009, 1100027, 1100028, 1100026, 1055, 1100033, 39, 1066] g115) [26, 27, 28, 29, 1046, 1047, 1100007, 1100023, 1100024, 1100025, 1053, 31, 1100030, 1100009, 1100027, 1100028, 1100026, 1055, 1100033, 39, 1066] g120) [26, 27, 28, 29, 1046, 1047, 1100007, 1100023, 1100024, 1100025, 1053, 31, 1100030, 1100009, 1100027, 1100028, 1100026, 1055, 1100033, 39, 1066] g154) ok155 (⟨by decide, by decide⟩ : sv_R (14 : Int)) hp1 (⟨by decide, by decide⟩ : sv_R (0 : Int)) o160) (fun v S1 hq => ?_)
          obtain ⟨rfl, ok163, md164, hpo165⟩ := hq
          obtain ⟨g162, rfl⟩ : ∃ g, S1 = sv_sts (sv_sts (sv_sts (sv_sts S [26, 27, 28, 29, 1046, 1047, 1100007, 1100023, 1100024, 1100025, 1053, 31, 1100030, 1100009, 1100027, 1100028, 1100026, 1055, 1100033, 39, 1066] g115) [26, 27, 28, 29, 1046, 1047, 1100007, 1100023, 1100024, 1100025, 1053, 31, 1100030, 1100009, 1100027, 1100028, 1100026, 1055, 1100033, 39, 1066] g120) [26, 27, 28, 29, 1046, 1047, 1100007, 1100023, 1100024, 1100025, 1053, 31, 1100030, 1100009, 1100027, 1100028, 1100026, 1055, 1100033, 39, 1066] g154) [26, 27, 28, 29, 1046, 1047, 1100007, 1100023, 1100024, 1100025] g := ⟨_, md164.eq⟩
          show sv_T sm_XS sm_cs sm_L sm_sh ((if (S 1100002 p2) ≤ (S 1100002 p3) then (S 1100002 p3) else (S 1100002 p2)) + (600 - (S 1046 0)) + 9).toNat (q_give p1 p2 p3 S) 103 95 [(0, .ref 0), (1, sv_I p1), (2, sv_I p2), (3, sv_I p3), (4, sv_I (1 : Int))] [] (sv_sts (sv_sts (sv_sts (sv_sts S [26, 27, 28, 29, 1046, 1047, 1100007, 1100023, 1100024, 1100025, 1053, 31, 1100030, 1100009, 1100027, 1100028, 1100026, 1055, 1100033, 39, 1066] g115) [26, 27, 28, 29, 1046, 1047, 1100007, 1100023, 1100024, 1100025, 1053, 31, 1100030, 1100009, 1100027, 1100028, 1100026, 1055, 1100033, 39, 1066] g120) [26, 27, 28, 29, 1046, 1047, 1100007, 1100023, 1100024, 1100025, 1053, 31, 1100030, 1100009, 1100027, 1100028, 1100026, 1055, 1100033, 39, 1066] g154) [26, 27, 28, 29, 1046, 1047, 1100007, 1100023, 1100024, 1100025] g162)
          have md166 : sv_mod [26, 27, 28, 29, 1046, 1047, 1100007, 1100023, 1100024, 1100025, 1053, 31, 1100030, 1100009, 1100027, 1100028, 1100026, 1055, 1100033, 39, 1066] S (sv_sts (sv_sts (sv_sts (sv_sts S [26, 27, 28, 29, 1046, 1047, 1100007, 1100023, 1100024, 1100025, 1053, 31, 1100030, 1100009, 1100027, 1100028, 1100026, 1055, 1100033, 39, 1066] g115) [26, 27, 28, 29, 1046, 1047, 1100007, 1100023, 1100024, 1100025, 1053, 31, 1100030, 1100009, 1100027, 1100028, 1100026, 1055, 1100033, 39, 1066] g120) [26, 27, 28, 29, 1046, 1047, 1100007, 1100023, 1100024, 1100025, 1053, 31, 1100030, 1100009, 1100027, 1100028, 1100026, 1055, 1100033, 39, 1066] g154) [26, 27, 28, 29, 1046, 1047, 1100007, 1100023, 1100024, 1100025] g162) := sv_mod.sts md158 (by decide)
          have md167 : sv_mod [26, 27, 28, 29, 1046, 1047, 1100007, 1100023, 1100024, 1100025, 1053, 31, 1100030, 1100009, 1100027, 1100028, 1100026, 1055, 1100033, 39, 1066] (sv_sts (sv_sts S [26, 27, 28, 29, 1046, 1047, 1100007, 1100023, 1100024, 1100025, 1053, 31, 1100030, 1100009, 1100027, 1100028, 1100026, 1055, 1100033, 39, 1066] g115) [26, 27, 28, 29, 1046, 1047, 1100007, 1100023, 1100024, 1100025, 1053, 31, 1100030, 1100009, 1100027, 1100028, 1100026, 1055, 1100033, 39, 1066] g120) (sv_sts (sv_sts (sv_sts (sv_sts S [26, 27, 28, 29, 1046, 1047, 1100007, 1100023, 1100024, 1100025, 1053, 31, 1100030, 1100009, 1100027, 1100028, 1100026, 1055, 1100033, 39, 1066] g115) [26, 27, 28, 29, 1046, 1047, 1100007, 1100023, 1100024, 1100025, 1053, 31, 1100030, 1100009, 1100027, 1100028, 1100026, 1055, 1100033, 39, 1066] g120) [26, 27, 28, 29, 1046, 1047, 1100007, 1100023, 1100024, 1100025, 1053, 31, 1100030, 1100009, 1100027, 1100028, 1100026, 1055, 1100033, 39, 1066] g154) [26, 27, 28, 29, 1046, 1047, 1100007, 1100023, 1100024, 1100025] g162) := sv_mod.sts md159 (by decide)
          have h := h g162 hpo165
          have eS := sv_mod.eq md167
          have hb := J149 (sv_sts (sv_sts (sv_sts (sv_sts S [26, 27, 28, 29, 1046, 1047, 1100007, 1100023, 1100024, 1100025, 1053, 31, 1100030, 1100009, 1100027, 1100028, 1100026, 1055, 1100033, 39, 1066] g115) [26, 27, 28, 29, 1046, 1047, 1100007, 1100023, 1100024, 1100025, 1053, 31, 1100030, 1100009, 1100027, 1100028, 1100026, 1055, 1100033, 39, 1066] g120) [26, 27, 28, 29, 1046, 1047, 1100007, 1100023, 1100024, 1100025, 1053, 31, 1100030, 1100009, 1100027, 1100028, 1100026, 1055, 1100033, 39, 1066] g154) [26, 27, 28, 29, 1046, 1047, 1100007, 1100023, 1100024, 1100025] g162) (by rw [← eS]; exact ok163) h
          have hb : sv_T sm_XS sm_cs sm_L sm_sh ((if (S 1100002 p2) ≤ (S 1100002 p3) then (S 1100002 p3) else (S 1100002 p2)) + (600 - (S 1046 0)) + 9).toNat (q_give p1 p2 p3 S) 103 95 [(0, .ref 0), (1, sv_I p1), (2, sv_I p2), (3, sv_I p3), (4, sv_I (1 : Int))] [] (sv_sts (sv_sts (sv_sts (sv_sts S [26, 27, 28, 29, 1046, 1047, 1100007, 1100023, 1100024, 1100025, 1053, 31, 1100030, 1100009, 1100027, 1100028, 1100026, 1055, 1100033, 39, 1066] g115) [26, 27, 28, 29, 1046, 1047, 1100007, 1100023, 1100024, 1100025, 1053, 31, 1100030, 1100009, 1100027, 1100028, 1100026, 1055, 1100033, 39, 1066] g120) [26, 27, 28, 29, 1046, 1047, 1100007, 1100023, 1100024, 1100025, 1053, 31, 1100030, 1100009, 1100027, 1100028, 1100026, 1055, 1100033, 39, 1066] g154) [26, 27, 28, 29, 1046, 1047, 1100007, 1100023, 1100024, 1100025] g162) := Eq.mpr (congrArg (fun Z => sv_T sm_XS sm_cs sm_L sm_sh ((if (S 1100002 p2) ≤ (S 1100002 p3) then (S 1100002 p3) else (S 1100002 p2)) + (600 - (S 1046 0)) + 9).toNat (q_give p1 p2 p3 S) 103 95 [(0, .ref 0), (1, sv_I p1), (2, sv_I p2), (3, sv_I p3), (4, sv_I (1 : Int))] [] Z) eS) hb
          exact sv_less (lv := [(0, .ref 0), (1, sv_I p1), (2, sv_I p2), (3, sv_I p3), (4, sv_I (1 : Int))]) (sv_Sub_cons rfl (sv_Sub_cons rfl (sv_Sub_cons rfl (sv_Sub_cons rfl (sv_Sub_cons rfl sv_Sub_nil))))) hb
      have h := h.2
      refine sv_iload_n hM dX12_give_42 rfl rfl ?_
      refine sv_iconst (d := (-1 : Int)) hM dX12_give_43 rfl rfl ?_
      refine sv_icmp_eq hM dX12_give_44 hp1 (⟨by decide, by decide⟩ : sv_R (-1 : Int)) (t := 77) rfl rfl (fun hc => ?_) (fun hc => ?_)
      · have h := h.1 (hc)
        have eS := sv_mod.eq (sv_mod.rf (l := [26, 27, 28, 29, 1046, 1047, 1100007, 1100023, 1100024, 1100025, 1053, 31, 1100030, 1100009, 1100027, 1100028, 1100026, 1055, 1100033, 39, 1066]) (S := (sv_sts S [26, 27, 28, 29, 1046, 1047, 1100007, 1100023, 1100024, 1100025, 1053, 31, 1100030, 1100009, 1100027, 1100028, 1100026, 1055, 1100033, 39, 1066] g115)))
        have hb := J168 (sv_sts S [26, 27, 28, 29, 1046, 1047, 1100007, 1100023, 1100024, 1100025, 1053, 31, 1100030, 1100009, 1100027, 1100028, 1100026, 1055, 1100033, 39, 1066] g115) (by rw [← eS]; exact ok116) h
        have hb : sv_T sm_XS sm_cs sm_L sm_sh ((if (S 1100002 p2) ≤ (S 1100002 p3) then (S 1100002 p3) else (S 1100002 p2)) + (600 - (S 1046 0)) + 9).toNat (q_give p1 p2 p3 S) 103 77 [(0, .ref 0), (1, sv_I p1), (2, sv_I p2), (3, sv_I p3), (4, sv_I (1 : Int))] [] (sv_sts S [26, 27, 28, 29, 1046, 1047, 1100007, 1100023, 1100024, 1100025, 1053, 31, 1100030, 1100009, 1100027, 1100028, 1100026, 1055, 1100033, 39, 1066] g115) := Eq.mpr (congrArg (fun Z => sv_T sm_XS sm_cs sm_L sm_sh ((if (S 1100002 p2) ≤ (S 1100002 p3) then (S 1100002 p3) else (S 1100002 p2)) + (600 - (S 1046 0)) + 9).toNat (q_give p1 p2 p3 S) 103 77 [(0, .ref 0), (1, sv_I p1), (2, sv_I p2), (3, sv_I p3), (4, sv_I (1 : Int))] [] Z) eS) hb
        exact sv_less (lv := [(0, .ref 0), (1, sv_I p1), (2, sv_I p2), (3, sv_I p3), (4, sv_I (1 : Int))]) (sv_Sub_cons rfl (sv_Sub_cons rfl (sv_Sub_cons rfl (sv_Sub_cons rfl (sv_Sub_cons rfl sv_Sub_nil))))) hb
      · have h := h.2 (hc)
        refine sv_iload hM dX12_give_47 rfl rfl ?_
        refine sv_cond_eq hM dX12_give_49 (⟨by decide, by decide⟩ : sv_R (1 : Int)) (t := 65) rfl rfl (fun hc => ?_) (fun hc => ?_)
        · have h := h.1 (hc)
          refine sv_aload_n hM dX12_give_65 rfl rfl ?_
          refine sv_bipush (d := (19 : Int)) hM dX12_give_66 rfl rfl ?_
          obtain ⟨o169, h⟩ := h
          obtain ⟨o170, h⟩ := h
          refine sv_callV hM dX12_give_68 sm_iv_666 (by decide) (sm_a0 _) rfl rfl (Nat.le_of_ble_eq_true rfl) sm_h83 (Nat.le_of_ble_eq_true rfl) (Nat.le_of_ble_eq_true rfl) (F' := 1) (sv_Fn (n := 1) o170) rfl (t_emit_ (19 : Int) (sv_sts S [26, 27, 28, 29, 1046, 1047, 1100007, 1100023, 1100024, 1100025, 1053, 31, 1100030, 1100009, 1100027, 1100028, 1100026, 1055, 1100033, 39, 1066] g115) ok116 (⟨by decide, by decide⟩ : sv_R (19 : Int)) o169) (fun v S1 hq => ?_)
          obtain ⟨rfl, ok172, md173, hpo174⟩ := hq
          obtain ⟨g171, rfl⟩ : ∃ g, S1 = sv_sts (sv_sts S [26, 27, 28, 29, 1046, 1047, 1100007, 1100023, 1100024, 1100025, 1053, 31, 1100030, 1100009, 1100027, 1100028, 1100026, 1055, 1100033, 39, 1066] g115) [26, 27, 28, 29, 1046, 1047, 1100007, 1100023, 1100024, 1100025] g := ⟨_, md173.eq⟩
          show sv_T sm_XS sm_cs sm_L sm_sh ((if (S 1100002 p2) ≤ (S 1100002 p3) then (S 1100002 p3) else (S 1100002 p2)) + (600 - (S 1046 0)) + 9).toNat (q_give p1 p2 p3 S) 103 71 [(0, .ref 0), (1, sv_I p1), (2, sv_I p2), (3, sv_I p3), (4, sv_I (1 : Int))] [] (sv_sts (sv_sts S [26, 27, 28, 29, 1046, 1047, 1100007, 1100023, 1100024, 1100025, 1053, 31, 1100030, 1100009, 1100027, 1100028, 1100026, 1055, 1100033, 39, 1066] g115) [26, 27, 28, 29, 1046, 1047, 1100007, 1100023, 1100024, 1100025] g171)
          have md175 : sv_mod [26, 27, 28, 29, 1046, 1047, 1100007, 1100023, 1100024, 1100025, 1053, 31, 1100030, 1100009, 1100027, 1100028, 1100026, 1055, 1100033, 39, 1066] S (sv_sts (sv_sts S [26, 27, 28, 29, 1046, 1047, 1100007, 1100023, 1100024, 1100025, 1053, 31, 1100030, 1100009, 1100027, 1100028, 1100026, 1055, 1100033, 39, 1066] g115) [26, 27, 28, 29, 1046, 1047, 1100007, 1100023, 1100024, 1100025] g171) := sv_mod.sts md118 (by decide)
          have md176 : sv_mod [26, 27, 28, 29, 1046, 1047, 1100007, 1100023, 1100024, 1100025, 1053, 31, 1100030, 1100009, 1100027, 1100028, 1100026, 1055, 1100033, 39, 1066] (sv_sts S [26, 27, 28, 29, 1046, 1047, 1100007, 1100023, 1100024, 1100025, 1053, 31, 1100030, 1100009, 1100027, 1100028, 1100026, 1055, 1100033, 39, 1066] g115) (sv_sts (sv_sts S [26, 27, 28, 29, 1046, 1047, 1100007, 1100023, 1100024, 1100025, 1053, 31, 1100030, 1100009, 1100027, 1100028, 1100026, 1055, 1100033, 39, 1066] g115) [26, 27, 28, 29, 1046, 1047, 1100007, 1100023, 1100024, 1100025] g171) := sv_mod.sts (sv_mod.rf (l := [26, 27, 28, 29, 1046, 1047, 1100007, 1100023, 1100024, 1100025, 1053, 31, 1100030, 1100009, 1100027, 1100028, 1100026, 1055, 1100033, 39, 1066]) (S := (sv_sts S [26, 27, 28, 29, 1046, 1047, 1100007, 1100023, 1100024, 1100025, 1053, 31, 1100030, 1100009, 1100027, 1100028, 1100026, 1055, 1100033, 39, 1066] g115))) (by decide)
          have h := h g171 hpo174
          refine sv_aload_n hM dX12_give_71 rfl rfl ?_
          refine sv_bipush (d := (10 : Int)) hM dX12_give_72 rfl rfl ?_
          obtain ⟨o177, h⟩ := h
          refine sv_callV hM dX12_give_74 sm_iv_666 (by decide) (sm_a0 _) rfl rfl (Nat.le_of_ble_eq_true rfl) sm_h83 (Nat.le_of_ble_eq_true rfl) (Nat.le_of_ble_eq_true rfl) (F' := 1) (sv_Fn (n := 1) o170) rfl (t_emit_ (10 : Int) (sv_sts (sv_sts S [26, 27, 28, 29, 1046, 1047, 1100007, 1100023, 1100024, 1100025, 1053, 31, 1100030, 1100009, 1100027, 1100028, 1100026, 1055, 1100033, 39, 1066] g115) [26, 27, 28, 29, 1046, 1047, 1100007, 1100023, 1100024, 1100025] g171) ok172 (⟨by decide, by decide⟩ : sv_R (10 : Int)) o177) (fun v S1 hq => ?_)
          obtain ⟨rfl, ok179, md180, hpo181⟩ := hq
          obtain ⟨g178, rfl⟩ : ∃ g, S1 = sv_sts (sv_sts (sv_sts S [26, 27, 28, 29, 1046, 1047, 1100007, 1100023, 1100024, 1100025, 1053, 31, 1100030, 1100009, 1100027, 1100028, 1100026, 1055, 1100033, 39, 1066] g115) [26, 27, 28, 29, 1046, 1047, 1100007, 1100023, 1100024, 1100025] g171) [26, 27, 28, 29, 1046, 1047, 1100007, 1100023, 1100024, 1100025] g := ⟨_, md180.eq⟩
          show sv_T sm_XS sm_cs sm_L sm_sh ((if (S 1100002 p2) ≤ (S 1100002 p3) then (S 1100002 p3) else (S 1100002 p2)) + (600 - (S 1046 0)) + 9).toNat (q_give p1 p2 p3 S) 103 77 [(0, .ref 0), (1, sv_I p1), (2, sv_I p2), (3, sv_I p3), (4, sv_I (1 : Int))] [] (sv_sts (sv_sts (sv_sts S [26, 27, 28, 29, 1046, 1047, 1100007, 1100023, 1100024, 1100025, 1053, 31, 1100030, 1100009, 1100027, 1100028, 1100026, 1055, 1100033, 39, 1066] g115) [26, 27, 28, 29, 1046, 1047, 1100007, 1100023, 1100024, 1100025] g171) [26, 27, 28, 29, 1046, 1047, 1100007, 1100023, 1100024, 1100025] g178)
          have md182 : sv_mod [26, 27, 28, 29, 1046, 1047, 1100007, 1100023, 1100024, 1100025, 1053, 31, 1100030, 1100009, 1100027, 1100028, 1100026, 1055, 1100033, 39, 1066] S (sv_sts (sv_sts (sv_sts S [26, 27, 28, 29, 1046, 1047, 1100007, 1100023, 1100024, 1100025, 1053, 31, 1100030, 1100009, 1100027, 1100028, 1100026, 1055, 1100033, 39, 1066] g115) [26, 27, 28, 29, 1046, 1047, 1100007, 1100023, 1100024, 1100025] g171) [26, 27, 28, 29, 1046, 1047, 1100007, 1100023, 1100024, 1100025] g178) := sv_mod.sts md175 (by decide)
          have md183 : sv_mod [26, 27, 28, 29, 1046, 1047, 1100007, 1100023, 1100024, 1100025, 1053, 31, 1100030, 1100009, 1100027, 1100028, 1100026, 1055, 1100033, 39, 1066] (sv_sts S [26, 27, 28, 29, 1046, 1047, 1100007, 1100023, 1100024, 1100025, 1053, 31, 1100030, 1100009, 1100027, 1100028, 1100026, 1055, 1100033, 39, 1066] g115) (sv_sts (sv_sts (sv_sts S [26, 27, 28, 29, 1046, 1047, 1100007, 1100023, 1100024, 1100025, 1053, 31, 1100030, 1100009, 1100027, 1100028, 1100026, 1055, 1100033, 39, 1066] g115) [26, 27, 28, 29, 1046, 1047, 1100007, 1100023, 1100024, 1100025] g171) [26, 27, 28, 29, 1046, 1047, 1100007, 1100023, 1100024, 1100025] g178) := sv_mod.sts md176 (by decide)
          have h := h g178 hpo181
          have eS := sv_mod.eq md183
          have hb := J168 (sv_sts (sv_sts (sv_sts S [26, 27, 28, 29, 1046, 1047, 1100007, 1100023, 1100024, 1100025, 1053, 31, 1100030, 1100009, 1100027, 1100028, 1100026, 1055, 1100033, 39, 1066] g115) [26, 27, 28, 29, 1046, 1047, 1100007, 1100023, 1100024, 1100025] g171) [26, 27, 28, 29, 1046, 1047, 1100007, 1100023, 1100024, 1100025] g178) (by rw [← eS]; exact ok179) h
          have hb : sv_T sm_XS sm_cs sm_L sm_sh ((if (S 1100002 p2) ≤ (S 1100002 p3) then (S 1100002 p3) else (S 1100002 p2)) + (600 - (S 1046 0)) + 9).toNat (q_give p1 p2 p3 S) 103 77 [(0, .ref 0), (1, sv_I p1), (2, sv_I p2), (3, sv_I p3), (4, sv_I (1 : Int))] [] (sv_sts (sv_sts (sv_sts S [26, 27, 28, 29, 1046, 1047, 1100007, 1100023, 1100024, 1100025, 1053, 31, 1100030, 1100009, 1100027, 1100028, 1100026, 1055, 1100033, 39, 1066] g115) [26, 27, 28, 29, 1046, 1047, 1100007, 1100023, 1100024, 1100025] g171) [26, 27, 28, 29, 1046, 1047, 1100007, 1100023, 1100024, 1100025] g178) := Eq.mpr (congrArg (fun Z => sv_T sm_XS sm_cs sm_L sm_sh ((if (S 1100002 p2) ≤ (S 1100002 p3) then (S 1100002 p3) else (S 1100002 p2)) + (600 - (S 1046 0)) + 9).toNat (q_give p1 p2 p3 S) 103 77 [(0, .ref 0), (1, sv_I p1), (2, sv_I p2), (3, sv_I p3), (4, sv_I (1 : Int))] [] Z) eS) hb
          exact sv_less (lv := [(0, .ref 0), (1, sv_I p1), (2, sv_I p2), (3, sv_I p3), (4, sv_I (1 : Int))]) (sv_Sub_cons rfl (sv_Sub_cons rfl (sv_Sub_cons rfl (sv_Sub_cons rfl (sv_Sub_cons rfl sv_Sub_nil))))) hb
        · have h := h.2 (hc)
          have k184 : (sm_WF (S 11) (S 12) (S 13) (S 1100001) (S 1100002) (S 1100005) (S 1100003) (S 1100004) (S 1024 0) (S 1007 0) (S 1009 0) (sm_fn (S 1032 0) (S 21) (S 1056 0)) → 0 ≤ p2 → p2 < (S 1024 0) → (S 1100001 p2) = 1 → (S 11 p2) = 2 → sm_nm (S 1007 0) (S 1009 0) ((S 12 (5 * (p2))))) := fun h a0 a1 a2 a3 => sm_g1_2 h _ a0 a1 a2 a3
          have h := h k184
          have k185 : (sm_nm (S 1007 0) (S 1009 0) ((S 12 (5 * p2))) → (S 1009 0) = 0 → 0 ≤ (S 12 (5 * p2)) ∧ (S 12 (5 * p2)) < (S 1007 0)) := fun h a => sm_h_nm h a
          have h := h k185
          refine sv_aload_n hM dX12_give_52 rfl rfl ?_
          refine sv_aload_n hM dX12_give_53 rfl rfl ?_
          refine sv_iload_n hM dX12_give_54 rfl rfl ?_
          refine sv_iconst (d := (0 : Int)) hM dX12_give_55 rfl rfl ?_
          obtain ⟨o186, h⟩ := h
          obtain ⟨o187, h⟩ := h
          refine sv_callV hM dX12_give_56 sm_iv_644 (by decide) (sm_a0 _) rfl rfl (Nat.le_of_ble_eq_true rfl) sm_h34 (Nat.le_of_ble_eq_true rfl) (Nat.le_of_ble_eq_true rfl) (F' := 0) (sv_Fn (n := 0) o187) rfl (t_part p2 (0 : Int) (sv_sts S [26, 27, 28, 29, 1046, 1047, 1100007, 1100023, 1100024, 1100025, 1053, 31, 1100030, 1100009, 1100027, 1100028, 1100026, 1055, 1100033, 39, 1066] g115) ok116 hp2 (⟨by decide, by decide⟩ : sv_R (0 : Int)) o186) (fun v S1 hq => ?_)
          obtain ⟨rfl, hS1⟩ := hq
          obtain rfl : (sv_sts S [26, 27, 28, 29, 1046, 1047, 1100007, 1100023, 1100024, 1100025, 1053, 31, 1100030, 1100009, 1100027, 1100028, 1100026, 1055, 1100033, 39, 1066] g115) = S1 := hS1.symm
          show sv_T sm_XS sm_cs sm_L sm_sh ((if (S 1100002 p2) ≤ (S 1100002 p3) then (S 1100002 p3) else (S 1100002 p2)) + (600 - (S 1046 0)) + 9).toNat (q_give p1 p2 p3 S) 103 59 [(0, .ref 0), (1, sv_I p1), (2, sv_I p2), (3, sv_I p3), (4, sv_I (1 : Int))] [sv_I ((S 12 (5 * p2 + (0 : Int)))), .ref 0] (sv_sts S [26, 27, 28, 29, 1046, 1047, 1100007, 1100023, 1100024, 1100025, 1053, 31, 1100030, 1100009, 1100027, 1100028, 1100026, 1055, 1100033, 39, 1066] g115)
          obtain ⟨o188, h⟩ := h
          obtain ⟨o189, h⟩ := h
          refine sv_callV hM dX12_give_59 sm_iv_680 (by decide) (sm_a0 _) rfl rfl (Nat.le_of_ble_eq_true rfl) sm_h88 (Nat.le_of_ble_eq_true rfl) (Nat.le_of_ble_eq_true rfl) (F' := 2) (sv_Fn (n := 2) o189) rfl (t_coderget ((S 12 (5 * p2 + (0 : Int)))) (sv_sts S [26, 27, 28, 29, 1046, 1047, 1100007, 1100023, 1100024, 1100025, 1053, 31, 1100030, 1100009, 1100027, 1100028, 1100026, 1055, 1100033, 39, 1066] g115) ok116 (sm_okI ok116 sm_r12 _) o188) (fun v S1 hq => ?_)
          obtain ⟨rfl, ok191, md192, hpo193⟩ := hq
          obtain ⟨g190, rfl⟩ : ∃ g, S1 = sv_sts (sv_sts S [26, 27, 28, 29, 1046, 1047, 1100007, 1100023, 1100024, 1100025, 1053, 31, 1100030, 1100009, 1100027, 1100028, 1100026, 1055, 1100033, 39, 1066] g115) [26, 27, 28, 29, 1046, 1047, 1100007, 1100023, 1100024, 1100025] g := ⟨_, md192.eq⟩
          show sv_T sm_XS sm_cs sm_L sm_sh ((if (S 1100002 p2) ≤ (S 1100002 p3) then (S 1100002 p3) else (S 1100002 p2)) + (600 - (S 1046 0)) + 9).toNat (q_give p1 p2 p3 S) 103 62 [(0, .ref 0), (1, sv_I p1), (2, sv_I p2), (3, sv_I p3), (4, sv_I (1 : Int))] [] (sv_sts (sv_sts S [26, 27, 28, 29, 1046, 1047, 1100007, 1100023, 1100024, 1100025, 1053, 31, 1100030, 1100009, 1100027, 1100028, 1100026, 1055, 1100033, 39, 1066] g115) [26, 27, 28, 29, 1046, 1047, 1100007, 1100023, 1100024, 1100025] g190)
          have md194 : sv_mod [26, 27, 28, 29, 1046, 1047, 1100007, 1100023, 1100024, 1100025, 1053, 31, 1100030, 1100009, 1100027, 1100028, 1100026, 1055, 1100033, 39, 1066] S (sv_sts (sv_sts S [26, 27, 28, 29, 1046, 1047, 1100007, 1100023, 1100024, 1100025, 1053, 31, 1100030, 1100009, 1100027, 1100028, 1100026, 1055, 1100033, 39, 1066] g115) [26, 27, 28, 29, 1046, 1047, 1100007, 1100023, 1100024, 1100025] g190) := sv_mod.sts md118 (by decide)
          have md195 : sv_mod [26, 27, 28, 29, 1046, 1047, 1100007, 1100023, 1100024, 1100025, 1053, 31, 1100030, 1100009, 1100027, 1100028, 1100026, 1055, 1100033, 39, 1066] (sv_sts S [26, 27, 28, 29, 1046, 1047, 1100007, 1100023, 1100024, 1100025, 1053, 31, 1100030, 1100009, 1100027, 1100028, 1100026, 1055, 1100033, 39, 1066] g115) (sv_sts (sv_sts S [26, 27, 28, 29, 1046, 1047, 1100007, 1100023, 1100024, 1100025, 1053, 31, 1100030, 1100009, 1100027, 1100028, 1100026, 1055, 1100033, 39, 1066] g115) [26, 27, 28, 29, 1046, 1047, 1100007, 1100023, 1100024, 1100025] g190) := sv_mod.sts (sv_mod.rf (l := [26, 27, 28, 29, 1046, 1047, 1100007, 1100023, 1100024, 1100025, 1053, 31, 1100030, 1100009, 1100027, 1100028, 1100026, 1055, 1100033, 39, 1066]) (S := (sv_sts S [26, 27, 28, 29, 1046, 1047, 1100007, 1100023, 1100024, 1100025, 1053, 31, 1100030, 1100009, 1100027, 1100028, 1100026, 1055, 1100033, 39, 1066] g115))) (by decide)
          have h := h g190 hpo193
          refine sv_goto hM dX12_give_62 (pc' := 77) rfl ?_
          have eS := sv_mod.eq md195
          have hb := J168 (sv_sts (sv_sts S [26, 27, 28, 29, 1046, 1047, 1100007, 1100023, 1100024, 1100025, 1053, 31, 1100030, 1100009, 1100027, 1100028, 1100026, 1055, 1100033, 39, 1066] g115) [26, 27, 28, 29, 1046, 1047, 1100007, 1100023, 1100024, 1100025] g190) (by rw [← eS]; exact ok191) h
          have hb : sv_T sm_XS sm_cs sm_L sm_sh ((if (S 1100002 p2) ≤ (S 1100002 p3) then (S 1100002 p3) else (S 1100002 p2)) + (600 - (S 1046 0)) + 9).toNat (q_give p1 p2 p3 S) 103 77 [(0, .ref 0), (1, sv_I p1), (2, sv_I p2), (3, sv_I p3), (4, sv_I (1 : Int))] [] (sv_sts (sv_sts S [26, 27, 28, 29, 1046, 1047, 1100007, 1100023, 1100024, 1100025, 1053, 31, 1100030, 1100009, 1100027, 1100028, 1100026, 1055, 1100033, 39, 1066] g115) [26, 27, 28, 29, 1046, 1047, 1100007, 1100023, 1100024, 1100025] g190) := Eq.mpr (congrArg (fun Z => sv_T sm_XS sm_cs sm_L sm_sh ((if (S 1100002 p2) ≤ (S 1100002 p3) then (S 1100002 p3) else (S 1100002 p2)) + (600 - (S 1046 0)) + 9).toNat (q_give p1 p2 p3 S) 103 77 [(0, .ref 0), (1, sv_I p1), (2, sv_I p2), (3, sv_I p3), (4, sv_I (1 : Int))] [] Z) eS) hb
          exact sv_less (lv := [(0, .ref 0), (1, sv_I p1), (2, sv_I p2), (3, sv_I p3), (4, sv_I (1 : Int))]) (sv_Sub_cons rfl (sv_Sub_cons rfl (sv_Sub_cons rfl (sv_Sub_cons rfl (sv_Sub_cons rfl sv_Sub_nil))))) hb
    have h := h.2
    refine sv_iload hM dX12_give_17 rfl rfl ?_
    refine sv_cond_ne hM dX12_give_19 (⟨by decide, by decide⟩ : sv_R (1 : Int)) (t := 42) rfl rfl (fun hc => ?_) (fun hc => ?_)
    · have h := h.1 (hc)
      have eS := sv_mod.eq (sv_mod.rf (l := [26, 27, 28, 29, 1046, 1047, 1100007, 1100023, 1100024, 1100025, 1053, 31, 1100030, 1100009, 1100027, 1100028, 1100026, 1055, 1100033, 39, 1066]) (S := S))
      have hb := J196 S (by rw [← eS]; exact hok) h
      have hb : sv_T sm_XS sm_cs sm_L sm_sh ((if (S 1100002 p2) ≤ (S 1100002 p3) then (S 1100002 p3) else (S 1100002 p2)) + (600 - (S 1046 0)) + 9).toNat (q_give p1 p2 p3 S) 103 42 [(0, .ref 0), (1, sv_I p1), (2, sv_I p2), (3, sv_I p3), (4, sv_I (1 : Int))] [] S := Eq.mpr (congrArg (fun Z => sv_T sm_XS sm_cs sm_L sm_sh ((if (S 1100002 p2) ≤ (S 1100002 p3) then (S 1100002 p3) else (S 1100002 p2)) + (600 - (S 1046 0)) + 9).toNat (q_give p1 p2 p3 S) 103 42 [(0, .ref 0), (1, sv_I p1), (2, sv_I p2), (3, sv_I p3), (4, sv_I (1 : Int))] [] Z) eS) hb
      exact sv_less (lv := [(0, .ref 0), (1, sv_I p1), (2, sv_I p2), (3, sv_I p3), (4, sv_I (1 : Int))]) (sv_Sub_cons rfl (sv_Sub_cons rfl (sv_Sub_cons rfl (sv_Sub_cons rfl (sv_Sub_cons rfl sv_Sub_nil))))) hb
    · have h := h.2 (hc)
      have k197 : (sm_WF (S 11) (S 12) (S 13) (S 1100001) (S 1100002) (S 1100005) (S 1100003) (S 1100004) (S 1024 0) (S 1007 0) (S 1009 0) (sm_fn (S 1032 0) (S 21) (S 1056 0)) → 0 ≤ p2 → p2 < (S 1024 0) → (S 1100001 p2) = 1 → (S 11 p2) = 7 → sm_ex (S 1100001) (S 1100002) (S 1100005) (S 1024 0) 1 ((S 12 (5 * (p2)))) ((S 1100002 (p2))) ((S 1100005 (p2))) ∧ (S 12 (5 * (p2))) < (p2) ∧ sm_ex (S 1100001) (S 1100002) (S 1100005) (S 1024 0) 1 ((S 12 (5 * (p2) + 1))) (((S 1100002 (p2))) - 1) ((S 1100005 (p2))) ∧ (S 12 (5 * (p2) + 1)) < (p2)) := fun h a0 a1 a2 a3 => sm_g1_7 h _ a0 a1 a2 a3
      have h := h k197
      have k198 : (sm_WF (S 11) (S 12) (S 13) (S 1100001) (S 1100002) (S 1100005) (S 1100003) (S 1100004) (S 1024 0) (S 1007 0) (S 1009 0) (sm_fn (S 1032 0) (S 21) (S 1056 0)) → 0 ≤ (S 12 (5 * p2)) → (S 12 (5 * p2)) < (S 1024 0) → ((S 1100001 ((S 12 (5 * p2)))) = 1 → 0 ≤ (S 1100002 ((S 12 (5 * p2)))) ∧ ((S 11 ((S 12 (5 * p2)))) = 3 → (S 12 (5 * ((S 12 (5 * p2))) + 1)) < ((S 12 (5 * p2)))) ∧ ((S 11 ((S 12 (5 * p2)))) = 4 ∨ (S 11 ((S 12 (5 * p2)))) = 5 ∨ (S 11 ((S 12 (5 * p2)))) = 8 ∨ (S 11 ((S 12 (5 * p2)))) = 9 → 17 * (S 1100005 ((S 12 (5 * p2)))) + 2 ≤ (S 1100002 ((S 12 (5 * p2))))) ∧ 0 ≤ (S 1100005 ((S 12 (5 * p2))))) ∧ ((S 1100001 ((S 12 (5 * p2)))) = 2 → 0 ≤ (S 1100005 ((S 12 (5 * p2)))) ∧ (S 1100002 ((S 12 (5 * p2)))) ≤ 17 * (S 1100005 ((S 12 (5 * p2)))) + 5 ∧ ((S 11 ((S 12 (5 * p2)))) = 33 → 1 ≤ (S 1100005 ((S 12 (5 * p2)))))) ∧ ((S 1100001 ((S 12 (5 * p2)))) = 6 → 0 ≤ (S 1100002 ((S 12 (5 * p2)))) ∧ 1 ≤ (S 1100004 ((S 12 (5 * p2)))) ∧ ((S 12 (5 * ((S 12 (5 * p2))))) = - 1 → (S 1100004 ((S 12 (5 * p2)))) = 2)) ∧ ((S 1100001 ((S 12 (5 * p2)))) = 3 → 1 ≤ (S 1100002 ((S 12 (5 * p2)))))) := fun h a0 a1 => sm_gx h _ a0 a1
      have h := h k198
      have k199 : (sm_WF (S 11) (S 12) (S 13) (S 1100001) (S 1100002) (S 1100005) (S 1100003) (S 1100004) (S 1024 0) (S 1007 0) (S 1009 0) (sm_fn (S 1032 0) (S 21) (S 1056 0)) → 0 ≤ (S 12 (5 * p2 + 1)) → (S 12 (5 * p2 + 1)) < (S 1024 0) → ((S 1100001 ((S 12 (5 * p2 + 1)))) = 1 → 0 ≤ (S 1100002 ((S 12 (5 * p2 + 1)))) ∧ ((S 11 ((S 12 (5 * p2 + 1)))) = 3 → (S 12 (5 * ((S 12 (5 * p2 + 1))) + 1)) < ((S 12 (5 * p2 + 1)))) ∧ ((S 11 ((S 12 (5 * p2 + 1)))) = 4 ∨ (S 11 ((S 12 (5 * p2 + 1)))) = 5 ∨ (S 11 ((S 12 (5 * p2 + 1)))) = 8 ∨ (S 11 ((S 12 (5 * p2 + 1)))) = 9 → 17 * (S 1100005 ((S 12 (5 * p2 + 1)))) + 2 ≤ (S 1100002 ((S 12 (5 * p2 + 1))))) ∧ 0 ≤ (S 1100005 ((S 12 (5 * p2 + 1))))) ∧ ((S 1100001 ((S 12 (5 * p2 + 1)))) = 2 → 0 ≤ (S 1100005 ((S 12 (5 * p2 + 1)))) ∧ (S 1100002 ((S 12 (5 * p2 + 1)))) ≤ 17 * (S 1100005 ((S 12 (5 * p2 + 1)))) + 5 ∧ ((S 11 ((S 12 (5 * p2 + 1)))) = 33 → 1 ≤ (S 1100005 ((S 12 (5 * p2 + 1)))))) ∧ ((S 1100001 ((S 12 (5 * p2 + 1)))) = 6 → 0 ≤ (S 1100002 ((S 12 (5 * p2 + 1)))) ∧ 1 ≤ (S 1100004 ((S 12 (5 * p2 + 1)))) ∧ ((S 12 (5 * ((S 12 (5 * p2 + 1))))) = - 1 → (S 1100004 ((S 12 (5 * p2 + 1)))) = 2)) ∧ ((S 1100001 ((S 12 (5 * p2 + 1)))) = 3 → 1 ≤ (S 1100002 ((S 12 (5 * p2 + 1)))))) := fun h a0 a1 => sm_gx h _ a0 a1
      have h := h k199
      have k200 : ((S 1100005 (S 12 (5 * p2 + 0))) = (S 1100005 (S 12 (5 * p2)))) := by rw [Int.add_zero]
      have h := h k200
      have k201 : ((S 1100002 (S 12 (5 * p2 + 0))) = (S 1100002 (S 12 (5 * p2)))) := by rw [Int.add_zero]
      have h := h k201
      refine sv_aload_n hM dX12_give_22 rfl rfl ?_
      refine sv_aload_n hM dX12_give_23 rfl rfl ?_
      refine sv_iload_n hM dX12_give_24 rfl rfl ?_
      refine sv_iconst (d := (0 : Int)) hM dX12_give_25 rfl rfl ?_
      obtain ⟨o202, h⟩ := h
      obtain ⟨o203, h⟩ := h
      refine sv_callV hM dX12_give_26 sm_iv_644 (by decide) (sm_a0 _) rfl rfl (Nat.le_of_ble_eq_true rfl) sm_h34 (Nat.le_of_ble_eq_true rfl) (Nat.le_of_ble_eq_true rfl) (F' := 0) (sv_Fn (n := 0) o203) rfl (t_part p2 (0 : Int) S hok hp2 (⟨by decide, by decide⟩ : sv_R (0 : Int)) o202) (fun v S1 hq => ?_)
      obtain ⟨rfl, hS1⟩ := hq
      obtain rfl : S = S1 := hS1.symm
      show sv_T sm_XS sm_cs sm_L sm_sh ((if (S 1100002 p2) ≤ (S 1100002 p3) then (S 1100002 p3) else (S 1100002 p2)) + (600 - (S 1046 0)) + 9).toNat (q_give p1 p2 p3 S) 103 29 [(0, .ref 0), (1, sv_I p1), (2, sv_I p2), (3, sv_I p3), (4, sv_I (1 : Int))] [sv_I ((S 12 (5 * p2 + (0 : Int)))), .ref 0] S
      obtain ⟨o204, h⟩ := h
      obtain ⟨o205, h⟩ := h
      obtain ⟨o206, h⟩ := h
      refine sv_callV hM dX12_give_29 sm_iv_668 (by decide) (sm_a0 _) rfl rfl (Nat.le_of_ble_eq_true rfl) sm_h96 (Nat.le_of_ble_eq_true rfl) (Nat.le_of_ble_eq_true rfl) (F' := (((if (S 1047 0) = 0 then (S 1100002 ((S 12 (5 * p2 + (0 : Int))))) + (600 - (S 1046 0)) + 8 else 4))).toNat) (sv_Fe o206) rfl ((IH ((if (S 1047 0) = 0 then (S 1100002 ((S 12 (5 * p2 + (0 : Int))))) + (600 - (S 1046 0)) + 8 else 4)) o205.1 o205.2).1 ((S 12 (5 * p2 + (0 : Int)))) S hok (sm_okI hok sm_r12 _) o204 rfl) (fun v S1 hq => ?_)
      obtain ⟨rfl, ok208, md209, hpo210⟩ := hq
      obtain ⟨g207, rfl⟩ : ∃ g, S1 = sv_sts S [26, 27, 28, 29, 1046, 1047, 1100007, 1100023, 1100024, 1100025, 1053, 31, 1100030, 1100009, 1100027, 1100028, 1100026, 1055, 1100033, 39, 1066] g := ⟨_, md209.eq⟩
      show sv_T sm_XS sm_cs sm_L sm_sh ((if (S 1100002 p2) ≤ (S 1100002 p3) then (S 1100002 p3) else (S 1100002 p2)) + (600 - (S 1046 0)) + 9).toNat (q_give p1 p2 p3 S) 103 32 [(0, .ref 0), (1, sv_I p1), (2, sv_I p2), (3, sv_I p3), (4, sv_I (1 : Int))] [] (sv_sts S [26, 27, 28, 29, 1046, 1047, 1100007, 1100023, 1100024, 1100025, 1053, 31, 1100030, 1100009, 1100027, 1100028, 1100026, 1055, 1100033, 39, 1066] g207)
      have md211 : sv_mod [26, 27, 28, 29, 1046, 1047, 1100007, 1100023, 1100024, 1100025, 1053, 31, 1100030, 1100009, 1100027, 1100028, 1100026, 1055, 1100033, 39, 1066] S (sv_sts S [26, 27, 28, 29, 1046, 1047, 1100007, 1100023, 1100024, 1100025, 1053, 31, 1100030, 1100009, 1100027, 1100028, 1100026, 1055, 1100033, 39, 1066] g207) := sv_mod.sts sv_mod.rf (by decide)
      have md212 : sv_mod [26, 27, 28, 29, 1046, 1047, 1100007, 1100023, 1100024, 1100025, 1053, 31, 1100030, 1100009, 1100027, 1100028, 1100026, 1055, 1100033, 39, 1066] S (sv_sts S [26, 27, 28, 29, 1046, 1047, 1100007, 1100023, 1100024, 1100025, 1053, 31, 1100030, 1100009, 1100027, 1100028, 1100026, 1055, 1100033, 39, 1066] g207) := sv_mod.sts (sv_mod.rf (l := [26, 27, 28, 29, 1046, 1047, 1100007, 1100023, 1100024, 1100025, 1053, 31, 1100030, 1100009, 1100027, 1100028, 1100026, 1055, 1100033, 39, 1066]) (S := S)) (by decide)
      have h := h g207 hpo210
      refine sv_aload_n hM dX12_give_32 rfl rfl ?_
      refine sv_aload_n hM dX12_give_33 rfl rfl ?_
      refine sv_iload_n hM dX12_give_34 rfl rfl ?_
      refine sv_iconst (d := (1 : Int)) hM dX12_give_35 rfl rfl ?_
      obtain ⟨o213, h⟩ := h
      refine sv_callV hM dX12_give_36 sm_iv_644 (by decide) (sm_a0 _) rfl rfl (Nat.le_of_ble_eq_true rfl) sm_h34 (Nat.le_of_ble_eq_true rfl) (Nat.le_of_ble_eq_true rfl) (F' := 0) (sv_Fn (n := 0) o203) rfl (t_part p2 (1 : Int) (sv_sts S [26, 27, 28, 29, 1046, 1047, 1100007, 1100023, 1100024, 1100025, 1053, 31, 1100030, 1100009, 1100027, 1100028, 1100026, 1055, 1100033, 39, 1066] g207) ok208 hp2 (⟨by decide, by decide⟩ : sv_R (1 : Int)) o213) (fun v S1 hq => ?_)
      obtain ⟨rfl, hS1⟩ := hq
      obtain rfl : (sv_sts S [26, 27, 28, 29, 1046, 1047, 1100007, 1100023, 1100024, 1100025, 1053, 31, 1100030, 1100009, 1100027, 1100028, 1100026, 1055, 1100033, 39, 1066] g207) = S1 := hS1.symm
      show sv_T sm_XS sm_cs sm_L sm_sh ((if (S 1100002 p2) ≤ (S 1100002 p3) then (S 1100002 p3) else (S 1100002 p2)) + (600 - (S 1046 0)) + 9).toNat (q_give p1 p2 p3 S) 103 39 [(0, .ref 0), (1, sv_I p1), (2, sv_I p2), (3, sv_I p3), (4, sv_I (1 : Int))] [sv_I ((S 12 (5 * p2 + (1 : Int)))), .ref 0] (sv_sts S [26, 27, 28, 29, 1046, 1047, 1100007, 1100023, 1100024, 1100025, 1053, 31, 1100030, 1100009, 1100027, 1100028, 1100026, 1055, 1100033, 39, 1066] g207)
      obtain ⟨o214, h⟩ := h
      obtain ⟨o215, h⟩ := h
      obtain ⟨o216, h⟩ := h
      refine sv_callV hM dX12_give_39 sm_iv_668 (by decide) (sm_a0 _) rfl rfl (Nat.le_of_ble_eq_true rfl) sm_h96 (Nat.le_of_ble_eq_true rfl) (Nat.le_of_ble_eq_true rfl) (F' := (((if (g207 1047 0) = 0 then (S 1100002 ((S 12 (5 * p2 + (1 : Int))))) + (600 - (g207 1046 0)) + 8 else 4))).toNat) (sv_Fe o216) rfl ((IH ((if (g207 1047 0) = 0 then (S 1100002 ((S 12 (5 * p2 + (1 : Int))))) + (600 - (g207 1046 0)) + 8 else 4)) o215.1 o215.2).1 ((S 12 (5 * p2 + (1 : Int)))) (sv_sts S [26, 27, 28, 29, 1046, 1047, 1100007, 1100023, 1100024, 1100025, 1053, 31, 1100030, 1100009, 1100027, 1100028, 1100026, 1055, 1100033, 39, 1066] g207) ok208 (sm_okI ok208 sm_r12 _) o214 rfl) (fun v S1 hq => ?_)
      obtain ⟨rfl, ok218, md219, hpo220⟩ := hq
      obtain ⟨g217, rfl⟩ : ∃ g, S1 = sv_sts (sv_sts S [26, 27, 28, 29, 1046, 1047, 1100007, 1100023, 1100024, 1100025, 1053, 31, 1100030, 1100009, 1100027, 1100028, 1100026, 1055, 1100033, 39, 1066] g207) [26, 27, 28, 29, 1046, 1047, 1100007, 1100023, 1100024, 1100025, 1053, 31, 1100030, 1100009, 1100027, 1100028, 1100026, 1055, 1100033, 39, 1066] g := ⟨_, md219.eq⟩
      show sv_T sm_XS sm_cs sm_L sm_sh ((if (S 1100002 p2) ≤ (S 1100002 p3) then (S 1100002 p3) else (S 1100002 p2)) + (600 - (S 1046 0)) + 9).toNat (q_give p1 p2 p3 S) 103 42 [(0, .ref 0), (1, sv_I p1), (2, sv_I p2), (3, sv_I p3), (4, sv_I (1 : Int))] [] (sv_sts (sv_sts S [26, 27, 28, 29, 1046, 1047, 1100007, 1100023, 1100024, 1100025, 1053, 31, 1100030, 1100009, 1100027, 1100028, 1100026, 1055, 1100033, 39, 1066] g207) [26, 27, 28, 29, 1046, 1047, 1100007, 1100023, 1100024, 1100025, 1053, 31, 1100030, 1100009, 1100027, 1100028, 1100026, 1055, 1100033, 39, 1066] g217)
      have md221 : sv_mod [26, 27, 28, 29, 1046, 1047, 1100007, 1100023, 1100024, 1100025, 1053, 31, 1100030, 1100009, 1100027, 1100028, 1100026, 1055, 1100033, 39, 1066] S (sv_sts (sv_sts S [26, 27, 28, 29, 1046, 1047, 1100007, 1100023, 1100024, 1100025, 1053, 31, 1100030, 1100009, 1100027, 1100028, 1100026, 1055, 1100033, 39, 1066] g207) [26, 27, 28, 29, 1046, 1047, 1100007, 1100023, 1100024, 1100025, 1053, 31, 1100030, 1100009, 1100027, 1100028, 1100026, 1055, 1100033, 39, 1066] g217) := sv_mod.sts md211 (by decide)
      have md222 : sv_mod [26, 27, 28, 29, 1046, 1047, 1100007, 1100023, 1100024, 1100025, 1053, 31, 1100030, 1100009, 1100027, 1100028, 1100026, 1055, 1100033, 39, 1066] S (sv_sts (sv_sts S [26, 27, 28, 29, 1046, 1047, 1100007, 1100023, 1100024, 1100025, 1053, 31, 1100030, 1100009, 1100027, 1100028, 1100026, 1055, 1100033, 39, 1066] g207) [26, 27, 28, 29, 1046, 1047, 1100007, 1100023, 1100024, 1100025, 1053, 31, 1100030, 1100009, 1100027, 1100028, 1100026, 1055, 1100033, 39, 1066] g217) := sv_mod.sts md212 (by decide)
      have h := h g217 hpo220
      have eS := sv_mod.eq md222
      have hb := J196 (sv_sts (sv_sts S [26, 27, 28, 29, 1046, 1047, 1100007, 1100023, 1100024, 1100025, 1053, 31, 1100030, 1100009, 1100027, 1100028, 1100026, 1055, 1100033, 39, 1066] g207) [26, 27, 28, 29, 1046, 1047, 1100007, 1100023, 1100024, 1100025, 1053, 31, 1100030, 1100009, 1100027, 1100028, 1100026, 1055, 1100033, 39, 1066] g217) (by rw [← eS]; exact ok218) h
      have hb : sv_T sm_XS sm_cs sm_L sm_sh ((if (S 1100002 p2) ≤ (S 1100002 p3) then (S 1100002 p3) else (S 1100002 p2)) + (600 - (S 1046 0)) + 9).toNat (q_give p1 p2 p3 S) 103 42 [(0, .ref 0), (1, sv_I p1), (2, sv_I p2), (3, sv_I p3), (4, sv_I (1 : Int))] [] (sv_sts (sv_sts S [26, 27, 28, 29, 1046, 1047, 1100007, 1100023, 1100024, 1100025, 1053, 31, 1100030, 1100009, 1100027, 1100028, 1100026, 1055, 1100033, 39, 1066] g207) [26, 27, 28, 29, 1046, 1047, 1100007, 1100023, 1100024, 1100025, 1053, 31, 1100030, 1100009, 1100027, 1100028, 1100026, 1055, 1100033, 39, 1066] g217) := Eq.mpr (congrArg (fun Z => sv_T sm_XS sm_cs sm_L sm_sh ((if (S 1100002 p2) ≤ (S 1100002 p3) then (S 1100002 p3) else (S 1100002 p2)) + (600 - (S 1046 0)) + 9).toNat (q_give p1 p2 p3 S) 103 42 [(0, .ref 0), (1, sv_I p1), (2, sv_I p2), (3, sv_I p3), (4, sv_I (1 : Int))] [] Z) eS) hb
      exact sv_less (lv := [(0, .ref 0), (1, sv_I p1), (2, sv_I p2), (3, sv_I p3), (4, sv_I (1 : Int))]) (sv_Sub_cons rfl (sv_Sub_cons rfl (sv_Sub_cons rfl (sv_Sub_cons rfl (sv_Sub_cons rfl sv_Sub_nil))))) hb
