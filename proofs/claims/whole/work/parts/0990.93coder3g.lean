theorem dX12_unary_0 : decode cX12_unary 0 = .ok (.iload_n 1, 1) := by decide +kernel
theorem dX12_unary_1 : decode cX12_unary 1 = .ok (.bipush 6, 2) := by decide +kernel
theorem dX12_unary_3 : decode cX12_unary 3 = .ok (.if_icmp .ne 32, 3) := by decide +kernel
theorem dX12_unary_6 : decode cX12_unary 6 = .ok (.aload_n 0, 1) := by decide +kernel
theorem dX12_unary_7 : decode cX12_unary 7 = .ok (.aload_n 0, 1) := by decide +kernel
theorem dX12_unary_8 : decode cX12_unary 8 = .ok (.iload_n 2, 1) := by decide +kernel
theorem dX12_unary_9 : decode cX12_unary 9 = .ok (.iconst 0, 1) := by decide +kernel
theorem dX12_unary_10 : decode cX12_unary 10 = .ok (.invokevirtual 644, 3) := by decide +kernel
theorem dX12_unary_13 : decode cX12_unary 13 = .ok (.invokevirtual 668, 3) := by decide +kernel
theorem dX12_unary_16 : decode cX12_unary 16 = .ok (.aload_n 0, 1) := by decide +kernel
theorem dX12_unary_17 : decode cX12_unary 17 = .ok (.aload_n 0, 1) := by decide +kernel
theorem dX12_unary_18 : decode cX12_unary 18 = .ok (.iload_n 2, 1) := by decide +kernel
theorem dX12_unary_19 : decode cX12_unary 19 = .ok (.iconst 1, 1) := by decide +kernel
theorem dX12_unary_20 : decode cX12_unary 20 = .ok (.invokevirtual 644, 3) := by decide +kernel
theorem dX12_unary_23 : decode cX12_unary 23 = .ok (.invokevirtual 668, 3) := by decide +kernel
theorem dX12_unary_26 : decode cX12_unary 26 = .ok (.aload_n 0, 1) := by decide +kernel
theorem dX12_unary_27 : decode cX12_unary 27 = .ok (.bipush 12, 2) := by decide +kernel
theorem dX12_unary_29 : decode cX12_unary 29 = .ok (.invokevirtual 666, 3) := by decide +kernel
theorem dX12_unary_32 : decode cX12_unary 32 = .ok (.goto 98, 3) := by decide +kernel
theorem dX12_unary_35 : decode cX12_unary 35 = .ok (.iload_n 1, 1) := by decide +kernel
theorem dX12_unary_36 : decode cX12_unary 36 = .ok (.iconst 4, 1) := by decide +kernel
theorem dX12_unary_37 : decode cX12_unary 37 = .ok (.if_icmp .ne 60, 3) := by decide +kernel
theorem dX12_unary_40 : decode cX12_unary 40 = .ok (.aload_n 0, 1) := by decide +kernel
theorem dX12_unary_41 : decode cX12_unary 41 = .ok (.getfield 42, 3) := by decide +kernel
theorem dX12_unary_44 : decode cX12_unary 44 = .ok (.iload_n 2, 1) := by decide +kernel
theorem dX12_unary_45 : decode cX12_unary 45 = .ok (.iaload, 1) := by decide +kernel
theorem dX12_unary_46 : decode cX12_unary 46 = .ok (.iconst 2, 1) := by decide +kernel
theorem dX12_unary_47 : decode cX12_unary 47 = .ok (.if_icmp .ne 50, 3) := by decide +kernel
theorem dX12_unary_50 : decode cX12_unary 50 = .ok (.aload_n 0, 1) := by decide +kernel
theorem dX12_unary_51 : decode cX12_unary 51 = .ok (.getfield 52, 3) := by decide +kernel
theorem dX12_unary_54 : decode cX12_unary 54 = .ok (.iload_n 2, 1) := by decide +kernel
theorem dX12_unary_55 : decode cX12_unary 55 = .ok (.baload, 1) := by decide +kernel
theorem dX12_unary_56 : decode cX12_unary 56 = .ok (.ifCond .ne 41, 3) := by decide +kernel
theorem dX12_unary_59 : decode cX12_unary 59 = .ok (.aload_n 0, 1) := by decide +kernel
theorem dX12_unary_60 : decode cX12_unary 60 = .ok (.aload_n 0, 1) := by decide +kernel
theorem dX12_unary_61 : decode cX12_unary 61 = .ok (.iload_n 2, 1) := by decide +kernel
theorem dX12_unary_62 : decode cX12_unary 62 = .ok (.iconst 0, 1) := by decide +kernel
theorem dX12_unary_63 : decode cX12_unary 63 = .ok (.invokevirtual 644, 3) := by decide +kernel
theorem dX12_unary_66 : decode cX12_unary 66 = .ok (.iconst 1, 1) := by decide +kernel
theorem dX12_unary_67 : decode cX12_unary 67 = .ok (.iconst 5, 1) := by decide +kernel
theorem dX12_unary_68 : decode cX12_unary 68 = .ok (.invokevirtual 625, 3) := by decide +kernel
theorem dX12_unary_71 : decode cX12_unary 71 = .ok (.aload_n 0, 1) := by decide +kernel
theorem dX12_unary_72 : decode cX12_unary 72 = .ok (.getfield 89, 3) := by decide +kernel
theorem dX12_unary_75 : decode cX12_unary 75 = .ok (.aload_n 0, 1) := by decide +kernel
theorem dX12_unary_76 : decode cX12_unary 76 = .ok (.getfield 606, 3) := by decide +kernel
theorem dX12_unary_79 : decode cX12_unary 79 = .ok (.iconst 1, 1) := by decide +kernel
theorem dX12_unary_80 : decode cX12_unary 80 = .ok (.isub, 1) := by decide +kernel
theorem dX12_unary_81 : decode cX12_unary 81 = .ok (.iaload, 1) := by decide +kernel
theorem dX12_unary_82 : decode cX12_unary 82 = .ok (.iconst 1, 1) := by decide +kernel
theorem dX12_unary_83 : decode cX12_unary 83 = .ok (.if_icmp .ne 47, 3) := by decide +kernel
theorem dX12_unary_86 : decode cX12_unary 86 = .ok (.aload_n 0, 1) := by decide +kernel
theorem dX12_unary_87 : decode cX12_unary 87 = .ok (.bipush 13, 2) := by decide +kernel
theorem dX12_unary_89 : decode cX12_unary 89 = .ok (.iconst 4, 1) := by decide +kernel
theorem dX12_unary_90 : decode cX12_unary 90 = .ok (.iconst 0, 1) := by decide +kernel
theorem dX12_unary_91 : decode cX12_unary 91 = .ok (.invokevirtual 615, 3) := by decide +kernel
theorem dX12_unary_94 : decode cX12_unary 94 = .ok (.goto 36, 3) := by decide +kernel
theorem dX12_unary_97 : decode cX12_unary 97 = .ok (.aload_n 0, 1) := by decide +kernel
theorem dX12_unary_98 : decode cX12_unary 98 = .ok (.iload_n 2, 1) := by decide +kernel
theorem dX12_unary_99 : decode cX12_unary 99 = .ok (.invokevirtual 668, 3) := by decide +kernel
theorem dX12_unary_102 : decode cX12_unary 102 = .ok (.iload_n 1, 1) := by decide +kernel
theorem dX12_unary_103 : decode cX12_unary 103 = .ok (.iconst 5, 1) := by decide +kernel
theorem dX12_unary_104 : decode cX12_unary 104 = .ok (.if_icmp .ge 14, 3) := by decide +kernel
theorem dX12_unary_107 : decode cX12_unary 107 = .ok (.aload_n 0, 1) := by decide +kernel
theorem dX12_unary_108 : decode cX12_unary 108 = .ok (.bipush 13, 2) := by decide +kernel
theorem dX12_unary_110 : decode cX12_unary 110 = .ok (.iload_n 1, 1) := by decide +kernel
theorem dX12_unary_111 : decode cX12_unary 111 = .ok (.iconst 0, 1) := by decide +kernel
theorem dX12_unary_112 : decode cX12_unary 112 = .ok (.invokevirtual 615, 3) := by decide +kernel
theorem dX12_unary_115 : decode cX12_unary 115 = .ok (.goto 15, 3) := by decide +kernel
theorem dX12_unary_118 : decode cX12_unary 118 = .ok (.aload_n 0, 1) := by decide +kernel
theorem dX12_unary_119 : decode cX12_unary 119 = .ok (.bipush 17, 2) := by decide +kernel
theorem dX12_unary_121 : decode cX12_unary 121 = .ok (.invokevirtual 666, 3) := by decide +kernel
theorem dX12_unary_124 : decode cX12_unary 124 = .ok (.aload_n 0, 1) := by decide +kernel
theorem dX12_unary_125 : decode cX12_unary 125 = .ok (.iconst 0, 1) := by decide +kernel
theorem dX12_unary_126 : decode cX12_unary 126 = .ok (.iconst 0, 1) := by decide +kernel
theorem dX12_unary_127 : decode cX12_unary 127 = .ok (.invokevirtual 656, 3) := by decide +kernel
theorem dX12_unary_130 : decode cX12_unary 130 = .ok (.return_, 1) := by decide +kernel

theorem la_unary_0 {x0 : Int} (h0 : x0 = 1) : ¬ x0 = 2 := by omega
theorem la_unary_1 {x0 : Int} (h0 : x0 = 1) : ¬ x0 = 6 := by omega
theorem la_unary_2 {x0 : Int} (h0 : x0 = 1) : ¬ x0 = 3 := by omega
theorem la_unary_3 {x0 : Int} (h0 : x0 ≤ 6) (h1 : ¬ x0 = 6) : x0 < 6 := by omega
theorem la_unary_4 {x0 x1 x2 : Int} (h0 : x0 ≤ 600) (h1 : 0 ≤ x1) (h2 : x2 = x1 + (600 - x0) + 8) : 0 ≤ x2 := by omega
theorem la_unary_5 {x0 x1 x2 x3 : Int} (h0 : x0 + (600 - x1) + 9 = x2) (h1 : x3 = x0 + (600 - x1) + 8) : x3 < x2 := by omega
theorem la_unary_6 {x0 x1 x2 : Int} (h0 : x0 = x1 + (600 - x2) + 8) : x0 + 1 ≤ x1 + (600 - x2) + 9 := by omega
theorem la_unary_7 {x0 : Int} (h0 : x0 = 0) : ¬ x0 = 1 := by omega
theorem la_unary_8 {x0 : Int} (h0 : 5 ≤ x0) : 4 ≤ x0 := by omega
theorem la_unary_9 {x0 : Int} (h0 : 4 ≤ x0) (h1 : ¬ x0 = 4) : 4 < x0 := by omega
theorem la_unary_10 : (0 : Int) ≤ 17 := by omega
theorem la_unary_11 : (17 : Int) ≤ 30 := by omega
theorem la_unary_12 {x0 x1 x2 x3 x4 x5 x6 x7 x8 x9 x10 x11 x12 x13 : Int} (h0 : 0 ≤ x0) (h1 : 0 ≤ x1 → x2 ≤ x0) (h2 : 0 ≤ x3 → x4 ≤ x0) (h3 : x5 = x0 + 1) (h4 : x6 = x1) (h5 : x7 = x3) (h6 : x8 = x2) (h7 : x9 = x4) (h8 : x10 = (-1)) (h9 : x11 = x6) (h10 : (0 ≤ x7 → x9 < x5) → x12 = x7) : 1 ≤ x5 ∧ (0 ≤ x6 → x8 ≤ x5 - 1) ∧ (0 ≤ x7 ∧ x9 = x5 ∧ x5 + x10 = x5 - 1 ∧ x11 = x6 ∧ x12 = x13 ∨ (0 ≤ x7 → x9 ≤ x5 - 1) ∧ x5 + x10 = x5 - 1 ∧ x11 = x6 ∧ x12 = x7) := by omega
theorem la_unary_13 {x0 x1 x2 : Int} : (21 : Int) ≤ 17 ∧ (17 : Int) ≤ 24 ∨ (17 : Int) = 27 ∨ (17 : Int) = 30 → (0 : Int) ≤ 0 ∧ 0 < x0 ∧ x1 = x2 := by omega
theorem la_unary_14 : ¬ (17 : Int) = 1 := by omega
theorem la_unary_15 {x0 x1 : Int} (h0 : (17 : Int) = 2) : x0 < x1 + 1 := by omega
theorem la_unary_16 {x0 : Int} (h0 : (17 : Int) = 2) : 0 ≤ x0 := by omega
theorem la_unary_17 {x0 : Int} (h0 : (17 : Int) = 2) : x0 = 3 := by omega
theorem la_unary_18 {x0 : Int} (h0 : (17 : Int) = 2) : x0 = 4 ∨ x0 = 5 ∨ x0 = 8 ∨ x0 = 9 := by omega
theorem la_unary_19 {x0 x1 x2 : Int} (h0 : (17 : Int) = 2) : 0 ≤ x0 → x1 < x2 := by omega
theorem la_unary_20 {x0 x1 : Int} (h0 : (17 : Int) = 2) : x0 = x1 := by omega
theorem la_unary_21 (h0 : (17 : Int) = 2) : False := by omega
theorem la_unary_22 {x0 x1 : Int} (h0 : x0 ≤ 600) (h1 : 0 ≤ x1) : 1 + 1 ≤ x1 + (600 - x0) + 9 := by omega
theorem la_unary_23 {x0 : Int} (h0 : 1 ≤ x0) : 0 ≤ x0 := by omega
theorem la_unary_24 {x0 : Int} (h0 : x0 ≤ 1) (h1 : ¬ x0 = 1) : x0 < 1 := by omega
theorem la_unary_25 : ¬ (17 : Int) = 29 := by omega
theorem la_unary_26 : (17 : Int) = 17 := by omega
theorem la_unary_27 : (0 : Int) ≤ 0 := by omega
theorem la_unary_28 : (0 : Int) ≤ 6 := by omega
theorem la_unary_29 {x0 : Int} : (0 : Int) = 6 → (0 : Int) ≤ 0 ∧ 0 < x0 := by omega
theorem la_unary_30 {x0 x1 x2 x3 x4 x5 x6 x7 x8 x9 x10 x11 : Int} (h0 : 0 ≤ x0 → x1 ≤ x2) (h1 : x3 = x4 + x5) (h2 : x5 = (-1)) (h3 : x6 = x7) (h4 : x7 = x8) (h5 : x9 = x10) (h6 : x10 = x11) (h7 : x4 = x2 + 1) (h8 : x8 = x0) (h9 : x11 = x1) : 0 ≤ x6 → x9 ≤ x3 := by omega
theorem la_unary_31 {x0 x1 x2 : Int} (h0 : x0 < x1) (h1 : x2 = x0) : x2 < x1 + 1 := by omega
theorem la_unary_32 {x0 x1 x2 : Int} (h0 : x0 ≤ x1 + 1) (h1 : x2 < x0) : x2 < x1 + 1 := by omega
theorem la_unary_33 {x0 x1 x2 x3 x4 x5 : Int} (h0 : x0 < x1) (h1 : x2 = x3) (h2 : x3 = x4) (h3 : x1 + 1 ≤ x5) (h4 : x4 = x0) : x2 < x5 + 1 := by omega
theorem la_unary_34 {x0 x1 x2 x3 x4 : Int} (h0 : x0 < x1) (h1 : x2 = x3) (h2 : x3 = x4) (h3 : x4 = x0) : x2 < x1 + 1 := by omega
theorem la_unary_35 {x0 x1 x2 x3 : Int} (h0 : x0 = x1) (h1 : x1 = x2) (h2 : x2 = x3) : x0 = x3 := by omega
theorem la_unary_36 {x0 x1 x2 : Int} (h0 : x0 = x1) (h1 : x1 = x2) : x2 = x0 := by omega
theorem la_unary_37 {x0 x1 x2 x3 x4 x5 x6 x7 : Int} (h0 : 0 ≤ x0 → x1 ≤ x2) (h1 : x3 = x4) (h2 : (0 ≤ x5 → x6 < x7) → x4 = x5) (h3 : x7 = x2 + 1) (h4 : x5 = x0) (h5 : x6 = x1) (h6 : 0 ≤ x3) : x5 = x3 := by omega
theorem la_unary_38 {x0 x1 x2 x3 x4 x5 x6 x7 x8 x9 x10 x11 : Int} (h0 : 0 ≤ x0 → x1 ≤ x2) (h1 : x3 = x4 + x5) (h2 : x5 = (-1)) (h3 : x6 = x7) (h4 : (0 ≤ x8 → x9 < x4) → x7 = x8) (h5 : x4 = x2 + 1) (h6 : x8 = x0) (h7 : x9 = x1) (h8 : 0 ≤ x6) (h9 : x10 = x11) (h10 : x9 = x11) : x10 ≤ x3 := by omega
theorem la_unary_39 {x0 x1 x2 x3 : Int} (h0 : x0 ≤ x1) (h1 : x1 ≤ x2) (h2 : x2 ≤ x3) : x0 ≤ x3 := by omega
theorem la_unary_40 {x0 x1 : Int} (h0 : x0 = 0) (h1 : x1 ≤ 1) : x0 = 1 → x1 = 1 := by omega
theorem la_unary_41 {x0 x1 x2 : Int} (h0 : x0 ≤ x1) (h1 : x1 ≤ x2) : x0 ≤ x2 := by omega
theorem la_unary_42 {x0 x1 x2 : Int} (h0 : x0 ≤ x1) (h1 : x1 ≤ x2) : x0 + 1 ≤ x2 + 1 := by omega
theorem la_unary_43 {x0 x1 : Int} (h0 : x0 ≤ x1) : x0 + 1 ≤ x1 + 1 := by omega
theorem la_unary_44 : ¬ (0 : Int) = 29 := by omega
theorem la_unary_45 : ¬ (0 : Int) = 17 := by omega
theorem la_unary_46 {x0 x1 x2 : Int} : (0 : Int) = 17 → 0 ≤ x0 → x1 < x2 := by omega
theorem la_unary_47 {x0 x1 x2 x3 : Int} (h0 : x0 = x1 + 1) (h1 : x1 = x2 + 1) (h2 : x3 ≤ x2) : x3 ≤ x0 := by omega
theorem la_unary_48 {x0 x1 x2 x3 : Int} (h0 : x0 = x1 + 1) (h1 : x1 = x2 + 1) (h2 : x3 + 1 ≤ x2) : x3 + 1 ≤ x0 := by omega
theorem la_unary_49 {x0 x1 x2 : Int} (h0 : x0 = x1 + 1) (h1 : x2 + 1 ≤ x1) : x2 < x0 := by omega
theorem la_unary_50 {x0 x1 : Int} (h0 : x0 + 1 ≤ x1) : x0 < x1 := by omega
theorem la_unary_51 {x0 x1 : Int} (h0 : x0 = x1 + 1) : x1 < x0 := by omega
theorem la_unary_52 {x0 x1 : Int} (h0 : x0 ≤ x1 + 1) (h1 : x0 = x1 + 1) : x1 + 1 = x0 := by omega
theorem la_unary_53 {x0 x1 x2 : Int} (h0 : x0 ≤ x1 + 1) (h1 : x2 ≤ x0 + 1) : x2 ≤ x1 + 1 + 1 := by omega
theorem la_unary_54 {x0 x1 x2 x3 x4 x5 : Int} (h0 : x0 = x1 + x2) (h1 : x2 = 1) (h2 : x1 = x3 + x4) (h3 : x4 = (-1)) (h4 : x3 = x5 + 1) : x0 = x5 + 1 := by omega
theorem la_unary_55 {x0 x1 x2 x3 x4 x5 : Int} (h0 : x0 = x1) (h1 : x1 = x2) (h2 : x2 = x3) (h3 : x3 = x4) (h4 : x4 = x5) : x0 = x5 := by omega
theorem la_unary_56 {x0 x1 x2 : Int} (h0 : x0 = x1 + 1) (h1 : x2 < x0) : x2 < x1 + 1 := by omega
theorem la_unary_57 {x0 x1 x2 x3 : Int} (h0 : x0 = x1) (h1 : x1 = x2) (h2 : x2 < x3) : x0 < x3 + 1 := by omega
theorem la_unary_58 {x0 x1 x2 x3 x4 : Int} (h0 : x0 ≤ x1 + 1) (h1 : x2 = x3) (h2 : x3 = x4) (h3 : x4 < x0) : x2 < x1 + 1 := by omega
theorem la_unary_59 {x0 x1 x2 x3 x4 x5 x6 x7 : Int} (h0 : x0 < x1) (h1 : x2 = x3) (h2 : x3 = x4) (h3 : x4 = x5) (h4 : x5 = x6) (h5 : x1 + 1 ≤ x7) (h6 : x6 = x0) : x2 < x7 + 1 := by omega
theorem la_unary_60 {x0 x1 x2 x3 x4 x5 x6 : Int} (h0 : x0 < x1) (h1 : x2 = x3) (h2 : x3 = x4) (h3 : x4 = x5) (h4 : x5 = x6) (h5 : x6 = x0) : x2 < x1 + 1 := by omega
theorem la_unary_61 {x0 x1 x2 : Int} (h0 : x0 = x1) (h1 : x1 = x2) : x0 = x2 := by omega
theorem la_unary_62 {x0 x1 x2 x3 x4 : Int} (h0 : x0 = x1) (h1 : x1 = x2) (h2 : x2 = x3) (h3 : x3 = x4) : x4 = x0 := by omega
theorem la_unary_63 {x0 x1 x2 x3 x4 x5 x6 x7 : Int} (h0 : 0 ≤ x0 → x1 ≤ x2) (h1 : (-1) ≤ x3) (h2 : x3 = x4) (h3 : (0 ≤ x5 → x6 < x7) → x4 = x5) (h4 : x7 = x2 + 1) (h5 : x5 = x0) (h6 : x6 = x1) : x5 = x3 := by omega
theorem la_unary_64 {x0 x1 x2 x3 x4 x5 x6 x7 x8 x9 : Int} (h0 : 0 ≤ x0 → x1 ≤ x2) (h1 : (-1) ≤ x3) (h2 : x3 = x4) (h3 : x4 = x5) (h4 : x5 = x6) (h5 : (0 ≤ x7 → x8 < x9) → x6 = x7) (h6 : x9 = x2 + 1) (h7 : x7 = x0) (h8 : x8 = x1) : x7 = x3 := by omega
theorem la_unary_65 {x0 x1 x2 x3 x4 x5 x6 x7 x8 x9 : Int} (h0 : 0 ≤ x0 → x1 ≤ x2) (h1 : (-1) ≤ x3) (h2 : x3 = x4) (h3 : x4 = x5) (h4 : x5 = x6) (h5 : (0 ≤ x7 → x8 < x9) → x6 = x7) (h6 : x9 = x2 + 1) (h7 : x7 = x0) (h8 : x8 = x1) : x3 = x0 := by omega
theorem la_unary_66 {x0 x1 x2 x3 x4 : Int} (h0 : x0 = x1) (h1 : x2 = x3) (h2 : x1 = x4) (h3 : x2 = x4) : x0 = x3 := by omega
theorem la_unary_67 {x0 x1 x2 : Int} (h0 : x0 = x1 + 1) (h1 : x2 + 1 ≤ x1) : x2 < x0 + 1 := by omega
theorem la_unary_68 {x0 x1 : Int} (h0 : x0 + 1 ≤ x1) : x0 < x1 + 1 := by omega
theorem la_unary_69 {x0 : Int} : x0 < x0 + 1 := by omega
theorem la_unary_70 {x0 x1 x2 x3 x4 x5 : Int} (h0 : 0 ≤ x0) (h1 : x1 = x2 + 1) (h2 : x2 = x3 + 1) (h3 : x4 + 1 ≤ x3) : 2 * x5 ≤ 2 * x5 + (x1 - x4) + 8 * x0 + 10 := by omega
theorem la_unary_71 {x0 x1 x2 : Int} (h0 : x0 = x1 + 1) (h1 : x2 + 1 ≤ x1) : x2 + 1 < x0 + 1 := by omega
theorem la_unary_72 {x0 x1 : Int} (h0 : x0 + 1 ≤ x1) : x0 + 1 < x1 + 1 := by omega
theorem la_unary_73 {x0 : Int} : x0 ≤ x0 + 1 := by omega
theorem la_unary_74 {x0 x1 x2 x3 x4 x5 : Int} (h0 : x0 = x1 + 1) (h1 : x1 = x2 + 1) : 2 * x3 + (x2 - x4) + 8 * x5 + 10 ≤ 2 * x3 + (x0 - x4) + 8 * x5 + 10 := by omega
theorem la_unary_75 {x0 x1 : Int} (h0 : x0 = x1 + 1) : x1 ≤ x0 + 1 := by omega
theorem la_unary_76 {x0 x1 : Int} (h0 : x0 = x1 + 1) : x1 < x0 + 1 := by omega
theorem la_unary_77 {x0 x1 x2 x3 x4 x5 x6 : Int} (h0 : 0 ≤ x0) (h1 : x1 = x2 + 1) (h2 : x2 = x3 + 1) (h3 : x4 + 1 ≤ x3) (h4 : x5 = x6 + 1) : 2 * x5 ≤ 2 * x6 + (x1 - x4) + 8 * x0 + 10 := by omega
theorem la_unary_78 {x0 x1 : Int} (h0 : x0 = x1 + 1) : x1 + 1 < x0 + 1 := by omega
theorem la_unary_79 {x0 x1 x2 x3 x4 x5 x6 x7 : Int} (h0 : 0 ≤ x0) (h1 : x1 = x2 + 1) (h2 : x2 = x3 + 1) (h3 : x4 = (-1)) (h4 : x5 + 1 ≤ x3) (h5 : x6 = x7 + 1) : 2 * (x6 + x4) ≤ 2 * x7 + (x1 - x5) + 8 * x0 + 10 := by omega
theorem la_unary_80 {x0 x1 x2 x3 x4 x5 : Int} (h0 : x0 = x1 + 1) (h1 : x1 = x2 + 1) (h2 : x3 ≤ x4 + 3 * (x2 - x5)) : x3 ≤ x4 + 3 * (x0 - x5) := by omega
theorem la_unary_81 {x0 : Int} (h0 : ¬ 5 ≤ x0) : x0 ≤ 4 := by omega
theorem la_unary_82 {x0 : Int} (h0 : x0 ≤ 4) (h1 : ¬ x0 = 4) : x0 < 4 := by omega
theorem la_unary_83 : (0 : Int) ≤ 13 := by omega
theorem la_unary_84 : (13 : Int) ≤ 30 := by omega
theorem la_unary_85 {x0 x1 x2 x3 x4 x5 x6 x7 x8 x9 x10 x11 x12 x13 : Int} (h0 : 0 ≤ x0) (h1 : 0 ≤ x1) (h2 : 0 ≤ x2 → x3 ≤ x1) (h3 : 0 ≤ x4 → x5 ≤ x1) (h4 : x0 < 4) (h5 : x6 = x1 + 1) (h6 : x7 = x2) (h7 : x8 = x4) (h8 : x9 = x3) (h9 : x10 = x5) (h10 : x11 = 0) (h11 : x12 = x7) (h12 : x13 = x8) : (0 ≤ x0 ∧ x0 ≤ 4) ∧ (0 ≤ x6 - 1 ∧ (0 ≤ x7 → x9 ≤ x6 - 1) ∧ (0 ≤ x8 → x10 ≤ x6 - 1)) ∧ x6 + x11 = x6 ∧ x12 = x7 ∧ x13 = x8 := by omega
theorem la_unary_86 {x0 x1 x2 x3 : Int} : (21 : Int) ≤ 13 ∧ (13 : Int) ≤ 24 ∨ (13 : Int) = 27 ∨ (13 : Int) = 30 → 0 ≤ x0 ∧ x0 < x1 ∧ x2 = x3 := by omega
theorem la_unary_87 : ¬ (13 : Int) = 1 := by omega
theorem la_unary_88 {x0 x1 : Int} (h0 : (13 : Int) = 2) : x0 < x1 + 1 := by omega
theorem la_unary_89 {x0 : Int} (h0 : (13 : Int) = 2) : 0 ≤ x0 := by omega
theorem la_unary_90 {x0 : Int} (h0 : (13 : Int) = 2) : x0 = 3 := by omega
theorem la_unary_91 {x0 : Int} (h0 : (13 : Int) = 2) : x0 = 4 ∨ x0 = 5 ∨ x0 = 8 ∨ x0 = 9 := by omega
theorem la_unary_92 {x0 x1 : Int} (h0 : (13 : Int) = 2) : x0 = x1 := by omega
theorem la_unary_93 (h0 : (13 : Int) = 2) : False := by omega
theorem la_unary_94 {x0 x1 : Int} (h0 : x0 ≤ 600) (h1 : 0 ≤ x1) : 0 + 1 ≤ x1 + (600 - x0) + 9 := by omega
theorem la_unary_95 : ¬ (13 : Int) = 29 := by omega
theorem la_unary_96 : ¬ (13 : Int) = 17 := by omega
theorem la_unary_97 {x0 x1 x2 : Int} : (13 : Int) = 17 → 0 ≤ x0 → x1 < x2 := by omega
theorem la_unary_98 {x0 x1 x2 : Int} (h0 : x0 = x1 + 1) (h1 : x2 ≤ x1) : x2 ≤ x0 := by omega
theorem la_unary_99 {x0 x1 x2 : Int} (h0 : x0 = x1 + 1) (h1 : x2 + 1 ≤ x1) : x2 + 1 ≤ x0 := by omega
theorem la_unary_100 {x0 x1 x2 x3 : Int} (h0 : x0 = x1 + x2) (h1 : x2 = 0) (h2 : x1 = x3 + 1) : x0 = x3 + 1 := by omega
theorem la_unary_101 {x0 x1 x2 : Int} (h0 : x0 = x1) (h1 : x2 = x0) : x2 = x1 := by omega
theorem la_unary_102 {x0 x1 x2 x3 x4 : Int} (h0 : 0 ≤ x0) (h1 : x1 = x2 + 1) (h2 : x3 + 1 ≤ x2) : 2 * x4 ≤ 2 * x4 + (x1 - x3) + 8 * x0 + 10 := by omega
theorem la_unary_103 {x0 x1 x2 x3 x4 : Int} (h0 : x0 = x1 + 1) : 2 * x2 + (x1 - x3) + 8 * x4 + 10 ≤ 2 * x2 + (x0 - x3) + 8 * x4 + 10 := by omega
theorem la_unary_104 {x0 x1 x2 x3 x4 x5 : Int} (h0 : 0 ≤ x0) (h1 : x1 = x2 + 1) (h2 : x3 + 1 ≤ x2) (h3 : x4 = x5 + 1) : 2 * x4 ≤ 2 * x5 + (x1 - x3) + 8 * x0 + 10 := by omega
theorem la_unary_105 {x0 x1 x2 x3 x4 : Int} (h0 : x0 = x1 + 1) (h1 : x2 ≤ x3 + 3 * (x1 - x4)) : x2 ≤ x3 + 3 * (x0 - x4) := by omega
theorem la_unary_106 {x0 x1 : Int} (h0 : x0 ≤ 12000) (h1 : 0 ≤ x1) (h2 : x1 < x0) : 0 ≤ x1 ∧ x1 < 12000 := by omega
theorem la_unary_107 {x0 x1 x2 x3 : Int} (h0 : 0 ≤ x0) (h1 : x1 ≤ x2) (h2 : x2 ≤ x1 + 3 * (600 - x3) + x0) : 1 + 1 ≤ x0 + (600 - x3) + 9 := by omega
theorem la_unary_108 {x0 x1 x2 x3 x4 x5 x6 x7 : Int} (h0 : 0 ≤ x0 → x1 ≤ x2) (h1 : x3 = x4) (h2 : (0 ≤ x5 → x6 < x7) → x4 = x5) (h3 : x7 = x2 + 1) (h4 : x5 = x0) (h5 : x6 = x1) (h6 : 0 ≤ x3) : x3 = x5 := by omega
theorem la_unary_109 {x0 x1 x2 x3 x4 x5 x6 x7 x8 x9 x10 x11 : Int} (h0 : 0 ≤ x0 → x1 ≤ x2) (h1 : x3 = x4 + x5) (h2 : x5 = (-1)) (h3 : x6 = x7) (h4 : (0 ≤ x8 → x9 < x4) → x7 = x8) (h5 : x4 = x2 + 1) (h6 : x8 = x0) (h7 : x9 = x1) (h8 : 0 ≤ x6) (h9 : x10 = x11) (h10 : x11 = x9) : x10 ≤ x3 := by omega
theorem la_unary_110 {x0 x1 x2 x3 x4 : Int} (h0 : x0 = x1) (h1 : x1 = x2) (h2 : x2 = x3) (h3 : x3 = x4) : x0 = x4 := by omega
theorem la_unary_111 {x0 x1 x2 x3 x4 x5 x6 x7 : Int} (h0 : 0 ≤ x0 → x1 ≤ x2) (h1 : (-1) ≤ x3) (h2 : x3 = x4) (h3 : (0 ≤ x5 → x6 < x7) → x4 = x5) (h4 : x7 = x2 + 1) (h5 : x5 = x0) (h6 : x6 = x1) : x3 = x5 := by omega
theorem la_unary_112 {x0 x1 x2 x3 x4 x5 x6 x7 x8 x9 : Int} (h0 : 0 ≤ x0 → x1 ≤ x2) (h1 : (-1) ≤ x3) (h2 : x3 = x4) (h3 : x4 = x5) (h4 : x5 = x6) (h5 : (0 ≤ x7 → x8 < x9) → x6 = x7) (h6 : x9 = x2 + 1) (h7 : x7 = x0) (h8 : x8 = x1) : x3 = x7 := by omega
theorem la_unary_113 {x0 x1 x2 x3 x4 : Int} (h0 : x0 = x1) (h1 : x2 = x3) (h2 : x1 = x4) (h3 : x4 = x2) : x0 = x3 := by omega
theorem la_unary_114 {x0 x1 x2 x3 x4 x5 x6 x7 x8 x9 x10 x11 x12 x13 : Int} (h0 : 0 ≤ x0) (h1 : 0 ≤ x1 → x2 ≤ x0) (h2 : 0 ≤ x3 → x4 ≤ x0) (h3 : ¬ ¬ x5 = 4) (h4 : ¬ 5 ≤ x5) (h5 : x6 = x0 + 1) (h6 : x7 = x1) (h7 : x8 = x3) (h8 : x9 = x2) (h9 : x10 = x4) (h10 : x11 = 0) (h11 : x12 = x7) (h12 : x13 = x8) : (0 ≤ x5 ∧ x5 ≤ 4) ∧ (0 ≤ x6 - 1 ∧ (0 ≤ x7 → x9 ≤ x6 - 1) ∧ (0 ≤ x8 → x10 ≤ x6 - 1)) ∧ x6 + x11 = x6 ∧ x12 = x7 ∧ x13 = x8 := by omega
theorem la_unary_115 {x0 x1 x2 x3 : Int} (h0 : 0 ≤ x0) (h1 : x1 ≤ x2) (h2 : x2 ≤ x1 + 3 * (600 - x3) + x0) : 0 + 1 ≤ x0 + (600 - x3) + 9 := by omega
theorem la_unary_116 {x0 : Int} (h0 : ¬ ¬ x0 = 2) : ¬ x0 = 3 := by omega
theorem la_unary_117 {x0 : Int} (h0 : ¬ ¬ x0 = 2) : ¬ (x0 = 4 ∨ x0 = 5 ∨ x0 = 8 ∨ x0 = 9) := by omega
theorem la_unary_118 {x0 : Int} (h0 : 0 ≤ x0) (h1 : ¬ x0 = 0) : 0 < x0 := by omega
theorem la_unary_119 {x0 : Int} (h0 : ¬ ¬ x0 = 2) : x0 = 2 := by omega
theorem la_unary_120 {x0 x1 : Int} (h0 : x0 ≤ 12000) (h1 : 0 ≤ x1) (h2 : x1 < x0) : 0 ≤ x1 ∧ x1 < 12000 ∧ (0 : Int) ≤ 0 ∧ (0 : Int) ≤ 4 := by omega
theorem la_unary_121 : (1 : Int) = 1 ∧ ((5 : Int) = 3 ∨ (5 : Int) = 5) ∨ (1 : Int) = 2 ∧ (5 : Int) = 4 := by omega
theorem la_unary_122 {x0 : Int} : 5 * x0 + 0 = 5 * x0 := by omega
theorem la_unary_123 {x0 x1 : Int} (h0 : 0 ≤ x0) (h1 : x1 = x0) : 0 ≤ x1 := by omega
theorem la_unary_124 {x0 x1 x2 : Int} (h0 : x0 < x1) (h1 : x2 = x0) : x2 < x1 := by omega
theorem la_unary_125 {x0 x1 x2 x3 x4 : Int} (h0 : 0 ≤ x0 → x1 ≤ x2) (h1 : 0 ≤ x3 → x4 ≤ x2) : (1 : Int) = 1 → (0 ≤ x0 → x1 ≤ x2) ∧ (0 ≤ x3 → x4 ≤ x2) := by omega
theorem la_unary_126 {x0 : Int} (h0 : (1 : Int) = 2) : 1 ≤ x0 := by omega
theorem la_unary_127 {x0 x1 x2 : Int} (h0 : (1 : Int) = 2) : 0 ≤ x0 → x1 ≤ x2 - 1 := by omega
theorem la_unary_128 {x0 : Int} (h0 : (1 : Int) = 2) : 0 ≤ x0 := by omega
theorem la_unary_129 {x0 x1 : Int} (h0 : (1 : Int) = 2) : x0 ≤ x1 - 1 := by omega
theorem la_unary_130 : (1 : Int) = 1 := by omega
theorem la_unary_131 {x0 : Int} (h0 : 1 ≤ x0) (h1 : x0 ≤ 600) : 0 ≤ x0 - 1 ∧ x0 - 1 < 600 := by omega
theorem la_unary_132 {x0 : Int} : x0 ≤ x0 := by omega
theorem la_unary_133 {x0 : Int} : x0 = x0 := by omega
theorem la_unary_134 {x0 x1 : Int} : x0 = 1 → x1 = x1 := by omega
theorem la_unary_135 {x0 x1 x2 x3 : Int} (h0 : x0 ≤ 600) (h1 : 0 ≤ x1) : x2 = 0 → x3 ≤ x3 + 3 * (600 - x0) + x1 := by omega
theorem la_unary_136 {x0 x1 x2 : Int} (h0 : x0 ≤ x1) (h1 : x2 = x1 + 1) : x0 ≤ x2 := by omega
theorem la_unary_137 {x0 x1 : Int} (h0 : x0 = x1 + 1) : x1 + 1 ≤ x0 := by omega
theorem la_unary_138 {x0 x1 x2 : Int} (h0 : x0 ≤ 1) (h1 : x0 = 1) (h2 : x1 = x2 + x0) : x1 = x2 + 1 := by omega
theorem la_unary_139 {x0 x1 x2 x3 : Int} (h0 : 0 ≤ x0) (h1 : x1 = x2 + 1) : 2 * x3 ≤ 2 * x3 + (x1 - x2) + 8 * x0 + 10 := by omega
theorem la_unary_140 {x0 x1 x2 : Int} (h0 : x0 = x1 + 1) : x2 ≤ x2 + 3 * (x0 - x1) := by omega
theorem la_unary_141 {x0 x1 x2 x3 x4 x5 x6 x7 x8 x9 x10 x11 x12 x13 : Int} (h0 : 0 ≤ x0) (h1 : 0 ≤ x1 → x2 ≤ x0) (h2 : 0 ≤ x3 → x4 ≤ x0) (h3 : x5 = 1) (h4 : x6 = x0 + x5) (h5 : x7 = x1) (h6 : x8 = x3) (h7 : x9 = x2) (h8 : x10 = x4) (h9 : x11 = 0) (h10 : x12 = x7) (h11 : x13 = x8) : ((0 : Int) ≤ 4 ∧ (4 : Int) ≤ 4) ∧ (0 ≤ x6 - 1 ∧ (0 ≤ x7 → x9 ≤ x6 - 1) ∧ (0 ≤ x8 → x10 ≤ x6 - 1)) ∧ x6 + x11 = x6 ∧ x12 = x7 ∧ x13 = x8 := by omega
theorem la_unary_142 {x0 x1 x2 : Int} : (21 : Int) ≤ 13 ∧ (13 : Int) ≤ 24 ∨ (13 : Int) = 27 ∨ (13 : Int) = 30 → (0 : Int) ≤ 4 ∧ 4 < x0 ∧ x1 = x2 := by omega
theorem la_unary_143 {x0 x1 : Int} (h0 : (13 : Int) = 2) : x0 - 1 < x1 := by omega
theorem la_unary_144 {x0 : Int} (h0 : (13 : Int) = 2) : x0 < x0 := by omega
theorem la_unary_145 {x0 : Int} (h0 : (13 : Int) = 2) : ¬ x0 = 1 := by omega
theorem la_unary_146 {x0 x1 : Int} (h0 : (13 : Int) = 2) : x0 = x1 - 1 := by omega
theorem la_unary_147 {x0 x1 x2 x3 : Int} (h0 : x0 ≤ x1) (h1 : x2 = x3 + 1) (h2 : x3 = x1 + 1) : x0 ≤ x2 := by omega
theorem la_unary_148 {x0 x1 x2 : Int} (h0 : x0 = x1 + 1) (h1 : x1 = x2 + 1) : x2 + 1 ≤ x0 := by omega
theorem la_unary_149 {x0 x1 x2 x3 x4 : Int} (h0 : x0 = 1) (h1 : x1 = x2 + x3) (h2 : x3 = 0) (h3 : x2 = x4 + x0) : x1 = x4 + 1 := by omega
theorem la_unary_150 {x0 x1 x2 x3 x4 : Int} (h0 : 0 ≤ x0) (h1 : x1 = x2 + 1) (h2 : x2 = x3 + 1) : 2 * x4 ≤ 2 * x4 + (x1 - x3) + 8 * x0 + 10 := by omega
theorem la_unary_151 {x0 x1 x2 x3 x4 x5 : Int} (h0 : 0 ≤ x0) (h1 : x1 ≤ 1) (h2 : x2 = x3 + 1) (h3 : x3 = x4 + 1) : 2 * (x5 + x1) ≤ 2 * x5 + (x2 - x4) + 8 * x0 + 10 := by omega
theorem la_unary_152 {x0 x1 x2 x3 : Int} (h0 : x0 = x1 + 1) (h1 : x1 = x2 + 1) : x3 ≤ x3 + 3 * (x0 - x2) := by omega
theorem la_unary_153 {x0 : Int} (h0 : ¬ ¬ x0 = 6) : x0 = 6 := by omega
theorem la_unary_154 {x0 : Int} (h0 : x0 = 7) : ¬ x0 = 3 := by omega
theorem la_unary_155 {x0 : Int} (h0 : x0 = 7) : ¬ (x0 = 4 ∨ x0 = 5 ∨ x0 = 8 ∨ x0 = 9) := by omega
theorem la_unary_156 {x0 x1 x2 : Int} (h0 : x0 ≤ 12000) (h1 : x1 < x0) (h2 : 0 ≤ x2) (h3 : x2 < x1) : 0 ≤ x1 ∧ x1 < 12000 ∧ (0 : Int) ≤ 0 ∧ (0 : Int) ≤ 4 := by omega
theorem la_unary_157 {x0 x1 x2 x3 : Int} (h0 : x0 < x1) (h1 : x2 < x0) (h2 : x3 = x2) : x3 < x1 := by omega
theorem la_unary_158 {x0 x1 : Int} (h0 : x0 = 1) (h1 : x1 = x0) : x1 = 1 := by omega
theorem la_unary_159 {x0 x1 x2 x3 x4 x5 : Int} (h0 : x0 ≤ x1) (h1 : x2 < x3) (h2 : x4 = x0) (h3 : x5 = x2) : 12001 * x4 + x5 ≤ 12001 * x1 + x3 := by omega
theorem la_unary_160 {x0 x1 x2 x3 x4 : Int} (h0 : x0 + 3 * (600 - x1) + x2 ≤ 8000) (h1 : x3 ≤ x2) (h2 : x4 = x3) : x0 + 3 * (600 - x1) + x4 ≤ 8000 := by omega
theorem la_unary_161 {x0 x1 x2 x3 : Int} (h0 : x0 ≤ 600) (h1 : 0 ≤ x1) (h2 : x2 = x1) (h3 : x3 = x2 + (600 - x0) + 8) : 0 ≤ x3 := by omega
theorem la_unary_162 {x0 x1 x2 x3 x4 x5 : Int} (h0 : x0 + (600 - x1) + 9 = x2) (h1 : x3 ≤ x0) (h2 : x4 = x3) (h3 : x5 = x4 + (600 - x1) + 8) : x5 < x2 := by omega
theorem la_unary_163 {x0 x1 x2 x3 x4 : Int} (h0 : x0 ≤ x1) (h1 : x2 = x0) (h2 : x3 = x2 + (600 - x4) + 8) : x3 + 1 ≤ x1 + (600 - x4) + 9 := by omega
theorem la_unary_164 {x0 x1 x2 : Int} (h0 : x0 ≤ 12000) (h1 : x1 < x0) (h2 : 0 ≤ x2) (h3 : x2 < x1) : 0 ≤ x1 ∧ x1 < 12000 ∧ (0 : Int) ≤ 1 ∧ (1 : Int) ≤ 4 := by omega
theorem la_unary_165 {x0 x1 : Int} (h0 : x0 = x1) : x0 ≤ x1 := by omega
theorem la_unary_166 {x0 x1 x2 x3 : Int} (h0 : x0 ≤ x1 - 1) (h1 : x2 < x3) : 12001 * x0 + x2 ≤ 12001 * x1 + x3 := by omega
theorem la_unary_167 {x0 x1 x2 x3 x4 x5 : Int} (h0 : 0 ≤ x0 → x1 ≤ x2) (h1 : x3 = x2 + 1) (h2 : x4 = x0) (h3 : x5 = x1) : 0 ≤ x4 → x5 ≤ x3 := by omega
theorem la_unary_168 {x0 x1 x2 x3 : Int} (h0 : x0 ≤ x1) (h1 : x1 + 1 ≤ x2) (h2 : x3 = x0 + 1) : x3 ≤ x2 := by omega
theorem la_unary_169 {x0 x1 x2 x3 x4 x5 : Int} (h0 : x0 + 3 * (600 - x1) + x2 ≤ 8000) (h1 : x3 ≤ x2 - 1) (h2 : x4 ≤ x0 + 3 * (x5 - x1)) : x4 + 3 * (600 - x5) + x3 ≤ 8000 := by omega
theorem la_unary_170 {x0 x1 x2 : Int} (h0 : 0 ≤ x0) (h1 : x1 ≤ 600) (h2 : x2 = x0 + (600 - x1) + 8) : 0 ≤ x2 := by omega
theorem la_unary_171 {x0 : Int} (h0 : x0 = 4) : 0 ≤ x0 := by omega
theorem la_unary_172 {x0 x1 x2 x3 x4 x5 : Int} (h0 : x0 + (600 - x1) + 9 = x2) (h1 : x3 ≤ x0 - 1) (h2 : x4 = x3 + (600 - x5) + 8) (h3 : x1 + 1 ≤ x5) : x4 < x2 := by omega
theorem la_unary_173 {x0 x1 x2 x3 x4 : Int} (h0 : x0 ≤ 600) (h1 : x1 + (600 - x0) + 9 = x2) (h2 : x3 ≤ x1 - 1) (h3 : 0 ≤ x3) (h4 : x4 = 4) : x4 < x2 := by omega
theorem la_unary_174 {x0 x1 x2 x3 x4 : Int} (h0 : x0 ≤ x1 - 1) (h1 : x2 = x0 + (600 - x3) + 8) (h2 : x4 + 1 ≤ x3) : x2 + 1 ≤ x1 + (600 - x4) + 9 := by omega
theorem la_unary_175 {x0 x1 x2 : Int} (h0 : x0 ≤ 600) (h1 : 0 ≤ x1) (h2 : x2 = 4) : x2 + 1 ≤ x1 + (600 - x0) + 9 := by omega
theorem la_unary_176 : (0 : Int) ≤ 12 := by omega
theorem la_unary_177 : (12 : Int) ≤ 30 := by omega
theorem la_unary_178 {x0 x1 x2 x3 x4 x5 x6 x7 x8 x9 x10 x11 x12 x13 x14 x15 x16 x17 : Int} (h0 : 0 ≤ x0) (h1 : 0 ≤ x1 → x2 ≤ x0) (h2 : 0 ≤ x3 → x4 ≤ x0) (h3 : x5 = x6 + 1) (h4 : x7 = x8) (h5 : x9 = x10) (h6 : x11 = x12) (h7 : x13 = x14) (h8 : x6 = x0 + 1) (h9 : x8 = x1) (h10 : x10 = x3) (h11 : x12 = x2) (h12 : x14 = x4) (h13 : x15 = (-1)) (h14 : x16 = x7) (h15 : x17 = x9) : (0 ≤ x5 - 2 ∧ (0 ≤ x7 → x11 ≤ x5 - 2) ∧ (0 ≤ x9 → x13 ≤ x5 - 2)) ∧ x5 + x15 = x5 - 1 ∧ x16 = x7 ∧ x17 = x9 := by omega
theorem la_unary_179 {x0 x1 x2 : Int} : (21 : Int) ≤ 12 ∧ (12 : Int) ≤ 24 ∨ (12 : Int) = 27 ∨ (12 : Int) = 30 → (0 : Int) ≤ 0 ∧ 0 < x0 ∧ x1 = x2 := by omega
theorem la_unary_180 : ¬ (12 : Int) = 1 := by omega
theorem la_unary_181 {x0 x1 : Int} (h0 : (12 : Int) = 2) : x0 < x1 + 1 := by omega
theorem la_unary_182 {x0 : Int} (h0 : (12 : Int) = 2) : 0 ≤ x0 := by omega
theorem la_unary_183 {x0 : Int} (h0 : (12 : Int) = 2) : x0 = 4 ∨ x0 = 5 ∨ x0 = 8 ∨ x0 = 9 := by omega
theorem la_unary_184 {x0 : Int} (h0 : (12 : Int) = 2) : x0 = 3 := by omega
theorem la_unary_185 {x0 x1 : Int} (h0 : (12 : Int) = 2) : x0 = x1 := by omega
theorem la_unary_186 {x0 x1 : Int} (h0 : (12 : Int) = 2) : 5 * x0 + 1 = 5 * x1 := by omega
theorem la_unary_187 {x0 x1 : Int} (h0 : (12 : Int) = 2) : 5 * x0 + 1 = 5 * x1 + 1 := by omega
theorem la_unary_188 {x0 x1 : Int} (h0 : (12 : Int) = 2) : 5 * x0 + 0 = 5 * x1 + 1 := by omega
theorem la_unary_189 {x0 : Int} (h0 : (12 : Int) = 2) : 5 * x0 + 1 = 5 * x0 := by omega
theorem la_unary_190 {x0 : Int} (h0 : (12 : Int) = 2) : 5 * x0 + 1 = 5 * x0 + 0 := by omega
theorem la_unary_191 (h0 : (12 : Int) = 2) : False := by omega
theorem la_unary_192 {x0 x1 : Int} (h0 : x0 = x1) : x1 ≤ x0 := by omega
theorem la_unary_193 {x0 x1 x2 : Int} (h0 : x0 = 0) : x0 = 1 → x1 = x2 := by omega
theorem la_unary_194 {x0 : Int} (h0 : x0 = 1) : ¬ x0 = 0 := by omega
theorem la_unary_195 {x0 x1 x2 x3 x4 x5 x6 : Int} (h0 : x0 ≤ x1) (h1 : x2 = x0) (h2 : x3 ≤ x4 + 3 * (600 - x5) + x2) (h3 : x6 = x3) : x6 ≤ x4 + 3 * (600 - x5) + x1 := by omega
theorem la_unary_196 {x0 : Int} (h0 : 0 ≤ x0) (h1 : x0 < 1) : x0 = 0 := by omega
theorem la_unary_197 {x0 x1 x2 x3 x4 x5 x6 : Int} (h0 : x0 ≤ x1 - 1) (h1 : x2 ≤ x3 + 3 * (x4 - x5)) (h2 : x6 ≤ x2 + 3 * (600 - x4) + x0) : x6 ≤ x3 + 3 * (600 - x5) + x1 := by omega
theorem la_unary_198 : ¬ (12 : Int) = 29 := by omega
theorem la_unary_199 : ¬ (12 : Int) = 17 := by omega
theorem la_unary_200 {x0 x1 x2 : Int} : (12 : Int) = 17 → 0 ≤ x0 → x1 < x2 := by omega
theorem la_unary_201 {x0 x1 x2 x3 : Int} (h0 : x0 = x1 + 1) (h1 : x2 + 1 ≤ x1) (h2 : x3 + 1 ≤ x2) : x3 + 1 ≤ x0 := by omega
theorem la_unary_202 {x0 x1 x2 : Int} (h0 : x0 + 1 ≤ x1) (h1 : x2 + 1 ≤ x0) : x2 < x1 := by omega
theorem la_unary_203 {x0 x1 x2 x3 x4 : Int} (h0 : x0 = x1 + x2) (h1 : x2 = (-1)) (h2 : x1 = x3 + 1) (h3 : x3 = x4 + 1) : x0 = x4 + 1 := by omega
theorem la_unary_204 {x0 x1 x2 x3 : Int} (h0 : x0 = x1) (h1 : x2 = x0) (h2 : x1 = x3) : x2 = x3 := by omega
theorem la_unary_205 {x0 x1 x2 : Int} (h0 : x0 + 1 ≤ x1) (h1 : x2 + 1 ≤ x0) : x2 < x1 + 1 := by omega
theorem la_unary_206 {x0 x1 x2 x3 x4 x5 : Int} (h0 : 0 ≤ x0) (h1 : x1 = x2 + 1) (h2 : x3 + 1 ≤ x2) (h3 : x4 + 1 ≤ x3) : 2 * x5 ≤ 2 * x5 + (x1 - x4) + 8 * x0 + 10 := by omega
theorem la_unary_207 {x0 x1 x2 : Int} (h0 : x0 + 1 ≤ x1) (h1 : x2 + 1 ≤ x0) : x2 + 1 < x1 + 1 := by omega
theorem la_unary_208 {x0 x1 x2 x3 x4 x5 x6 x7 : Int} (h0 : x0 ≤ x1) (h1 : x2 = x0) (h2 : x3 = x4 + 1) (h3 : x5 + 1 ≤ x4) : 2 * x6 + (x5 - x7) + 8 * x2 + 10 ≤ 2 * x6 + (x3 - x7) + 8 * x1 + 10 := by omega
theorem la_unary_209 {x0 x1 : Int} (h0 : x0 + 1 ≤ x1) : x0 ≤ x1 + 1 := by omega
theorem la_unary_210 {x0 x1 x2 x3 x4 x5 x6 : Int} (h0 : 0 ≤ x0) (h1 : x1 = x2 + 1) (h2 : x3 + 1 ≤ x2) (h3 : x4 + 1 ≤ x3) (h4 : x5 = x6 + 1) : 2 * x5 ≤ 2 * x6 + (x1 - x4) + 8 * x0 + 10 := by omega
theorem la_unary_211 {x0 x1 x2 x3 x4 x5 x6 x7 : Int} (h0 : x0 ≤ x1) (h1 : x2 = x3 + 1) (h2 : x4 + 1 ≤ x5) (h3 : x6 = x7 + 1) : 2 * x6 + (x3 - x5) + 8 * x0 + 10 ≤ 2 * x7 + (x2 - x4) + 8 * x1 + 10 := by omega
theorem la_unary_212 {x0 x1 x2 x3 x4 x5 x6 x7 : Int} (h0 : 0 ≤ x0) (h1 : x1 = x2 + 1) (h2 : x3 + 1 ≤ x2) (h3 : x4 = x5 + 1) (h4 : x6 + 1 ≤ x3) (h5 : x5 = x7 + 1) : 2 * x4 ≤ 2 * x7 + (x1 - x6) + 8 * x0 + 10 := by omega
theorem la_unary_213 {x0 x1 x2 x3 x4 x5 x6 : Int} (h0 : x0 = x1 + 1) (h1 : x2 ≤ x3 + 3 * (x1 - x4)) (h2 : x3 ≤ x5 + 3 * (x4 - x6)) : x2 ≤ x5 + 3 * (x0 - x6) := by omega
set_option maxHeartbeats 16000000 in
theorem f_unary : ∀ (d : Int) (p1 : Int) (p2 : Int) (S : sv_S), sm_ok S → sv_R p1 → sv_R p2 → (sm_WF (S 11) (S 12) (S 13) (S 1100001) (S 1100002) (S 1100005) (S 1100003) (S 1100004) (S 1024 0) (S 1007 0) (S 1009 0) (sm_fn (S 1032 0) (S 21) (S 1056 0)) ∧ (S 1009 0) = 0 ∧ 0 ≤ (S 1007 0) ∧ (S 1007 0) ≤ 90 ∧ 0 ≤ (S 1024 0) ∧ (S 1024 0) ≤ 12000 ∧ 1 ≤ (S 1032 0) ∧ (S 1032 0) ≤ 11 ∧ 0 ≤ (S 1056 0) ∧ (S 1056 0) < (S 1032 0) ∧ sm_VB (S 33) (S 21) (S 1032 0) ∧ 0 ≤ (S 1046 0) ∧ (S 1046 0) ≤ 600 ∧ 0 ≤ (S 1047 0) ∧ (S 1047 0) ≤ 1 ∧ 0 ≤ (S 1053 0) ∧ 0 ≤ (S 1066 0) ∧ 0 ≤ p1 ∧ p1 ≤ 6 ∧ 0 ≤ p2 ∧ p2 < (S 1024 0) ∧ (S 1100001 p2) = 1 ∧ (p1 = 6 → (S 11 p2) = 7) ∧ sm_LF (S 39) (S 1100002) (S 1066 0) (S 1024 0) (12001 * (S 1100002 p2) + p2) ∧ (S 1047 0) = 0 ∧ sm_KC (S 26) (S 27) (S 28) (S 29) (S 1100007) (S 1100023) (S 1100024) (S 1100025) (S 31) (S 1100009) (S 1100027) (S 1100028) (S 1100026) (S 1100030) (S 21) (S 32) (S 33) (S 1046 0) (S 1053 0) (S 1056 0) (S 1032 0) (S 1007 0) (S 1100033 0) ∧ (S 1100033 0) = (S 1055 0) ∧ 0 ≤ (S 1055 0) ∧ (S 1055 0) ≤ (S 1046 0) ∧ (0 ≤ (S 1100023 (S 1046 0)) → (S 1100007 (S 1100023 (S 1046 0))) ≤ (S 1100007 (S 1046 0))) ∧ (0 ≤ (S 1100025 (S 1046 0)) → (S 1100007 (S 1100025 (S 1046 0))) ≤ (S 1100007 (S 1046 0))) ∧ (S 1100007 (S 1046 0)) ≤ (S 1046 0) ∧ (S 1053 0) + 3 * (600 - (S 1046 0)) + (S 1100002 p2) ≤ 8000) → ((S 1100002 p2) + (600 - (S 1046 0)) + 9) = d → ((sm_WF (S 11) (S 12) (S 13) (S 1100001) (S 1100002) (S 1100005) (S 1100003) (S 1100004) (S 1024 0) (S 1007 0) (S 1009 0) (sm_fn (S 1032 0) (S 21) (S 1056 0)) → 0 ≤ p2 → p2 < (S 1024 0) → ((S 1100001 (p2)) = 1 → 0 ≤ (S 1100002 (p2)) ∧ ((S 11 (p2)) = 3 → (S 12 (5 * (p2) + 1)) < (p2)) ∧ ((S 11 (p2)) = 4 ∨ (S 11 (p2)) = 5 ∨ (S 11 (p2)) = 8 ∨ (S 11 (p2)) = 9 → 17 * (S 1100005 (p2)) + 2 ≤ (S 1100002 (p2))) ∧ 0 ≤ (S 1100005 (p2))) ∧ ((S 1100001 (p2)) = 2 → 0 ≤ (S 1100005 (p2)) ∧ (S 1100002 (p2)) ≤ 17 * (S 1100005 (p2)) + 5 ∧ ((S 11 (p2)) = 33 → 1 ≤ (S 1100005 (p2)))) ∧ ((S 1100001 (p2)) = 6 → 0 ≤ (S 1100002 (p2)) ∧ 1 ≤ (S 1100004 (p2)) ∧ ((S 12 (5 * (p2))) = - 1 → (S 1100004 (p2)) = 2)) ∧ ((S 1100001 (p2)) = 3 → 1 ≤ (S 1100002 (p2)))) → (((¬ p1 = (6 : Int)) → (((¬ p1 = (4 : Int)) → (sm_WF (S 11) (S 12) (S 13) (S 1100001) (S 1100002) (S 1100005) (S 1100003) (S 1100004) (S 1024 0) (S 1007 0) (S 1009 0) (sm_fn (S 1032 0) (S 21) (S 1056 0)) ∧ (S 1009 0) = 0 ∧ 0 ≤ (S 1007 0) ∧ (S 1007 0) ≤ 90 ∧ 0 ≤ (S 1024 0) ∧ (S 1024 0) ≤ 12000 ∧ 1 ≤ (S 1032 0) ∧ (S 1032 0) ≤ 11 ∧ 0 ≤ (S 1056 0) ∧ (S 1056 0) < (S 1032 0) ∧ sm_VB (S 33) (S 21) (S 1032 0) ∧ 0 ≤ (S 1046 0) ∧ (S 1046 0) ≤ 600 ∧ 0 ≤ (S 1047 0) ∧ (S 1047 0) ≤ 1 ∧ 0 ≤ (S 1053 0) ∧ 0 ≤ (S 1066 0) ∧ 0 ≤ p2 ∧ p2 < (S 1024 0) ∧ (S 1100001 p2) = 1 ∧ sm_LF (S 39) (S 1100002) (S 1066 0) (S 1024 0) (12001 * (S 1100002 p2) + p2) ∧ ((S 1047 0) = 0 → sm_KC (S 26) (S 27) (S 28) (S 29) (S 1100007) (S 1100023) (S 1100024) (S 1100025) (S 31) (S 1100009) (S 1100027) (S 1100028) (S 1100026) (S 1100030) (S 21) (S 32) (S 33) (S 1046 0) (S 1053 0) (S 1056 0) (S 1032 0) (S 1007 0) (S 1100033 0) ∧ (S 1100033 0) = (S 1055 0) ∧ 0 ≤ (S 1055 0) ∧ (S 1055 0) ≤ (S 1046 0) ∧ (0 ≤ (S 1100023 (S 1046 0)) → (S 1100007 (S 1100023 (S 1046 0))) ≤ (S 1100007 (S 1046 0))) ∧ (0 ≤ (S 1100025 (S 1046 0)) → (S 1100007 (S 1100025 (S 1046 0))) ≤ (S 1100007 (S 1046 0))) ∧ (S 1100007 (S 1046 0)) ≤ (S 1046 0) ∧ (S 1053 0) + 3 * (600 - (S 1046 0)) + (S 1100002 p2) ≤ 8000)) ∧ (0 ≤ ((if (S 1047 0) = 0 then (S 1100002 p2) + (600 - (S 1046 0)) + 8 else 4)) ∧ ((if (S 1047 0) = 0 then (S 1100002 p2) + (600 - (S 1046 0)) + 8 else 4)) < d) ∧ (0 ≤ ((if (S 1047 0) = 0 then (S 1100002 p2) + (600 - (S 1046 0)) + 8 else 4)) ∧ ((if (S 1047 0) = 0 then (S 1100002 p2) + (600 - (S 1046 0)) + 8 else 4)) + 1 ≤ ((S 1100002 p2) + (600 - (S 1046 0)) + 9)) ∧ (∀ g5 : sv_S, (0 ≤ (g5 1046 0) ∧ (g5 1046 0) ≤ 600 ∧ 0 ≤ (g5 1047 0) ∧ (g5 1047 0) ≤ 1 ∧ 0 ≤ (g5 1053 0) ∧ 0 ≤ (g5 1066 0) ∧ (S 1046 0) ≤ (g5 1046 0) ∧ ((S 1047 0) = 1 → (g5 1047 0) = 1) ∧ sm_F1 (S 26) (g5 26) (S 1046 0) ∧ sm_F1 (S 27) (g5 27) (S 1046 0) ∧ sm_F1 (S 28) (g5 28) (S 1046 0) ∧ sm_F1 (S 29) (g5 29) (S 1046 0) ∧ sm_F1 (S 1100007) (g5 1100007) ((S 1046 0) + 1) ∧ sm_F1 (S 1100023) (g5 1100023) ((S 1046 0) + 1) ∧ sm_F1 (S 1100024) (g5 1100024) ((S 1046 0) + 1) ∧ sm_F1 (S 1100025) (g5 1100025) ((S 1046 0) + 1) ∧ sm_F1 (S 1100009) (g5 1100009) (S 1053 0) ∧ sm_F1 (S 1100027) (g5 1100027) (S 1053 0) ∧ sm_F1 (S 1100028) (g5 1100028) (S 1053 0) ∧ sm_F1 (S 1100026) (g5 1100026) (S 1053 0) ∧ sm_F1 (S 1100030) (g5 1100030) (S 1053 0) ∧ sm_F1 (S 31) (g5 31) (S 1053 0) ∧ (S 1053 0) ≤ (g5 1053 0) ∧ (g5 1066 0) = (S 1066 0) ∧ sm_F1 (S 39) (g5 39) (S 1066 0) ∧ ((S 1047 0) = 1 → (g5 1053 0) = (S 1053 0)) ∧ ((S 1047 0) = 0 → (g5 1053 0) ≤ (S 1053 0) + 3 * (600 - (S 1046 0)) + (S 1100002 p2)) ∧ ((g5 1047 0) = 0 → (S 1047 0) = 0 ∧ sm_KC (g5 26) (g5 27) (g5 28) (g5 29) (g5 1100007) (g5 1100023) (g5 1100024) (g5 1100025) (g5 31) (g5 1100009) (g5 1100027) (g5 1100028) (g5 1100026) (g5 1100030) (S 21) (S 32) (S 33) (g5 1046 0) (g5 1053 0) (S 1056 0) (S 1032 0) (S 1007 0) (g5 1100033 0) ∧ (g5 1100033 0) = (g5 1055 0) ∧ 0 ≤ (g5 1055 0) ∧ (g5 1055 0) ≤ (g5 1046 0) ∧ (S 1046 0) + 1 ≤ (g5 1046 0) ∧ sm_FC (g5 29) (S 1046 0) (g5 1046 0) (S 1056 0) ∧ (g5 1100007 (g5 1046 0)) = (S 1100007 (S 1046 0)) + 1 ∧ (g5 1100023 (g5 1046 0)) = (S 1100023 (S 1046 0)) ∧ (g5 1100024 (g5 1046 0)) = (S 1100024 (S 1046 0)) ∧ (g5 1100025 (g5 1046 0)) = (S 1100025 (S 1046 0)) ∧ (g5 1100007 (g5 1100023 (g5 1046 0))) = (S 1100007 (S 1100023 (S 1046 0))) ∧ (g5 1100007 (g5 1100025 (g5 1046 0))) = (S 1100007 (S 1100025 (S 1046 0))) ∧ sm_AP (g5 1100030) (S 1053 0) (g5 1053 0) ∧ sm_HB (g5 1100007) (S 1046 0) (g5 1046 0) (2 * (S 1100007 (S 1046 0)) + ((g5 1046 0) - (S 1046 0)) + 8 * (S 1100005 p2) + 10) ∧ (g5 1053 0) ≤ (S 1053 0) + 3 * ((g5 1046 0) - (S 1046 0)) ∧ True)) → ((((5 : Int) ≤ p1) → (0 ≤ (g5 1046 0) ∧ (g5 1046 0) ≤ 600 ∧ 0 ≤ (g5 1047 0) ∧ (g5 1047 0) ≤ 1 ∧ ((g5 1047 0) = 0 → sm_KC (g5 26) (g5 27) (g5 28) (g5 29) (g5 1100007) (g5 1100023) (g5 1100024) (g5 1100025) (g5 31) (g5 1100009) (g5 1100027) (g5 1100028) (g5 1100026) (g5 1100030) (S 21) (S 32) (S 33) (g5 1046 0) (g5 1053 0) (S 1056 0) (S 1032 0) (S 1007 0) (g5 1100033 0) ∧ 0 ≤ (17 : Int) ∧ (17 : Int) ≤ 30 ∧ sm_ci (17 : Int) ((0 : Int)) ((0 : Int)) (g5 1100007 (g5 1046 0)) (g5 1100023 (g5 1046 0)) (g5 1100024 (g5 1046 0)) (g5 1100025 (g5 1046 0)) (g5 1100007 (g5 1100023 (g5 1046 0))) (g5 1100007 (g5 1100025 (g5 1046 0))) (g5 1100023 (g5 1100023 (g5 1046 0))) (g5 1100025 (g5 1100025 (g5 1046 0))) (g5 1046 0) (g5 1100033 0) (S 1032 0) (S 1007 0) (S 21 (0 : Int)) (S 1056 0) ((g5 1100007 (g5 1046 0)) + sm_dl (17 : Int) ((0 : Int))) (sm_nt (17 : Int) (g5 1046 0) (g5 1100023 (g5 1046 0)) (g5 1100023 (g5 1100023 (g5 1046 0)))) (sm_nl (17 : Int) (g5 1046 0) (g5 1100007 (g5 1046 0)) (g5 1100025 (g5 1046 0)) (g5 1100007 (g5 1100025 (g5 1046 0))) (g5 1100025 (g5 1100025 (g5 1046 0)))) (g5 1100009 (0 : Int)) (g5 1100027 (0 : Int)) (g5 1100028 (0 : Int)) ∧ ((21 ≤ (17 : Int) ∧ (17 : Int) ≤ 24) ∨ (17 : Int) = 27 ∨ (17 : Int) = 30 → 0 ≤ (0 : Int) ∧ (0 : Int) < (g5 1053 0) ∧ (g5 1100026 (0 : Int)) = (S 1056 0)) ∧ ((17 : Int) = 1 ∨ (17 : Int) = 2 → sm_vv (S 21) (S 32) (S 33) (S 1056 0) (0 : Int) (0 : Int)))) ∧ (1 + 1 ≤ ((S 1100002 p2) + (600 - (S 1046 0)) + 9)) ∧ (∀ g12 : sv_S, (0 ≤ (g12 1047 0) ∧ (g12 1047 0) ≤ 1 ∧ 1 ≤ (g12 1046 0) ∧ (g5 1046 0) ≤ (g12 1046 0) ∧ (g12 1046 0) ≤ (g5 1046 0) + 1 ∧ (g12 1046 0) ≤ 600 ∧ ((g5 1047 0) = 1 → (g12 1047 0) = 1) ∧ ((g12 1047 0) = 1 → (g5 1047 0) = 1 ∨ (g5 1046 0) = 600) ∧ sm_F1 (g5 26) (g12 26) (g5 1046 0) ∧ sm_F1 (g5 27) (g12 27) (g5 1046 0) ∧ sm_F1 (g5 28) (g12 28) (g5 1046 0) ∧ sm_F1 (g5 29) (g12 29) (g5 1046 0) ∧ sm_F1 (g5 1100007) (g12 1100007) ((g5 1046 0) + 1) ∧ sm_F1 (g5 1100023) (g12 1100023) ((g5 1046 0) + 1) ∧ sm_F1 (g5 1100024) (g12 1100024) ((g5 1046 0) + 1) ∧ sm_F1 (g5 1100025) (g12 1100025) ((g5 1046 0) + 1) ∧ ((g12 1047 0) = 0 → (g5 1047 0) = 0 ∧ (g12 1046 0) = (g5 1046 0) + 1 ∧ sm_KC (g12 26) (g12 27) (g12 28) (g12 29) (g12 1100007) (g12 1100023) (g12 1100024) (g12 1100025) (g5 31) (g5 1100009) (g5 1100027) (g5 1100028) (g5 1100026) (g5 1100030) (S 21) (S 32) (S 33) (g12 1046 0) (g5 1053 0) (S 1056 0) (S 1032 0) (S 1007 0) (g5 1100033 0) ∧ sm_MB (g5 31) (g5 1100030) (g5 1053 0) (g12 1046 0) ∧ (g12 26 (g5 1046 0)) = (17 : Int) ∧ (g12 29 (g5 1046 0)) = (S 1056 0) ∧ (g12 1100007 (g12 1046 0)) = ((g5 1100007 (g5 1046 0)) + sm_dl (17 : Int) ((0 : Int))) ∧ (g12 1100023 (g12 1046 0)) = (sm_nt (17 : Int) (g5 1046 0) (g5 1100023 (g5 1046 0)) (g5 1100023 (g5 1100023 (g5 1046 0)))) ∧ (g12 1100024 (g12 1046 0)) = (sm_nd (17 : Int) (g5 1100024 (g5 1046 0))) ∧ (g12 1100025 (g12 1046 0)) = (sm_nl (17 : Int) (g5 1046 0) (g5 1100007 (g5 1046 0)) (g5 1100025 (g5 1046 0)) (g5 1100007 (g5 1100025 (g5 1046 0))) (g5 1100025 (g5 1100025 (g5 1046 0)))) ∧ (g12 1100007 (g12 1100023 (g12 1046 0))) = sm_nt (17 : Int) (g5 1100007 (g5 1046 0)) (g5 1100007 (g5 1100023 (g5 1046 0))) (g5 1100007 (g5 1100023 (g5 1100023 (g5 1046 0)))) ∧ ((17 : Int) = 29 → (g12 1100007 (g12 1100025 (g12 1046 0))) = (g5 1100007 (g5 1046 0))) ∧ ((17 : Int) = 17 → 0 ≤ (g5 1100025 (g5 1046 0)) → (g5 1100007 (g5 1100025 (g5 1046 0))) = (g5 1100007 (g5 1046 0)) → (g12 1100007 (g12 1100025 (g12 1046 0))) = (g5 1100007 (g5 1100025 (g5 1100025 (g5 1046 0))))) ∧ (¬ (17 : Int) = 29 → ((17 : Int) = 17 → 0 ≤ (g5 1100025 (g5 1046 0)) → (g5 1100007 (g5 1100025 (g5 1046 0))) < (g5 1100007 (g5 1046 0))) → (g12 1100007 (g12 1100025 (g12 1046 0))) = (g5 1100007 (g5 1100025 (g5 1046 0)))))) → (0 ≤ (g12 1046 0) ∧ (g12 1046 0) ≤ 600 ∧ 0 ≤ (g12 1047 0) ∧ (g12 1047 0) ≤ 1 ∧ ((g12 1047 0) = 0 → sm_KC (g12 26) (g12 27) (g12 28) (g12 29) (g12 1100007) (g12 1100023) (g12 1100024) (g12 1100025) (g5 31) (g5 1100009) (g5 1100027) (g5 1100028) (g5 1100026) (g5 1100030) (S 21) (S 32) (S 33) (g12 1046 0) (g5 1053 0) (S 1056 0) (S 1032 0) (S 1007 0) (g5 1100033 0) ∧ 0 ≤ (0 : Int) ∧ (0 : Int) ≤ 6 ∧ ((0 : Int) = 6 → 0 ≤ (0 : Int) ∧ (0 : Int) < (S 1007 0)) ∧ (0 ≤ (g12 1100023 (g12 1046 0)) → (g12 1100007 (g12 1100023 (g12 1046 0))) ≤ (g12 1100007 (g12 1046 0))) ∧ (0 ≤ (g12 1100025 (g12 1046 0)) → (g12 1100007 (g12 1100025 (g12 1046 0))) ≤ (g12 1100007 (g12 1046 0))))) ∧ (∀ g18 : sv_S, (0 ≤ (g18 1047 0) ∧ (g18 1047 0) ≤ 1 ∧ 1 ≤ (g18 1046 0) ∧ (g12 1046 0) ≤ (g18 1046 0) ∧ (g18 1046 0) ≤ (g12 1046 0) + 1 ∧ (g18 1046 0) ≤ 600 ∧ ((g12 1047 0) = 1 → (g18 1047 0) = 1) ∧ ((g18 1047 0) = 1 → (g12 1047 0) = 1 ∨ (g12 1046 0) = 600) ∧ sm_F1 (g12 26) (g18 26) (g12 1046 0) ∧ sm_F1 (g12 27) (g18 27) (g12 1046 0) ∧ sm_F1 (g12 28) (g18 28) (g12 1046 0) ∧ sm_F1 (g12 29) (g18 29) (g12 1046 0) ∧ sm_F1 (g12 1100007) (g18 1100007) ((g12 1046 0) + 1) ∧ sm_F1 (g12 1100023) (g18 1100023) ((g12 1046 0) + 1) ∧ sm_F1 (g12 1100024) (g18 1100024) ((g12 1046 0) + 1) ∧ sm_F1 (g12 1100025) (g18 1100025) ((g12 1046 0) + 1) ∧ ((g18 1047 0) = 0 → (g12 1047 0) = 0 ∧ (g18 1046 0) = (g12 1046 0) + 1 ∧ sm_KC (g18 26) (g18 27) (g18 28) (g18 29) (g18 1100007) (g18 1100023) (g18 1100024) (g18 1100025) (g5 31) (g5 1100009) (g5 1100027) (g5 1100028) (g5 1100026) (g5 1100030) (S 21) (S 32) (S 33) (g18 1046 0) (g5 1053 0) (S 1056 0) (S 1032 0) (S 1007 0) (g5 1100033 0) ∧ sm_MB (g5 31) (g5 1100030) (g5 1053 0) (g18 1046 0) ∧ (g18 26 (g12 1046 0)) = (0 : Int) ∧ (g18 29 (g12 1046 0)) = (S 1056 0) ∧ (g18 1100007 (g18 1046 0)) = ((g12 1100007 (g12 1046 0)) + sm_dl (0 : Int) ((0 : Int))) ∧ (g18 1100023 (g18 1046 0)) = (sm_nt (0 : Int) (g12 1046 0) (g12 1100023 (g12 1046 0)) (g12 1100023 (g12 1100023 (g12 1046 0)))) ∧ (g18 1100024 (g18 1046 0)) = (sm_nd (0 : Int) (g12 1100024 (g12 1046 0))) ∧ (g18 1100025 (g18 1046 0)) = (sm_nl (0 : Int) (g12 1046 0) (g12 1100007 (g12 1046 0)) (g12 1100025 (g12 1046 0)) (g12 1100007 (g12 1100025 (g12 1046 0))) (g12 1100025 (g12 1100025 (g12 1046 0)))) ∧ (g18 1100007 (g18 1100023 (g18 1046 0))) = sm_nt (0 : Int) (g12 1100007 (g12 1046 0)) (g12 1100007 (g12 1100023 (g12 1046 0))) (g12 1100007 (g12 1100023 (g12 1100023 (g12 1046 0)))) ∧ ((0 : Int) = 29 → (g18 1100007 (g18 1100025 (g18 1046 0))) = (g12 1100007 (g12 1046 0))) ∧ ((0 : Int) = 17 → 0 ≤ (g12 1100025 (g12 1046 0)) → (g12 1100007 (g12 1100025 (g12 1046 0))) = (g12 1100007 (g12 1046 0)) → (g18 1100007 (g18 1100025 (g18 1046 0))) = (g12 1100007 (g12 1100025 (g12 1100025 (g12 1046 0))))) ∧ (¬ (0 : Int) = 29 → ((0 : Int) = 17 → 0 ≤ (g12 1100025 (g12 1046 0)) → (g12 1100007 (g12 1100025 (g12 1046 0))) < (g12 1100007 (g12 1046 0))) → (g18 1100007 (g18 1100025 (g18 1046 0))) = (g12 1100007 (g12 1100025 (g12 1046 0)))))) → (0 ≤ (g18 1046 0) ∧ (g18 1046 0) ≤ 600 ∧ 0 ≤ (g18 1047 0) ∧ (g18 1047 0) ≤ 1 ∧ 0 ≤ (g5 1053 0) ∧ 0 ≤ (g5 1066 0) ∧ (S 1046 0) ≤ (g18 1046 0) ∧ ((S 1047 0) = 1 → (g18 1047 0) = 1) ∧ sm_F1 (S 26) (g18 26) (S 1046 0) ∧ sm_F1 (S 27) (g18 27) (S 1046 0) ∧ sm_F1 (S 28) (g18 28) (S 1046 0) ∧ sm_F1 (S 29) (g18 29) (S 1046 0) ∧ sm_F1 (S 1100007) (g18 1100007) ((S 1046 0) + 1) ∧ sm_F1 (S 1100023) (g18 1100023) ((S 1046 0) + 1) ∧ sm_F1 (S 1100024) (g18 1100024) ((S 1046 0) + 1) ∧ sm_F1 (S 1100025) (g18 1100025) ((S 1046 0) + 1) ∧ sm_F1 (S 1100009) (g5 1100009) (S 1053 0) ∧ sm_F1 (S 1100027) (g5 1100027) (S 1053 0) ∧ sm_F1 (S 1100028) (g5 1100028) (S 1053 0) ∧ sm_F1 (S 1100026) (g5 1100026) (S 1053 0) ∧ sm_F1 (S 1100030) (g5 1100030) (S 1053 0) ∧ sm_F1 (S 31) (g5 31) (S 1053 0) ∧ (S 1053 0) ≤ (g5 1053 0) ∧ (g5 1066 0) = (S 1066 0) ∧ sm_F1 (S 39) (g5 39) (S 1066 0) ∧ ((S 1047 0) = 1 → (g5 1053 0) = (S 1053 0)) ∧ ((S 1047 0) = 0 → (g5 1053 0) ≤ (S 1053 0) + 3 * (600 - (S 1046 0)) + (S 1100002 p2)) ∧ ((g18 1047 0) = 0 → (S 1047 0) = 0 ∧ sm_KC (g18 26) (g18 27) (g18 28) (g18 29) (g18 1100007) (g18 1100023) (g18 1100024) (g18 1100025) (g5 31) (g5 1100009) (g5 1100027) (g5 1100028) (g5 1100026) (g5 1100030) (S 21) (S 32) (S 33) (g18 1046 0) (g5 1053 0) (S 1056 0) (S 1032 0) (S 1007 0) (g5 1100033 0) ∧ (g5 1100033 0) = (g5 1055 0) ∧ 0 ≤ (g5 1055 0) ∧ (g5 1055 0) ≤ (g18 1046 0) ∧ (S 1046 0) + 1 ≤ (g18 1046 0) ∧ sm_FC (g18 29) (S 1046 0) (g18 1046 0) (S 1056 0) ∧ (g18 1100007 (g18 1046 0)) = (S 1100007 (S 1046 0)) + 1 ∧ (g18 1100023 (g18 1046 0)) = (S 1100023 (S 1046 0)) ∧ (g18 1100024 (g18 1046 0)) = (S 1100024 (S 1046 0)) ∧ (g18 1100025 (g18 1046 0)) = (S 1100025 (S 1046 0)) ∧ (g18 1100007 (g18 1100023 (g18 1046 0))) = (S 1100007 (S 1100023 (S 1046 0))) ∧ (g18 1100007 (g18 1100025 (g18 1046 0))) = (S 1100007 (S 1100025 (S 1046 0))) ∧ sm_AP (g5 1100030) (S 1053 0) (g5 1053 0) ∧ sm_HB (g18 1100007) (S 1046 0) (g18 1046 0) (2 * (S 1100007 (S 1046 0)) + ((g18 1046 0) - (S 1046 0)) + 8 * (S 1100005 p2) + 10) ∧ (g5 1053 0) ≤ (S 1053 0) + 3 * ((g18 1046 0) - (S 1046 0)) ∧ True))))) ∧ ((¬ ((5 : Int) ≤ p1)) → (0 ≤ (g5 1046 0) ∧ (g5 1046 0) ≤ 600 ∧ 0 ≤ (g5 1047 0) ∧ (g5 1047 0) ≤ 1 ∧ ((g5 1047 0) = 0 → sm_KC (g5 26) (g5 27) (g5 28) (g5 29) (g5 1100007) (g5 1100023) (g5 1100024) (g5 1100025) (g5 31) (g5 1100009) (g5 1100027) (g5 1100028) (g5 1100026) (g5 1100030) (S 21) (S 32) (S 33) (g5 1046 0) (g5 1053 0) (S 1056 0) (S 1032 0) (S 1007 0) (g5 1100033 0) ∧ 0 ≤ (13 : Int) ∧ (13 : Int) ≤ 30 ∧ sm_ci (13 : Int) (p1) ((0 : Int)) (g5 1100007 (g5 1046 0)) (g5 1100023 (g5 1046 0)) (g5 1100024 (g5 1046 0)) (g5 1100025 (g5 1046 0)) (g5 1100007 (g5 1100023 (g5 1046 0))) (g5 1100007 (g5 1100025 (g5 1046 0))) (g5 1100023 (g5 1100023 (g5 1046 0))) (g5 1100025 (g5 1100025 (g5 1046 0))) (g5 1046 0) (g5 1100033 0) (S 1032 0) (S 1007 0) (S 21 p1) (S 1056 0) ((g5 1100007 (g5 1046 0)) + sm_dl (13 : Int) (p1)) (sm_nt (13 : Int) (g5 1046 0) (g5 1100023 (g5 1046 0)) (g5 1100023 (g5 1100023 (g5 1046 0)))) (sm_nl (13 : Int) (g5 1046 0) (g5 1100007 (g5 1046 0)) (g5 1100025 (g5 1046 0)) (g5 1100007 (g5 1100025 (g5 1046 0))) (g5 1100025 (g5 1100025 (g5 1046 0)))) (g5 1100009 p1) (g5 1100027 p1) (g5 1100028 p1) ∧ ((21 ≤ (13 : Int) ∧ (13 : Int) ≤ 24) ∨ (13 : Int) = 27 ∨ (13 : Int) = 30 → 0 ≤ p1 ∧ p1 < (g5 1053 0) ∧ (g5 1100026 p1) = (S 1056 0)) ∧ ((13 : Int) = 1 ∨ (13 : Int) = 2 → sm_vv (S 21) (S 32) (S 33) (S 1056 0) p1 (0 : Int)))) ∧ (0 + 1 ≤ ((S 1100002 p2) + (600 - (S 1046 0)) + 9)) ∧ (∀ g25 : sv_S, (0 ≤ (g25 1047 0) ∧ (g25 1047 0) ≤ 1 ∧ 1 ≤ (g25 1046 0) ∧ (g5 1046 0) ≤ (g25 1046 0) ∧ (g25 1046 0) ≤ (g5 1046 0) + 1 ∧ (g25 1046 0) ≤ 600 ∧ ((g5 1047 0) = 1 → (g25 1047 0) = 1) ∧ ((g25 1047 0) = 1 → (g5 1047 0) = 1 ∨ (g5 1046 0) = 600) ∧ sm_F1 (g5 26) (g25 26) (g5 1046 0) ∧ sm_F1 (g5 27) (g25 27) (g5 1046 0) ∧ sm_F1 (g5 28) (g25 28) (g5 1046 0) ∧ sm_F1 (g5 29) (g25 29) (g5 1046 0) ∧ sm_F1 (g5 1100007) (g25 1100007) ((g5 1046 0) + 1) ∧ sm_F1 (g5 1100023) (g25 1100023) ((g5 1046 0) + 1) ∧ sm_F1 (g5 1100024) (g25 1100024) ((g5 1046 0) + 1) ∧ sm_F1 (g5 1100025) (g25 1100025) ((g5 1046 0) + 1) ∧ ((g25 1047 0) = 0 → (g5 1047 0) = 0 ∧ (g25 1046 0) = (g5 1046 0) + 1 ∧ sm_KC (g25 26) (g25 27) (g25 28) (g25 29) (g25 1100007) (g25 1100023) (g25 1100024) (g25 1100025) (g5 31) (g5 1100009) (g5 1100027) (g5 1100028) (g5 1100026) (g5 1100030) (S 21) (S 32) (S 33) (g25 1046 0) (g5 1053 0) (S 1056 0) (S 1032 0) (S 1007 0) (g5 1100033 0) ∧ sm_MB (g5 31) (g5 1100030) (g5 1053 0) (g25 1046 0) ∧ (g25 26 (g5 1046 0)) = (13 : Int) ∧ (g25 29 (g5 1046 0)) = (S 1056 0) ∧ (g25 1100007 (g25 1046 0)) = ((g5 1100007 (g5 1046 0)) + sm_dl (13 : Int) (p1)) ∧ (g25 1100023 (g25 1046 0)) = (sm_nt (13 : Int) (g5 1046 0) (g5 1100023 (g5 1046 0)) (g5 1100023 (g5 1100023 (g5 1046 0)))) ∧ (g25 1100024 (g25 1046 0)) = (sm_nd (13 : Int) (g5 1100024 (g5 1046 0))) ∧ (g25 1100025 (g25 1046 0)) = (sm_nl (13 : Int) (g5 1046 0) (g5 1100007 (g5 1046 0)) (g5 1100025 (g5 1046 0)) (g5 1100007 (g5 1100025 (g5 1046 0))) (g5 1100025 (g5 1100025 (g5 1046 0)))) ∧ (g25 1100007 (g25 1100023 (g25 1046 0))) = sm_nt (13 : Int) (g5 1100007 (g5 1046 0)) (g5 1100007 (g5 1100023 (g5 1046 0))) (g5 1100007 (g5 1100023 (g5 1100023 (g5 1046 0)))) ∧ ((13 : Int) = 29 → (g25 1100007 (g25 1100025 (g25 1046 0))) = (g5 1100007 (g5 1046 0))) ∧ ((13 : Int) = 17 → 0 ≤ (g5 1100025 (g5 1046 0)) → (g5 1100007 (g5 1100025 (g5 1046 0))) = (g5 1100007 (g5 1046 0)) → (g25 1100007 (g25 1100025 (g25 1046 0))) = (g5 1100007 (g5 1100025 (g5 1100025 (g5 1046 0))))) ∧ (¬ (13 : Int) = 29 → ((13 : Int) = 17 → 0 ≤ (g5 1100025 (g5 1046 0)) → (g5 1100007 (g5 1100025 (g5 1046 0))) < (g5 1100007 (g5 1046 0))) → (g25 1100007 (g25 1100025 (g25 1046 0))) = (g5 1100007 (g5 1100025 (g5 1046 0)))))) → (0 ≤ (g25 1046 0) ∧ (g25 1046 0) ≤ 600 ∧ 0 ≤ (g25 1047 0) ∧ (g25 1047 0) ≤ 1 ∧ 0 ≤ (g5 1053 0) ∧ 0 ≤ (g5 1066 0) ∧ (S 1046 0) ≤ (g25 1046 0) ∧ ((S 1047 0) = 1 → (g25 1047 0) = 1) ∧ sm_F1 (S 26) (g25 26) (S 1046 0) ∧ sm_F1 (S 27) (g25 27) (S 1046 0) ∧ sm_F1 (S 28) (g25 28) (S 1046 0) ∧ sm_F1 (S 29) (g25 29) (S 1046 0) ∧ sm_F1 (S 1100007) (g25 1100007) ((S 1046 0) + 1) ∧ sm_F1 (S 1100023) (g25 1100023) ((S 1046 0) + 1) ∧ sm_F1 (S 1100024) (g25 1100024) ((S 1046 0) + 1) ∧ sm_F1 (S 1100025) (g25 1100025) ((S 1046 0) + 1) ∧ sm_F1 (S 1100009) (g5 1100009) (S 1053 0) ∧ sm_F1 (S 1100027) (g5 1100027) (S 1053 0) ∧ sm_F1 (S 1100028) (g5 1100028) (S 1053 0) ∧ sm_F1 (S 1100026) (g5 1100026) (S 1053 0) ∧ sm_F1 (S 1100030) (g5 1100030) (S 1053 0) ∧ sm_F1 (S 31) (g5 31) (S 1053 0) ∧ (S 1053 0) ≤ (g5 1053 0) ∧ (g5 1066 0) = (S 1066 0) ∧ sm_F1 (S 39) (g5 39) (S 1066 0) ∧ ((S 1047 0) = 1 → (g5 1053 0) = (S 1053 0)) ∧ ((S 1047 0) = 0 → (g5 1053 0) ≤ (S 1053 0) + 3 * (600 - (S 1046 0)) + (S 1100002 p2)) ∧ ((g25 1047 0) = 0 → (S 1047 0) = 0 ∧ sm_KC (g25 26) (g25 27) (g25 28) (g25 29) (g25 1100007) (g25 1100023) (g25 1100024) (g25 1100025) (g5 31) (g5 1100009) (g5 1100027) (g5 1100028) (g5 1100026) (g5 1100030) (S 21) (S 32) (S 33) (g25 1046 0) (g5 1053 0) (S 1056 0) (S 1032 0) (S 1007 0) (g5 1100033 0) ∧ (g5 1100033 0) = (g5 1055 0) ∧ 0 ≤ (g5 1055 0) ∧ (g5 1055 0) ≤ (g25 1046 0) ∧ (S 1046 0) + 1 ≤ (g25 1046 0) ∧ sm_FC (g25 29) (S 1046 0) (g25 1046 0) (S 1056 0) ∧ (g25 1100007 (g25 1046 0)) = (S 1100007 (S 1046 0)) + 1 ∧ (g25 1100023 (g25 1046 0)) = (S 1100023 (S 1046 0)) ∧ (g25 1100024 (g25 1046 0)) = (S 1100024 (S 1046 0)) ∧ (g25 1100025 (g25 1046 0)) = (S 1100025 (S 1046 0)) ∧ (g25 1100007 (g25 1100023 (g25 1046 0))) = (S 1100007 (S 1100023 (S 1046 0))) ∧ (g25 1100007 (g25 1100025 (g25 1046 0))) = (S 1100007 (S 1100025 (S 1046 0))) ∧ sm_AP (g5 1100030) (S 1053 0) (g5 1053 0) ∧ sm_HB (g25 1100007) (S 1046 0) (g25 1046 0) (2 * (S 1100007 (S 1046 0)) + ((g25 1046 0) - (S 1046 0)) + 8 * (S 1100005 p2) + 10) ∧ (g5 1053 0) ≤ (S 1053 0) + 3 * ((g25 1046 0) - (S 1046 0)) ∧ True))))))) ∧ ((¬ (¬ p1 = (4 : Int))) → (0 ≤ p2 ∧ p2 < 12000) ∧ (sv_R (S 11 p2) → (((¬ (S 11 p2) = (2 : Int)) → (sm_WF (S 11) (S 12) (S 13) (S 1100001) (S 1100002) (S 1100005) (S 1100003) (S 1100004) (S 1024 0) (S 1007 0) (S 1009 0) (sm_fn (S 1032 0) (S 21) (S 1056 0)) ∧ (S 1009 0) = 0 ∧ 0 ≤ (S 1007 0) ∧ (S 1007 0) ≤ 90 ∧ 0 ≤ (S 1024 0) ∧ (S 1024 0) ≤ 12000 ∧ 1 ≤ (S 1032 0) ∧ (S 1032 0) ≤ 11 ∧ 0 ≤ (S 1056 0) ∧ (S 1056 0) < (S 1032 0) ∧ sm_VB (S 33) (S 21) (S 1032 0) ∧ 0 ≤ (S 1046 0) ∧ (S 1046 0) ≤ 600 ∧ 0 ≤ (S 1047 0) ∧ (S 1047 0) ≤ 1 ∧ 0 ≤ (S 1053 0) ∧ 0 ≤ (S 1066 0) ∧ 0 ≤ p2 ∧ p2 < (S 1024 0) ∧ (S 1100001 p2) = 1 ∧ sm_LF (S 39) (S 1100002) (S 1066 0) (S 1024 0) (12001 * (S 1100002 p2) + p2) ∧ ((S 1047 0) = 0 → sm_KC (S 26) (S 27) (S 28) (S 29) (S 1100007) (S 1100023) (S 1100024) (S 1100025) (S 31) (S 1100009) (S 1100027) (S 1100028) (S 1100026) (S 1100030) (S 21) (S 32) (S 33) (S 1046 0) (S 1053 0) (S 1056 0) (S 1032 0) (S 1007 0) (S 1100033 0) ∧ (S 1100033 0) = (S 1055 0) ∧ 0 ≤ (S 1055 0) ∧ (S 1055 0) ≤ (S 1046 0) ∧ (0 ≤ (S 1100023 (S 1046 0)) → (S 1100007 (S 1100023 (S 1046 0))) ≤ (S 1100007 (S 1046 0))) ∧ (0 ≤ (S 1100025 (S 1046 0)) → (S 1100007 (S 1100025 (S 1046 0))) ≤ (S 1100007 (S 1046 0))) ∧ (S 1100007 (S 1046 0)) ≤ (S 1046 0) ∧ (S 1053 0) + 3 * (600 - (S 1046 0)) + (S 1100002 p2) ≤ 8000)) ∧ (0 ≤ ((if (S 1047 0) = 0 then (S 1100002 p2) + (600 - (S 1046 0)) + 8 else 4)) ∧ ((if (S 1047 0) = 0 then (S 1100002 p2) + (600 - (S 1046 0)) + 8 else 4)) < d) ∧ (0 ≤ ((if (S 1047 0) = 0 then (S 1100002 p2) + (600 - (S 1046 0)) + 8 else 4)) ∧ ((if (S 1047 0) = 0 then (S 1100002 p2) + (600 - (S 1046 0)) + 8 else 4)) + 1 ≤ ((S 1100002 p2) + (600 - (S 1046 0)) + 9)) ∧ (∀ g35 : sv_S, (0 ≤ (g35 1046 0) ∧ (g35 1046 0) ≤ 600 ∧ 0 ≤ (g35 1047 0) ∧ (g35 1047 0) ≤ 1 ∧ 0 ≤ (g35 1053 0) ∧ 0 ≤ (g35 1066 0) ∧ (S 1046 0) ≤ (g35 1046 0) ∧ ((S 1047 0) = 1 → (g35 1047 0) = 1) ∧ sm_F1 (S 26) (g35 26) (S 1046 0) ∧ sm_F1 (S 27) (g35 27) (S 1046 0) ∧ sm_F1 (S 28) (g35 28) (S 1046 0) ∧ sm_F1 (S 29) (g35 29) (S 1046 0) ∧ sm_F1 (S 1100007) (g35 1100007) ((S 1046 0) + 1) ∧ sm_F1 (S 1100023) (g35 1100023) ((S 1046 0) + 1) ∧ sm_F1 (S 1100024) (g35 1100024) ((S 1046 0) + 1) ∧ sm_F1 (S 1100025) (g35 1100025) ((S 1046 0) + 1) ∧ sm_F1 (S 1100009) (g35 1100009) (S 1053 0) ∧ sm_F1 (S 1100027) (g35 1100027) (S 1053 0) ∧ sm_F1 (S 1100028) (g35 1100028) (S 1053 0) ∧ sm_F1 (S 1100026) (g35 1100026) (S 1053 0) ∧ sm_F1 (S 1100030) (g35 1100030) (S 1053 0) ∧ sm_F1 (S 31) (g35 31) (S 1053 0) ∧ (S 1053 0) ≤ (g35 1053 0) ∧ (g35 1066 0) = (S 1066 0) ∧ sm_F1 (S 39) (g35 39) (S 1066 0) ∧ ((S 1047 0) = 1 → (g35 1053 0) = (S 1053 0)) ∧ ((S 1047 0) = 0 → (g35 1053 0) ≤ (S 1053 0) + 3 * (600 - (S 1046 0)) + (S 1100002 p2)) ∧ ((g35 1047 0) = 0 → (S 1047 0) = 0 ∧ sm_KC (g35 26) (g35 27) (g35 28) (g35 29) (g35 1100007) (g35 1100023) (g35 1100024) (g35 1100025) (g35 31) (g35 1100009) (g35 1100027) (g35 1100028) (g35 1100026) (g35 1100030) (S 21) (S 32) (S 33) (g35 1046 0) (g35 1053 0) (S 1056 0) (S 1032 0) (S 1007 0) (g35 1100033 0) ∧ (g35 1100033 0) = (g35 1055 0) ∧ 0 ≤ (g35 1055 0) ∧ (g35 1055 0) ≤ (g35 1046 0) ∧ (S 1046 0) + 1 ≤ (g35 1046 0) ∧ sm_FC (g35 29) (S 1046 0) (g35 1046 0) (S 1056 0) ∧ (g35 1100007 (g35 1046 0)) = (S 1100007 (S 1046 0)) + 1 ∧ (g35 1100023 (g35 1046 0)) = (S 1100023 (S 1046 0)) ∧ (g35 1100024 (g35 1046 0)) = (S 1100024 (S 1046 0)) ∧ (g35 1100025 (g35 1046 0)) = (S 1100025 (S 1046 0)) ∧ (g35 1100007 (g35 1100023 (g35 1046 0))) = (S 1100007 (S 1100023 (S 1046 0))) ∧ (g35 1100007 (g35 1100025 (g35 1046 0))) = (S 1100007 (S 1100025 (S 1046 0))) ∧ sm_AP (g35 1100030) (S 1053 0) (g35 1053 0) ∧ sm_HB (g35 1100007) (S 1046 0) (g35 1046 0) (2 * (S 1100007 (S 1046 0)) + ((g35 1046 0) - (S 1046 0)) + 8 * (S 1100005 p2) + 10) ∧ (g35 1053 0) ≤ (S 1053 0) + 3 * ((g35 1046 0) - (S 1046 0)) ∧ True)) → ((((5 : Int) ≤ p1) → (0 ≤ (g35 1046 0) ∧ (g35 1046 0) ≤ 600 ∧ 0 ≤ (g35 1047 0) ∧ (g35 1047 0) ≤ 1 ∧ ((g35 1047 0) = 0 → sm_KC (g35 26) (g35 27) (g35 28) (g35 29) (g35 1100007) (g35 1100023) (g35 1100024) (g35 1100025) (g35 31) (g35 1100009) (g35 1100027) (g35 1100028) (g35 1100026) (g35 1100030) (S 21) (S 32) (S 33) (g35 1046 0) (g35 1053 0) (S 1056 0) (S 1032 0) (S 1007 0) (g35 1100033 0) ∧ 0 ≤ (17 : Int) ∧ (17 : Int) ≤ 30 ∧ sm_ci (17 : Int) ((0 : Int)) ((0 : Int)) (g35 1100007 (g35 1046 0)) (g35 1100023 (g35 1046 0)) (g35 1100024 (g35 1046 0)) (g35 1100025 (g35 1046 0)) (g35 1100007 (g35 1100023 (g35 1046 0))) (g35 1100007 (g35 1100025 (g35 1046 0))) (g35 1100023 (g35 1100023 (g35 1046 0))) (g35 1100025 (g35 1100025 (g35 1046 0))) (g35 1046 0) (g35 1100033 0) (S 1032 0) (S 1007 0) (S 21 (0 : Int)) (S 1056 0) ((g35 1100007 (g35 1046 0)) + sm_dl (17 : Int) ((0 : Int))) (sm_nt (17 : Int) (g35 1046 0) (g35 1100023 (g35 1046 0)) (g35 1100023 (g35 1100023 (g35 1046 0)))) (sm_nl (17 : Int) (g35 1046 0) (g35 1100007 (g35 1046 0)) (g35 1100025 (g35 1046 0)) (g35 1100007 (g35 1100025 (g35 1046 0))) (g35 1100025 (g35 1100025 (g35 1046 0)))) (g35 1100009 (0 : Int)) (g35 1100027 (0 : Int)) (g35 1100028 (0 : Int)) ∧ ((21 ≤ (17 : Int) ∧ (17 : Int) ≤ 24) ∨ (17 : Int) = 27 ∨ (17 : Int) = 30 → 0 ≤ (0 : Int) ∧ (0 : Int) < (g35 1053 0) ∧ (g35 1100026 (0 : Int)) = (S 1056 0)) ∧ ((17 : Int) = 1 ∨ (17 : Int) = 2 → sm_vv (S 21) (S 32) (S 33) (S 1056 0) (0 : Int) (0 : Int)))) ∧ (1 + 1 ≤ ((S 1100002 p2) + (600 - (S 1046 0)) + 9)) ∧ (∀ g42 : sv_S, (0 ≤ (g42 1047 0) ∧ (g42 1047 0) ≤ 1 ∧ 1 ≤ (g42 1046 0) ∧ (g35 1046 0) ≤ (g42 1046 0) ∧ (g42 1046 0) ≤ (g35 1046 0) + 1 ∧ (g42 1046 0) ≤ 600 ∧ ((g35 1047 0) = 1 → (g42 1047 0) = 1) ∧ ((g42 1047 0) = 1 → (g35 1047 0) = 1 ∨ (g35 1046 0) = 600) ∧ sm_F1 (g35 26) (g42 26) (g35 1046 0) ∧ sm_F1 (g35 27) (g42 27) (g35 1046 0) ∧ sm_F1 (g35 28) (g42 28) (g35 1046 0) ∧ sm_F1 (g35 29) (g42 29) (g35 1046 0) ∧ sm_F1 (g35 1100007) (g42 1100007) ((g35 1046 0) + 1) ∧ sm_F1 (g35 1100023) (g42 1100023) ((g35 1046 0) + 1) ∧ sm_F1 (g35 1100024) (g42 1100024) ((g35 1046 0) + 1) ∧ sm_F1 (g35 1100025) (g42 1100025) ((g35 1046 0) + 1) ∧ ((g42 1047 0) = 0 → (g35 1047 0) = 0 ∧ (g42 1046 0) = (g35 1046 0) + 1 ∧ sm_KC (g42 26) (g42 27) (g42 28) (g42 29) (g42 1100007) (g42 1100023) (g42 1100024) (g42 1100025) (g35 31) (g35 1100009) (g35 1100027) (g35 1100028) (g35 1100026) (g35 1100030) (S 21) (S 32) (S 33) (g42 1046 0) (g35 1053 0) (S 1056 0) (S 1032 0) (S 1007 0) (g35 1100033 0) ∧ sm_MB (g35 31) (g35 1100030) (g35 1053 0) (g42 1046 0) ∧ (g42 26 (g35 1046 0)) = (17 : Int) ∧ (g42 29 (g35 1046 0)) = (S 1056 0) ∧ (g42 1100007 (g42 1046 0)) = ((g35 1100007 (g35 1046 0)) + sm_dl (17 : Int) ((0 : Int))) ∧ (g42 1100023 (g42 1046 0)) = (sm_nt (17 : Int) (g35 1046 0) (g35 1100023 (g35 1046 0)) (g35 1100023 (g35 1100023 (g35 1046 0)))) ∧ (g42 1100024 (g42 1046 0)) = (sm_nd (17 : Int) (g35 1100024 (g35 1046 0))) ∧ (g42 1100025 (g42 1046 0)) = (sm_nl (17 : Int) (g35 1046 0) (g35 1100007 (g35 1046 0)) (g35 1100025 (g35 1046 0)) (g35 1100007 (g35 1100025 (g35 1046 0))) (g35 1100025 (g35 1100025 (g35 1046 0)))) ∧ (g42 1100007 (g42 1100023 (g42 1046 0))) = sm_nt (17 : Int) (g35 1100007 (g35 1046 0)) (g35 1100007 (g35 1100023 (g35 1046 0))) (g35 1100007 (g35 1100023 (g35 1100023 (g35 1046 0)))) ∧ ((17 : Int) = 29 → (g42 1100007 (g42 1100025 (g42 1046 0))) = (g35 1100007 (g35 1046 0))) ∧ ((17 : Int) = 17 → 0 ≤ (g35 1100025 (g35 1046 0)) → (g35 1100007 (g35 1100025 (g35 1046 0))) = (g35 1100007 (g35 1046 0)) → (g42 1100007 (g42 1100025 (g42 1046 0))) = (g35 1100007 (g35 1100025 (g35 1100025 (g35 1046 0))))) ∧ (¬ (17 : Int) = 29 → ((17 : Int) = 17 → 0 ≤ (g35 1100025 (g35 1046 0)) → (g35 1100007 (g35 1100025 (g35 1046 0))) < (g35 1100007 (g35 1046 0))) → (g42 1100007 (g42 1100025 (g42 1046 0))) = (g35 1100007 (g35 1100025 (g35 1046 0)))))) → (0 ≤ (g42 1046 0) ∧ (g42 1046 0) ≤ 600 ∧ 0 ≤ (g42 1047 0) ∧ (g42 1047 0) ≤ 1 ∧ ((g42 1047 0) = 0 → sm_KC (g42 26) (g42 27) (g42 28) (g42 29) (g42 1100007) (g42 1100023) (g42 1100024) (g42 1100025) (g35 31) (g35 1100009) (g35 1100027) (g35 1100028) (g35 1100026) (g35 1100030) (S 21) (S 32) (S 33) (g42 1046 0) (g35 1053 0) (S 1056 0) (S 1032 0) (S 1007 0) (g35 1100033 0) ∧ 0 ≤ (0 : Int) ∧ (0 : Int) ≤ 6 ∧ ((0 : Int) = 6 → 0 ≤ (0 : Int) ∧ (0 : Int) < (S 1007 0)) ∧ (0 ≤ (g42 1100023 (g42 1046 0)) → (g42 1100007 (g42 1100023 (g42 1046 0))) ≤ (g42 1100007 (g42 1046 0))) ∧ (0 ≤ (g42 1100025 (g42 1046 0)) → (g42 1100007 (g42 1100025 (g42 1046 0))) ≤ (g42 1100007 (g42 1046 0))))) ∧ (∀ g48 : sv_S, (0 ≤ (g48 1047 0) ∧ (g48 1047 0) ≤ 1 ∧ 1 ≤ (g48 1046 0) ∧ (g42 1046 0) ≤ (g48 1046 0) ∧ (g48 1046 0) ≤ (g42 1046 0) + 1 ∧ (g48 1046 0) ≤ 600 ∧ ((g42 1047 0) = 1 → (g48 1047 0) = 1) ∧ ((g48 1047 0) = 1 → (g42 1047 0) = 1 ∨ (g42 1046 0) = 600) ∧ sm_F1 (g42 26) (g48 26) (g42 1046 0) ∧ sm_F1 (g42 27) (g48 27) (g42 1046 0) ∧ sm_F1 (g42 28) (g48 28) (g42 1046 0) ∧ sm_F1 (g42 29) (g48 29) (g42 1046 0) ∧ sm_F1 (g42 1100007) (g48 1100007) ((g42 1046 0) + 1) ∧ sm_F1 (g42 1100023) (g48 1100023) ((g42 1046 0) + 1) ∧ sm_F1 (g42 1100024) (g48 1100024) ((g42 1046 0) + 1) ∧ sm_F1 (g42 1100025) (g48 1100025) ((g42 1046 0) + 1) ∧ ((g48 1047 0) = 0 → (g42 1047 0) = 0 ∧ (g48 1046 0) = (g42 1046 0) + 1 ∧ sm_KC (g48 26) (g48 27) (g48 28) (g48 29) (g48 1100007) (g48 1100023) (g48 1100024) (g48 1100025) (g35 31) (g35 1100009) (g35 1100027) (g35 1100028) (g35 1100026) (g35 1100030) (S 21) (S 32) (S 33) (g48 1046 0) (g35 1053 0) (S 1056 0) (S 1032 0) (S 1007 0) (g35 1100033 0) ∧ sm_MB (g35 31) (g35 1100030) (g35 1053 0) (g48 1046 0) ∧ (g48 26 (g42 1046 0)) = (0 : Int) ∧ (g48 29 (g42 1046 0)) = (S 1056 0) ∧ (g48 1100007 (g48 1046 0)) = ((g42 1100007 (g42 1046 0)) + sm_dl (0 : Int) ((0 : Int))) ∧ (g48 1100023 (g48 1046 0)) = (sm_nt (0 : Int) (g42 1046 0) (g42 1100023 (g42 1046 0)) (g42 1100023 (g42 1100023 (g42 1046 0)))) ∧ (g48 1100024 (g48 1046 0)) = (sm_nd (0 : Int) (g42 1100024 (g42 1046 0))) ∧ (g48 1100025 (g48 1046 0)) = (sm_nl (0 : Int) (g42 1046 0) (g42 1100007 (g42 1046 0)) (g42 1100025 (g42 1046 0)) (g42 1100007 (g42 1100025 (g42 1046 0))) (g42 1100025 (g42 1100025 (g42 1046 0)))) ∧ (g48 1100007 (g48 1100023 (g48 1046 0))) = sm_nt (0 : Int) (g42 1100007 (g42 1046 0)) (g42 1100007 (g42 1100023 (g42 1046 0))) (g42 1100007 (g42 1100023 (g42 1100023 (g42 1046 0)))) ∧ ((0 : Int) = 29 → (g48 1100007 (g48 1100025 (g48 1046 0))) = (g42 1100007 (g42 1046 0))) ∧ ((0 : Int) = 17 → 0 ≤ (g42 1100025 (g42 1046 0)) → (g42 1100007 (g42 1100025 (g42 1046 0))) = (g42 1100007 (g42 1046 0)) → (g48 1100007 (g48 1100025 (g48 1046 0))) = (g42 1100007 (g42 1100025 (g42 1100025 (g42 1046 0))))) ∧ (¬ (0 : Int) = 29 → ((0 : Int) = 17 → 0 ≤ (g42 1100025 (g42 1046 0)) → (g42 1100007 (g42 1100025 (g42 1046 0))) < (g42 1100007 (g42 1046 0))) → (g48 1100007 (g48 1100025 (g48 1046 0))) = (g42 1100007 (g42 1100025 (g42 1046 0)))))) → (0 ≤ (g48 1046 0) ∧ (g48 1046 0) ≤ 600 ∧ 0 ≤ (g48 1047 0) ∧ (g48 1047 0) ≤ 1 ∧ 0 ≤ (g35 1053 0) ∧ 0 ≤ (g35 1066 0) ∧ (S 1046 0) ≤ (g48 1046 0) ∧ ((S 1047 0) = 1 → (g48 1047 0) = 1) ∧ sm_F1 (S 26) (g48 26) (S 1046 0) ∧ sm_F1 (S 27) (g48 27) (S 1046 0) ∧ sm_F1 (S 28) (g48 28) (S 1046 0) ∧ sm_F1 (S 29) (g48 29) (S 1046 0) ∧ sm_F1 (S 1100007) (g48 1100007) ((S 1046 0) + 1) ∧ sm_F1 (S 1100023) (g48 1100023) ((S 1046 0) + 1) ∧ sm_F1 (S 1100024) (g48 1100024) ((S 1046 0) + 1) ∧ sm_F1 (S 1100025) (g48 1100025) ((S 1046 0) + 1) ∧ sm_F1 (S 1100009) (g35 1100009) (S 1053 0) ∧ sm_F1 (S 1100027) (g35 1100027) (S 1053 0) ∧ sm_F1 (S 1100028) (g35 1100028) (S 1053 0) ∧ sm_F1 (S 1100026) (g35 1100026) (S 1053 0) ∧ sm_F1 (S 1100030) (g35 1100030) (S 1053 0) ∧ sm_F1 (S 31) (g35 31) (S 1053 0) ∧ (S 1053 0) ≤ (g35 1053 0) ∧ (g35 1066 0) = (S 1066 0) ∧ sm_F1 (S 39) (g35 39) (S 1066 0) ∧ ((S 1047 0) = 1 → (g35 1053 0) = (S 1053 0)) ∧ ((S 1047 0) = 0 → (g35 1053 0) ≤ (S 1053 0) + 3 * (600 - (S 1046 0)) + (S 1100002 p2)) ∧ ((g48 1047 0) = 0 → (S 1047 0) = 0 ∧ sm_KC (g48 26) (g48 27) (g48 28) (g48 29) (g48 1100007) (g48 1100023) (g48 1100024) (g48 1100025) (g35 31) (g35 1100009) (g35 1100027) (g35 1100028) (g35 1100026) (g35 1100030) (S 21) (S 32) (S 33) (g48 1046 0) (g35 1053 0) (S 1056 0) (S 1032 0) (S 1007 0) (g35 1100033 0) ∧ (g35 1100033 0) = (g35 1055 0) ∧ 0 ≤ (g35 1055 0) ∧ (g35 1055 0) ≤ (g48 1046 0) ∧ (S 1046 0) + 1 ≤ (g48 1046 0) ∧ sm_FC (g48 29) (S 1046 0) (g48 1046 0) (S 1056 0) ∧ (g48 1100007 (g48 1046 0)) = (S 1100007 (S 1046 0)) + 1 ∧ (g48 1100023 (g48 1046 0)) = (S 1100023 (S 1046 0)) ∧ (g48 1100024 (g48 1046 0)) = (S 1100024 (S 1046 0)) ∧ (g48 1100025 (g48 1046 0)) = (S 1100025 (S 1046 0)) ∧ (g48 1100007 (g48 1100023 (g48 1046 0))) = (S 1100007 (S 1100023 (S 1046 0))) ∧ (g48 1100007 (g48 1100025 (g48 1046 0))) = (S 1100007 (S 1100025 (S 1046 0))) ∧ sm_AP (g35 1100030) (S 1053 0) (g35 1053 0) ∧ sm_HB (g48 1100007) (S 1046 0) (g48 1046 0) (2 * (S 1100007 (S 1046 0)) + ((g48 1046 0) - (S 1046 0)) + 8 * (S 1100005 p2) + 10) ∧ (g35 1053 0) ≤ (S 1053 0) + 3 * ((g48 1046 0) - (S 1046 0)) ∧ True))))) ∧ ((¬ ((5 : Int) ≤ p1)) → (0 ≤ (g35 1046 0) ∧ (g35 1046 0) ≤ 600 ∧ 0 ≤ (g35 1047 0) ∧ (g35 1047 0) ≤ 1 ∧ ((g35 1047 0) = 0 → sm_KC (g35 26) (g35 27) (g35 28) (g35 29) (g35 1100007) (g35 1100023) (g35 1100024) (g35 1100025) (g35 31) (g35 1100009) (g35 1100027) (g35 1100028) (g35 1100026) (g35 1100030) (S 21) (S 32) (S 33) (g35 1046 0) (g35 1053 0) (S 1056 0) (S 1032 0) (S 1007 0) (g35 1100033 0) ∧ 0 ≤ (13 : Int) ∧ (13 : Int) ≤ 30 ∧ sm_ci (13 : Int) (p1) ((0 : Int)) (g35 1100007 (g35 1046 0)) (g35 1100023 (g35 1046 0)) (g35 1100024 (g35 1046 0)) (g35 1100025 (g35 1046 0)) (g35 1100007 (g35 1100023 (g35 1046 0))) (g35 1100007 (g35 1100025 (g35 1046 0))) (g35 1100023 (g35 1100023 (g35 1046 0))) (g35 1100025 (g35 1100025 (g35 1046 0))) (g35 1046 0) (g35 1100033 0) (S 1032 0) (S 1007 0) (S 21 p1) (S 1056 0) ((g35 1100007 (g35 1046 0)) + sm_dl (13 : Int) (p1)) (sm_nt (13 : Int) (g35 1046 0) (g35 1100023 (g35 1046 0)) (g35 1100023 (g35 1100023 (g35 1046 0)))) (sm_nl (13 : Int) (g35 1046 0) (g35 1100007 (g35 1046 0)) (g35 1100025 (g35 1046 0)) (g35 1100007 (g35 1100025 (g35 1046 0))) (g35 1100025 (g35 1100025 (g35 1046 0)))) (g35 1100009 p1) (g35 1100027 p1) (g35 1100028 p1) ∧ ((21 ≤ (13 : Int) ∧ (13 : Int) ≤ 24) ∨ (13 : Int) = 27 ∨ (13 : Int) = 30 → 0 ≤ p1 ∧ p1 < (g35 1053 0) ∧ (g35 1100026 p1) = (S 1056 0)) ∧ ((13 : Int) = 1 ∨ (13 : Int) = 2 → sm_vv (S 21) (S 32) (S 33) (S 1056 0) p1 (0 : Int)))) ∧ (0 + 1 ≤ ((S 1100002 p2) + (600 - (S 1046 0)) + 9)) ∧ (∀ g55 : sv_S, (0 ≤ (g55 1047 0) ∧ (g55 1047 0) ≤ 1 ∧ 1 ≤ (g55 1046 0) ∧ (g35 1046 0) ≤ (g55 1046 0) ∧ (g55 1046 0) ≤ (g35 1046 0) + 1 ∧ (g55 1046 0) ≤ 600 ∧ ((g35 1047 0) = 1 → (g55 1047 0) = 1) ∧ ((g55 1047 0) = 1 → (g35 1047 0) = 1 ∨ (g35 1046 0) = 600) ∧ sm_F1 (g35 26) (g55 26) (g35 1046 0) ∧ sm_F1 (g35 27) (g55 27) (g35 1046 0) ∧ sm_F1 (g35 28) (g55 28) (g35 1046 0) ∧ sm_F1 (g35 29) (g55 29) (g35 1046 0) ∧ sm_F1 (g35 1100007) (g55 1100007) ((g35 1046 0) + 1) ∧ sm_F1 (g35 1100023) (g55 1100023) ((g35 1046 0) + 1) ∧ sm_F1 (g35 1100024) (g55 1100024) ((g35 1046 0) + 1) ∧ sm_F1 (g35 1100025) (g55 1100025) ((g35 1046 0) + 1) ∧ ((g55 1047 0) = 0 → (g35 1047 0) = 0 ∧ (g55 1046 0) = (g35 1046 0) + 1 ∧ sm_KC (g55 26) (g55 27) (g55 28) (g55 29) (g55 1100007) (g55 1100023) (g55 1100024) (g55 1100025) (g35 31) (g35 1100009) (g35 1100027) (g35 1100028) (g35 1100026) (g35 1100030) (S 21) (S 32) (S 33) (g55 1046 0) (g35 1053 0) (S 1056 0) (S 1032 0) (S 1007 0) (g35 1100033 0) ∧ sm_MB (g35 31) (g35 1100030) (g35 1053 0) (g55 1046 0) ∧ (g55 26 (g35 1046 0)) = (13 : Int) ∧ (g55 29 (g35 1046 0)) = (S 1056 0) ∧ (g55 1100007 (g55 1046 0)) = ((g35 1100007 (g35 1046 0)) + sm_dl (13 : Int) (p1)) ∧ (g55 1100023 (g55 1046 0)) = (sm_nt (13 : Int) (g35 1046 0) (g35 1100023 (g35 1046 0)) (g35 1100023 (g35 1100023 (g35 1046 0)))) ∧ (g55 1100024 (g55 1046 0)) = (sm_nd (13 : Int) (g35 1100024 (g35 1046 0))) ∧ (g55 1100025 (g55 1046 0)) = (sm_nl (13 : Int) (g35 1046 0) (g35 1100007 (g35 1046 0)) (g35 1100025 (g35 1046 0)) (g35 1100007 (g35 1100025 (g35 1046 0))) (g35 1100025 (g35 1100025 (g35 1046 0)))) ∧ (g55 1100007 (g55 1100023 (g55 1046 0))) = sm_nt (13 : Int) (g35 1100007 (g35 1046 0)) (g35 1100007 (g35 1100023 (g35 1046 0))) (g35 1100007 (g35 1100023 (g35 1100023 (g35 1046 0)))) ∧ ((13 : Int) = 29 → (g55 1100007 (g55 1100025 (g55 1046 0))) = (g35 1100007 (g35 1046 0))) ∧ ((13 : Int) = 17 → 0 ≤ (g35 1100025 (g35 1046 0)) → (g35 1100007 (g35 1100025 (g35 1046 0))) = (g35 1100007 (g35 1046 0)) → (g55 1100007 (g55 1100025 (g55 1046 0))) = (g35 1100007 (g35 1100025 (g35 1100025 (g35 1046 0))))) ∧ (¬ (13 : Int) = 29 → ((13 : Int) = 17 → 0 ≤ (g35 1100025 (g35 1046 0)) → (g35 1100007 (g35 1100025 (g35 1046 0))) < (g35 1100007 (g35 1046 0))) → (g55 1100007 (g55 1100025 (g55 1046 0))) = (g35 1100007 (g35 1100025 (g35 1046 0)))))) → (0 ≤ (g55 1046 0) ∧ (g55 1046 0) ≤ 600 ∧ 0 ≤ (g55 1047 0) ∧ (g55 1047 0) ≤ 1 ∧ 0 ≤ (g35 1053 0) ∧ 0 ≤ (g35 1066 0) ∧ (S 1046 0) ≤ (g55 1046 0) ∧ ((S 1047 0) = 1 → (g55 1047 0) = 1) ∧ sm_F1 (S 26) (g55 26) (S 1046 0) ∧ sm_F1 (S 27) (g55 27) (S 1046 0) ∧ sm_F1 (S 28) (g55 28) (S 1046 0) ∧ sm_F1 (S 29) (g55 29) (S 1046 0) ∧ sm_F1 (S 1100007) (g55 1100007) ((S 1046 0) + 1) ∧ sm_F1 (S 1100023) (g55 1100023) ((S 1046 0) + 1) ∧ sm_F1 (S 1100024) (g55 1100024) ((S 1046 0) + 1) ∧ sm_F1 (S 1100025) (g55 1100025) ((S 1046 0) + 1) ∧ sm_F1 (S 1100009) (g35 1100009) (S 1053 0) ∧ sm_F1 (S 1100027) (g35 1100027) (S 1053 0) ∧ sm_F1 (S 1100028) (g35 1100028) (S 1053 0) ∧ sm_F1 (S 1100026) (g35 1100026) (S 1053 0) ∧ sm_F1 (S 1100030) (g35 1100030) (S 1053 0) ∧ sm_F1 (S 31) (g35 31) (S 1053 0) ∧ (S 1053 0) ≤ (g35 1053 0) ∧ (g35 1066 0) = (S 1066 0) ∧ sm_F1 (S 39) (g35 39) (S 1066 0) ∧ ((S 1047 0) = 1 → (g35 1053 0) = (S 1053 0)) ∧ ((S 1047 0) = 0 → (g35 1053 0) ≤ (S 1053 0) + 3 * (600 - (S 1046 0)) + (S 1100002 p2)) ∧ ((g55 1047 0) = 0 → (S 1047 0) = 0 ∧ sm_KC (g55 26) (g55 27) (g55 28) (g55 29) (g55 1100007) (g55 1100023) (g55 1100024) (g55 1100025) (g35 31) (g35 1100009) (g35 1100027) (g35 1100028) (g35 1100026) (g35 1100030) (S 21) (S 32) (S 33) (g55 1046 0) (g35 1053 0) (S 1056 0) (S 1032 0) (S 1007 0) (g35 1100033 0) ∧ (g35 1100033 0) = (g35 1055 0) ∧ 0 ≤ (g35 1055 0) ∧ (g35 1055 0) ≤ (g55 1046 0) ∧ (S 1046 0) + 1 ≤ (g55 1046 0) ∧ sm_FC (g55 29) (S 1046 0) (g55 1046 0) (S 1056 0) ∧ (g55 1100007 (g55 1046 0)) = (S 1100007 (S 1046 0)) + 1 ∧ (g55 1100023 (g55 1046 0)) = (S 1100023 (S 1046 0)) ∧ (g55 1100024 (g55 1046 0)) = (S 1100024 (S 1046 0)) ∧ (g55 1100025 (g55 1046 0)) = (S 1100025 (S 1046 0)) ∧ (g55 1100007 (g55 1100023 (g55 1046 0))) = (S 1100007 (S 1100023 (S 1046 0))) ∧ (g55 1100007 (g55 1100025 (g55 1046 0))) = (S 1100007 (S 1100025 (S 1046 0))) ∧ sm_AP (g35 1100030) (S 1053 0) (g35 1053 0) ∧ sm_HB (g55 1100007) (S 1046 0) (g55 1046 0) (2 * (S 1100007 (S 1046 0)) + ((g55 1046 0) - (S 1046 0)) + 8 * (S 1100005 p2) + 10) ∧ (g35 1053 0) ≤ (S 1053 0) + 3 * ((g55 1046 0) - (S 1046 0)) ∧ True))))))) ∧ ((¬ (¬ (S 11 p2) = (2 : Int))) → ((0 ≤ (S 14 p2) ∧ (S 14 p2) ≤ 1) → (((¬ (S 14 p2) = (0 : Int)) → (sm_WF (S 11) (S 12) (S 13) (S 1100001) (S 1100002) (S 1100005) (S 1100003) (S 1100004) (S 1024 0) (S 1007 0) (S 1009 0) (sm_fn (S 1032 0) (S 21) (S 1056 0)) ∧ (S 1009 0) = 0 ∧ 0 ≤ (S 1007 0) ∧ (S 1007 0) ≤ 90 ∧ 0 ≤ (S 1024 0) ∧ (S 1024 0) ≤ 12000 ∧ 1 ≤ (S 1032 0) ∧ (S 1032 0) ≤ 11 ∧ 0 ≤ (S 1056 0) ∧ (S 1056 0) < (S 1032 0) ∧ sm_VB (S 33) (S 21) (S 1032 0) ∧ 0 ≤ (S 1046 0) ∧ (S 1046 0) ≤ 600 ∧ 0 ≤ (S 1047 0) ∧ (S 1047 0) ≤ 1 ∧ 0 ≤ (S 1053 0) ∧ 0 ≤ (S 1066 0) ∧ 0 ≤ p2 ∧ p2 < (S 1024 0) ∧ (S 1100001 p2) = 1 ∧ sm_LF (S 39) (S 1100002) (S 1066 0) (S 1024 0) (12001 * (S 1100002 p2) + p2) ∧ ((S 1047 0) = 0 → sm_KC (S 26) (S 27) (S 28) (S 29) (S 1100007) (S 1100023) (S 1100024) (S 1100025) (S 31) (S 1100009) (S 1100027) (S 1100028) (S 1100026) (S 1100030) (S 21) (S 32) (S 33) (S 1046 0) (S 1053 0) (S 1056 0) (S 1032 0) (S 1007 0) (S 1100033 0) ∧ (S 1100033 0) = (S 1055 0) ∧ 0 ≤ (S 1055 0) ∧ (S 1055 0) ≤ (S 1046 0) ∧ (0 ≤ (S 1100023 (S 1046 0)) → (S 1100007 (S 1100023 (S 1046 0))) ≤ (S 1100007 (S 1046 0))) ∧ (0 ≤ (S 1100025 (S 1046 0)) → (S 1100007 (S 1100025 (S 1046 0))) ≤ (S 1100007 (S 1046 0))) ∧ (S 1100007 (S 1046 0)) ≤ (S 1046 0) ∧ (S 1053 0) + 3 * (600 - (S 1046 0)) + (S 1100002 p2) ≤ 8000)) ∧ (0 ≤ ((if (S 1047 0) = 0 then (S 1100002 p2) + (600 - (S 1046 0)) + 8 else 4)) ∧ ((if (S 1047 0) = 0 then (S 1100002 p2) + (600 - (S 1046 0)) + 8 else 4)) < d) ∧ (0 ≤ ((if (S 1047 0) = 0 then (S 1100002 p2) + (600 - (S 1046 0)) + 8 else 4)) ∧ ((if (S 1047 0) = 0 then (S 1100002 p2) + (600 - (S 1046 0)) + 8 else 4)) + 1 ≤ ((S 1100002 p2) + (600 - (S 1046 0)) + 9)) ∧ (∀ g64 : sv_S, (0 ≤ (g64 1046 0) ∧ (g64 1046 0) ≤ 600 ∧ 0 ≤ (g64 1047 0) ∧ (g64 1047 0) ≤ 1 ∧ 0 ≤ (g64 1053 0) ∧ 0 ≤ (g64 1066 0) ∧ (S 1046 0) ≤ (g64 1046 0) ∧ ((S 1047 0) = 1 → (g64 1047 0) = 1) ∧ sm_F1 (S 26) (g64 26) (S 1046 0) ∧ sm_F1 (S 27) (g64 27) (S 1046 0) ∧ sm_F1 (S 28) (g64 28) (S 1046 0) ∧ sm_F1 (S 29) (g64 29) (S 1046 0) ∧ sm_F1 (S 1100007) (g64 1100007) ((S 1046 0) + 1) ∧ sm_F1 (S 1100023) (g64 1100023) ((S 1046 0) + 1) ∧ sm_F1 (S 1100024) (g64 1100024) ((S 1046 0) + 1) ∧ sm_F1 (S 1100025) (g64 1100025) ((S 1046 0) + 1) ∧ sm_F1 (S 1100009) (g64 1100009) (S 1053 0) ∧ sm_F1 (S 1100027) (g64 1100027) (S 1053 0) ∧ sm_F1 (S 1100028) (g64 1100028) (S 1053 0) ∧ sm_F1 (S 1100026) (g64 1100026) (S 1053 0) ∧ sm_F1 (S 1100030) (g64 1100030) (S 1053 0) ∧ sm_F1 (S 31) (g64 31) (S 1053 0) ∧ (S 1053 0) ≤ (g64 1053 0) ∧ (g64 1066 0) = (S 1066 0) ∧ sm_F1 (S 39) (g64 39) (S 1066 0) ∧ ((S 1047 0) = 1 → (g64 1053 0) = (S 1053 0)) ∧ ((S 1047 0) = 0 → (g64 1053 0) ≤ (S 1053 0) + 3 * (600 - (S 1046 0)) + (S 1100002 p2)) ∧ ((g64 1047 0) = 0 → (S 1047 0) = 0 ∧ sm_KC (g64 26) (g64 27) (g64 28) (g64 29) (g64 1100007) (g64 1100023) (g64 1100024) (g64 1100025) (g64 31) (g64 1100009) (g64 1100027) (g64 1100028) (g64 1100026) (g64 1100030) (S 21) (S 32) (S 33) (g64 1046 0) (g64 1053 0) (S 1056 0) (S 1032 0) (S 1007 0) (g64 1100033 0) ∧ (g64 1100033 0) = (g64 1055 0) ∧ 0 ≤ (g64 1055 0) ∧ (g64 1055 0) ≤ (g64 1046 0) ∧ (S 1046 0) + 1 ≤ (g64 1046 0) ∧ sm_FC (g64 29) (S 1046 0) (g64 1046 0) (S 1056 0) ∧ (g64 1100007 (g64 1046 0)) = (S 1100007 (S 1046 0)) + 1 ∧ (g64 1100023 (g64 1046 0)) = (S 1100023 (S 1046 0)) ∧ (g64 1100024 (g64 1046 0)) = (S 1100024 (S 1046 0)) ∧ (g64 1100025 (g64 1046 0)) = (S 1100025 (S 1046 0)) ∧ (g64 1100007 (g64 1100023 (g64 1046 0))) = (S 1100007 (S 1100023 (S 1046 0))) ∧ (g64 1100007 (g64 1100025 (g64 1046 0))) = (S 1100007 (S 1100025 (S 1046 0))) ∧ sm_AP (g64 1100030) (S 1053 0) (g64 1053 0) ∧ sm_HB (g64 1100007) (S 1046 0) (g64 1046 0) (2 * (S 1100007 (S 1046 0)) + ((g64 1046 0) - (S 1046 0)) + 8 * (S 1100005 p2) + 10) ∧ (g64 1053 0) ≤ (S 1053 0) + 3 * ((g64 1046 0) - (S 1046 0)) ∧ True)) → ((((5 : Int) ≤ p1) → (0 ≤ (g64 1046 0) ∧ (g64 1046 0) ≤ 600 ∧ 0 ≤ (g64 1047 0) ∧ (g64 1047 0) ≤ 1 ∧ ((g64 1047 0) = 0 → sm_KC (g64 26) (g64 27) (g64 28) (g64 29) (g64 1100007) (g64 1100023) (g64 1100024) (g64 1100025) (g64 31) (g64 1100009) (g64 1100027) (g64 1100028) (g64 1100026) (g64 1100030) (S 21) (S 32) (S 33) (g64 1046 0) (g64 1053 0) (S 1056 0) (S 1032 0) (S 1007 0) (g64 1100033 0) ∧ 0 ≤ (17 : Int) ∧ (17 : Int) ≤ 30 ∧ sm_ci (17 : Int) ((0 : Int)) ((0 : Int)) (g64 1100007 (g64 1046 0)) (g64 1100023 (g64 1046 0)) (g64 1100024 (g64 1046 0)) (g64 1100025 (g64 1046 0)) (g64 1100007 (g64 1100023 (g64 1046 0))) (g64 1100007 (g64 1100025 (g64 1046 0))) (g64 1100023 (g64 1100023 (g64 1046 0))) (g64 1100025 (g64 1100025 (g64 1046 0))) (g64 1046 0) (g64 1100033 0) (S 1032 0) (S 1007 0) (S 21 (0 : Int)) (S 1056 0) ((g64 1100007 (g64 1046 0)) + sm_dl (17 : Int) ((0 : Int))) (sm_nt (17 : Int) (g64 1046 0) (g64 1100023 (g64 1046 0)) (g64 1100023 (g64 1100023 (g64 1046 0)))) (sm_nl (17 : Int) (g64 1046 0) (g64 1100007 (g64 1046 0)) (g64 1100025 (g64 1046 0)) (g64 1100007 (g64 1100025 (g64 1046 0))) (g64 1100025 (g64 1100025 (g64 1046 0)))) (g64 1100009 (0 : Int)) (g64 1100027 (0 : Int)) (g64 1100028 (0 : Int)) ∧ ((21 ≤ (17 : Int) ∧ (17 : Int) ≤ 24) ∨ (17 : Int) = 27 ∨ (17 : Int) = 30 → 0 ≤ (0 : Int) ∧ (0 : Int) < (g64 1053 0) ∧ (g64 1100026 (0 : Int)) = (S 1056 0)) ∧ ((17 : Int) = 1 ∨ (17 : Int) = 2 → sm_vv (S 21) (S 32) (S 33) (S 1056 0) (0 : Int) (0 : Int)))) ∧ (1 + 1 ≤ ((S 1100002 p2) + (600 - (S 1046 0)) + 9)) ∧ (∀ g71 : sv_S, (0 ≤ (g71 1047 0) ∧ (g71 1047 0) ≤ 1 ∧ 1 ≤ (g71 1046 0) ∧ (g64 1046 0) ≤ (g71 1046 0) ∧ (g71 1046 0) ≤ (g64 1046 0) + 1 ∧ (g71 1046 0) ≤ 600 ∧ ((g64 1047 0) = 1 → (g71 1047 0) = 1) ∧ ((g71 1047 0) = 1 → (g64 1047 0) = 1 ∨ (g64 1046 0) = 600) ∧ sm_F1 (g64 26) (g71 26) (g64 1046 0) ∧ sm_F1 (g64 27) (g71 27) (g64 1046 0) ∧ sm_F1 (g64 28) (g71 28) (g64 1046 0) ∧ sm_F1 (g64 29) (g71 29) (g64 1046 0) ∧ sm_F1 (g64 1100007) (g71 1100007) ((g64 1046 0) + 1) ∧ sm_F1 (g64 1100023) (g71 1100023) ((g64 1046 0) + 1) ∧ sm_F1 (g64 1100024) (g71 1100024) ((g64 1046 0) + 1) ∧ sm_F1 (g64 1100025) (g71 1100025) ((g64 1046 0) + 1) ∧ ((g71 1047 0) = 0 → (g64 1047 0) = 0 ∧ (g71 1046 0) = (g64 1046 0) + 1 ∧ sm_KC (g71 26) (g71 27) (g71 28) (g71 29) (g71 1100007) (g71 1100023) (g71 1100024) (g71 1100025) (g64 31) (g64 1100009) (g64 1100027) (g64 1100028) (g64 1100026) (g64 1100030) (S 21) (S 32) (S 33) (g71 1046 0) (g64 1053 0) (S 1056 0) (S 1032 0) (S 1007 0) (g64 1100033 0) ∧ sm_MB (g64 31) (g64 1100030) (g64 1053 0) (g71 1046 0) ∧ (g71 26 (g64 1046 0)) = (17 : Int) ∧ (g71 29 (g64 1046 0)) = (S 1056 0) ∧ (g71 1100007 (g71 1046 0)) = ((g64 1100007 (g64 1046 0)) + sm_dl (17 : Int) ((0 : Int))) ∧ (g71 1100023 (g71 1046 0)) = (sm_nt (17 : Int) (g64 1046 0) (g64 1100023 (g64 1046 0)) (g64 1100023 (g64 1100023 (g64 1046 0)))) ∧ (g71 1100024 (g71 1046 0)) = (sm_nd (17 : Int) (g64 1100024 (g64 1046 0))) ∧ (g71 1100025 (g71 1046 0)) = (sm_nl (17 : Int) (g64 1046 0) (g64 1100007 (g64 1046 0)) (g64 1100025 (g64 1046 0)) (g64 1100007 (g64 1100025 (g64 1046 0))) (g64 1100025 (g64 1100025 (g64 1046 0)))) ∧ (g71 1100007 (g71 1100023 (g71 1046 0))) = sm_nt (17 : Int) (g64 1100007 (g64 1046 0)) (g64 1100007 (g64 1100023 (g64 1046 0))) (g64 1100007 (g64 1100023 (g64 1100023 (g64 1046 0)))) ∧ ((17 : Int) = 29 → (g71 1100007 (g71 1100025 (g71 1046 0))) = (g64 1100007 (g64 1046 0))) ∧ ((17 : Int) = 17 → 0 ≤ (g64 1100025 (g64 1046 0)) → (g64 1100007 (g64 1100025 (g64 1046 0))) = (g64 1100007 (g64 1046 0)) → (g71 1100007 (g71 1100025 (g71 1046 0))) = (g64 1100007 (g64 1100025 (g64 1100025 (g64 1046 0))))) ∧ (¬ (17 : Int) = 29 → ((17 : Int) = 17 → 0 ≤ (g64 1100025 (g64 1046 0)) → (g64 1100007 (g64 1100025 (g64 1046 0))) < (g64 1100007 (g64 1046 0))) → (g71 1100007 (g71 1100025 (g71 1046 0))) = (g64 1100007 (g64 1100025 (g64 1046 0)))))) → (0 ≤ (g71 1046 0) ∧ (g71 1046 0) ≤ 600 ∧ 0 ≤ (g71 1047 0) ∧ (g71 1047 0) ≤ 1 ∧ ((g71 1047 0) = 0 → sm_KC (g71 26) (g71 27) (g71 28) (g71 29) (g71 1100007) (g71 1100023) (g71 1100024) (g71 1100025) (g64 31) (g64 1100009) (g64 1100027) (g64 1100028) (g64 1100026) (g64 1100030) (S 21) (S 32) (S 33) (g71 1046 0) (g64 1053 0) (S 1056 0) (S 1032 0) (S 1007 0) (g64 1100033 0) ∧ 0 ≤ (0 : Int) ∧ (0 : Int) ≤ 6 ∧ ((0 : Int) = 6 → 0 ≤ (0 : Int) ∧ (0 : Int) < (S 1007 0)) ∧ (0 ≤ (g71 1100023 (g71 1046 0)) → (g71 1100007 (g71 1100023 (g71 1046 0))) ≤ (g71 1100007 (g71 1046 0))) ∧ (0 ≤ (g71 1100025 (g71 1046 0)) → (g71 1100007 (g71 1100025 (g71 1046 0))) ≤ (g71 1100007 (g71 1046 0))))) ∧ (∀ g77 : sv_S, (0 ≤ (g77 1047 0) ∧ (g77 1047 0) ≤ 1 ∧ 1 ≤ (g77 1046 0) ∧ (g71 1046 0) ≤ (g77 1046 0) ∧ (g77 1046 0) ≤ (g71 1046 0) + 1 ∧ (g77 1046 0) ≤ 600 ∧ ((g71 1047 0) = 1 → (g77 1047 0) = 1) ∧ ((g77 1047 0) = 1 → (g71 1047 0) = 1 ∨ (g71 1046 0) = 600) ∧ sm_F1 (g71 26) (g77 26) (g71 1046 0) ∧ sm_F1 (g71 27) (g77 27) (g71 1046 0) ∧ sm_F1 (g71 28) (g77 28) (g71 1046 0) ∧ sm_F1 (g71 29) (g77 29) (g71 1046 0) ∧ sm_F1 (g71 1100007) (g77 1100007) ((g71 1046 0) + 1) ∧ sm_F1 (g71 1100023) (g77 1100023) ((g71 1046 0) + 1) ∧ sm_F1 (g71 1100024) (g77 1100024) ((g71 1046 0) + 1) ∧ sm_F1 (g71 1100025) (g77 1100025) ((g71 1046 0) + 1) ∧ ((g77 1047 0) = 0 → (g71 1047 0) = 0 ∧ (g77 1046 0) = (g71 1046 0) + 1 ∧ sm_KC (g77 26) (g77 27) (g77 28) (g77 29) (g77 1100007) (g77 1100023) (g77 1100024) (g77 1100025) (g64 31) (g64 1100009) (g64 1100027) (g64 1100028) (g64 1100026) (g64 1100030) (S 21) (S 32) (S 33) (g77 1046 0) (g64 1053 0) (S 1056 0) (S 1032 0) (S 1007 0) (g64 1100033 0) ∧ sm_MB (g64 31) (g64 1100030) (g64 1053 0) (g77 1046 0) ∧ (g77 26 (g71 1046 0)) = (0 : Int) ∧ (g77 29 (g71 1046 0)) = (S 1056 0) ∧ (g77 1100007 (g77 1046 0)) = ((g71 1100007 (g71 1046 0)) + sm_dl (0 : Int) ((0 : Int))) ∧ (g77 1100023 (g77 1046 0)) = (sm_nt (0 : Int) (g71 1046 0) (g71 1100023 (g71 1046 0)) (g71 1100023 (g71 1100023 (g71 1046 0)))) ∧ (g77 1100024 (g77 1046 0)) = (sm_nd (0 : Int) (g71 1100024 (g71 1046 0))) ∧ (g77 1100025 (g77 1046 0)) = (sm_nl (0 : Int) (g71 1046 0) (g71 1100007 (g71 1046 0)) (g71 1100025 (g71 1046 0)) (g71 1100007 (g71 1100025 (g71 1046 0))) (g71 1100025 (g71 1100025 (g71 1046 0)))) ∧ (g77 1100007 (g77 1100023 (g77 1046 0))) = sm_nt (0 : Int) (g71 1100007 (g71 1046 0)) (g71 1100007 (g71 1100023 (g71 1046 0))) (g71 1100007 (g71 1100023 (g71 1100023 (g71 1046 0)))) ∧ ((0 : Int) = 29 → (g77 1100007 (g77 1100025 (g77 1046 0))) = (g71 1100007 (g71 1046 0))) ∧ ((0 : Int) = 17 → 0 ≤ (g71 1100025 (g71 1046 0)) → (g71 1100007 (g71 1100025 (g71 1046 0))) = (g71 1100007 (g71 1046 0)) → (g77 1100007 (g77 1100025 (g77 1046 0))) = (g71 1100007 (g71 1100025 (g71 1100025 (g71 1046 0))))) ∧ (¬ (0 : Int) = 29 → ((0 : Int) = 17 → 0 ≤ (g71 1100025 (g71 1046 0)) → (g71 1100007 (g71 1100025 (g71 1046 0))) < (g71 1100007 (g71 1046 0))) → (g77 1100007 (g77 1100025 (g77 1046 0))) = (g71 1100007 (g71 1100025 (g71 1046 0)))))) → (0 ≤ (g77 1046 0) ∧ (g77 1046 0) ≤ 600 ∧ 0 ≤ (g77 1047 0) ∧ (g77 1047 0) ≤ 1 ∧ 0 ≤ (g64 1053 0) ∧ 0 ≤ (g64 1066 0) ∧ (S 1046 0) ≤ (g77 1046 0) ∧ ((S 1047 0) = 1 → (g77 1047 0) = 1) ∧ sm_F1 (S 26) (g77 26) (S 1046 0) ∧ sm_F1 (S 27) (g77 27) (S 1046 0) ∧ sm_F1 (S 28) (g77 28) (S 1046 0) ∧ sm_F1 (S 29) (g77 29) (S 1046 0) ∧ sm_F1 (S 1100007) (g77 1100007) ((S 1046 0) + 1) ∧ sm_F1 (S 1100023) (g77 1100023) ((S 1046 0) + 1) ∧ sm_F1 (S 1100024) (g77 1100024) ((S 1046 0) + 1) ∧ sm_F1 (S 1100025) (g77 1100025) ((S 1046 0) + 1) ∧ sm_F1 (S 1100009) (g64 1100009) (S 1053 0) ∧ sm_F1 (S 1100027) (g64 1100027) (S 1053 0) ∧ sm_F1 (S 1100028) (g64 1100028) (S 1053 0) ∧ sm_F1 (S 1100026) (g64 1100026) (S 1053 0) ∧ sm_F1 (S 1100030) (g64 1100030) (S 1053 0) ∧ sm_F1 (S 31) (g64 31) (S 1053 0) ∧ (S 1053 0) ≤ (g64 1053 0) ∧ (g64 1066 0) = (S 1066 0) ∧ sm_F1 (S 39) (g64 39) (S 1066 0) ∧ ((S 1047 0) = 1 → (g64 1053 0) = (S 1053 0)) ∧ ((S 1047 0) = 0 → (g64 1053 0) ≤ (S 1053 0) + 3 * (600 - (S 1046 0)) + (S 1100002 p2)) ∧ ((g77 1047 0) = 0 → (S 1047 0) = 0 ∧ sm_KC (g77 26) (g77 27) (g77 28) (g77 29) (g77 1100007) (g77 1100023) (g77 1100024) (g77 1100025) (g64 31) (g64 1100009) (g64 1100027) (g64 1100028) (g64 1100026) (g64 1100030) (S 21) (S 32) (S 33) (g77 1046 0) (g64 1053 0) (S 1056 0) (S 1032 0) (S 1007 0) (g64 1100033 0) ∧ (g64 1100033 0) = (g64 1055 0) ∧ 0 ≤ (g64 1055 0) ∧ (g64 1055 0) ≤ (g77 1046 0) ∧ (S 1046 0) + 1 ≤ (g77 1046 0) ∧ sm_FC (g77 29) (S 1046 0) (g77 1046 0) (S 1056 0) ∧ (g77 1100007 (g77 1046 0)) = (S 1100007 (S 1046 0)) + 1 ∧ (g77 1100023 (g77 1046 0)) = (S 1100023 (S 1046 0)) ∧ (g77 1100024 (g77 1046 0)) = (S 1100024 (S 1046 0)) ∧ (g77 1100025 (g77 1046 0)) = (S 1100025 (S 1046 0)) ∧ (g77 1100007 (g77 1100023 (g77 1046 0))) = (S 1100007 (S 1100023 (S 1046 0))) ∧ (g77 1100007 (g77 1100025 (g77 1046 0))) = (S 1100007 (S 1100025 (S 1046 0))) ∧ sm_AP (g64 1100030) (S 1053 0) (g64 1053 0) ∧ sm_HB (g77 1100007) (S 1046 0) (g77 1046 0) (2 * (S 1100007 (S 1046 0)) + ((g77 1046 0) - (S 1046 0)) + 8 * (S 1100005 p2) + 10) ∧ (g64 1053 0) ≤ (S 1053 0) + 3 * ((g77 1046 0) - (S 1046 0)) ∧ True))))) ∧ ((¬ ((5 : Int) ≤ p1)) → (0 ≤ (g64 1046 0) ∧ (g64 1046 0) ≤ 600 ∧ 0 ≤ (g64 1047 0) ∧ (g64 1047 0) ≤ 1 ∧ ((g64 1047 0) = 0 → sm_KC (g64 26) (g64 27) (g64 28) (g64 29) (g64 1100007) (g64 1100023) (g64 1100024) (g64 1100025) (g64 31) (g64 1100009) (g64 1100027) (g64 1100028) (g64 1100026) (g64 1100030) (S 21) (S 32) (S 33) (g64 1046 0) (g64 1053 0) (S 1056 0) (S 1032 0) (S 1007 0) (g64 1100033 0) ∧ 0 ≤ (13 : Int) ∧ (13 : Int) ≤ 30 ∧ sm_ci (13 : Int) (p1) ((0 : Int)) (g64 1100007 (g64 1046 0)) (g64 1100023 (g64 1046 0)) (g64 1100024 (g64 1046 0)) (g64 1100025 (g64 1046 0)) (g64 1100007 (g64 1100023 (g64 1046 0))) (g64 1100007 (g64 1100025 (g64 1046 0))) (g64 1100023 (g64 1100023 (g64 1046 0))) (g64 1100025 (g64 1100025 (g64 1046 0))) (g64 1046 0) (g64 1100033 0) (S 1032 0) (S 1007 0) (S 21 p1) (S 1056 0) ((g64 1100007 (g64 1046 0)) + sm_dl (13 : Int) (p1)) (sm_nt (13 : Int) (g64 1046 0) (g64 1100023 (g64 1046 0)) (g64 1100023 (g64 1100023 (g64 1046 0)))) (sm_nl (13 : Int) (g64 1046 0) (g64 1100007 (g64 1046 0)) (g64 1100025 (g64 1046 0)) (g64 1100007 (g64 1100025 (g64 1046 0))) (g64 1100025 (g64 1100025 (g64 1046 0)))) (g64 1100009 p1) (g64 1100027 p1) (g64 1100028 p1) ∧ ((21 ≤ (13 : Int) ∧ (13 : Int) ≤ 24) ∨ (13 : Int) = 27 ∨ (13 : Int) = 30 → 0 ≤ p1 ∧ p1 < (g64 1053 0) ∧ (g64 1100026 p1) = (S 1056 0)) ∧ ((13 : Int) = 1 ∨ (13 : Int) = 2 → sm_vv (S 21) (S 32) (S 33) (S 1056 0) p1 (0 : Int)))) ∧ (0 + 1 ≤ ((S 1100002 p2) + (600 - (S 1046 0)) + 9)) ∧ (∀ g84 : sv_S, (0 ≤ (g84 1047 0) ∧ (g84 1047 0) ≤ 1 ∧ 1 ≤ (g84 1046 0) ∧ (g64 1046 0) ≤ (g84 1046 0) ∧ (g84 1046 0) ≤ (g64 1046 0) + 1 ∧ (g84 1046 0) ≤ 600 ∧ ((g64 1047 0) = 1 → (g84 1047 0) = 1) ∧ ((g84 1047 0) = 1 → (g64 1047 0) = 1 ∨ (g64 1046 0) = 600) ∧ sm_F1 (g64 26) (g84 26) (g64 1046 0) ∧ sm_F1 (g64 27) (g84 27) (g64 1046 0) ∧ sm_F1 (g64 28) (g84 28) (g64 1046 0) ∧ sm_F1 (g64 29) (g84 29) (g64 1046 0) ∧ sm_F1 (g64 1100007) (g84 1100007) ((g64 1046 0) + 1) ∧ sm_F1 (g64 1100023) (g84 1100023) ((g64 1046 0) + 1) ∧ sm_F1 (g64 1100024) (g84 1100024) ((g64 1046 0) + 1) ∧ sm_F1 (g64 1100025) (g84 1100025) ((g64 1046 0) + 1) ∧ ((g84 1047 0) = 0 → (g64 1047 0) = 0 ∧ (g84 1046 0) = (g64 1046 0) + 1 ∧ sm_KC (g84 26) (g84 27) (g84 28) (g84 29) (g84 1100007) (g84 1100023) (g84 1100024) (g84 1100025) (g64 31) (g64 1100009) (g64 1100027) (g64 1100028) (g64 1100026) (g64 1100030) (S 21) (S 32) (S 33) (g84 1046 0) (g64 1053 0) (S 1056 0) (S 1032 0) (S 1007 0) (g64 1100033 0) ∧ sm_MB (g64 31) (g64 1100030) (g64 1053 0) (g84 1046 0) ∧ (g84 26 (g64 1046 0)) = (13 : Int) ∧ (g84 29 (g64 1046 0)) = (S 1056 0) ∧ (g84 1100007 (g84 1046 0)) = ((g64 1100007 (g64 1046 0)) + sm_dl (13 : Int) (p1)) ∧ (g84 1100023 (g84 1046 0)) = (sm_nt (13 : Int) (g64 1046 0) (g64 1100023 (g64 1046 0)) (g64 1100023 (g64 1100023 (g64 1046 0)))) ∧ (g84 1100024 (g84 1046 0)) = (sm_nd (13 : Int) (g64 1100024 (g64 1046 0))) ∧ (g84 1100025 (g84 1046 0)) = (sm_nl (13 : Int) (g64 1046 0) (g64 1100007 (g64 1046 0)) (g64 1100025 (g64 1046 0)) (g64 1100007 (g64 1100025 (g64 1046 0))) (g64 1100025 (g64 1100025 (g64 1046 0)))) ∧ (g84 1100007 (g84 1100023 (g84 1046 0))) = sm_nt (13 : Int) (g64 1100007 (g64 1046 0)) (g64 1100007 (g64 1100023 (g64 1046 0))) (g64 1100007 (g64 1100023 (g64 1100023 (g64 1046 0)))) ∧ ((13 : Int) = 29 → (g84 1100007 (g84 1100025 (g84 1046 0))) = (g64 1100007 (g64 1046 0))) ∧ ((13 : Int) = 17 → 0 ≤ (g64 1100025 (g64 1046 0)) → (g64 1100007 (g64 1100025 (g64 1046 0))) = (g64 1100007 (g64 1046 0)) → (g84 1100007 (g84 1100025 (g84 1046 0))) = (g64 1100007 (g64 1100025 (g64 1100025 (g64 1046 0))))) ∧ (¬ (13 : Int) = 29 → ((13 : Int) = 17 → 0 ≤ (g64 1100025 (g64 1046 0)) → (g64 1100007 (g64 1100025 (g64 1046 0))) < (g64 1100007 (g64 1046 0))) → (g84 1100007 (g84 1100025 (g84 1046 0))) = (g64 1100007 (g64 1100025 (g64 1046 0)))))) → (0 ≤ (g84 1046 0) ∧ (g84 1046 0) ≤ 600 ∧ 0 ≤ (g84 1047 0) ∧ (g84 1047 0) ≤ 1 ∧ 0 ≤ (g64 1053 0) ∧ 0 ≤ (g64 1066 0) ∧ (S 1046 0) ≤ (g84 1046 0) ∧ ((S 1047 0) = 1 → (g84 1047 0) = 1) ∧ sm_F1 (S 26) (g84 26) (S 1046 0) ∧ sm_F1 (S 27) (g84 27) (S 1046 0) ∧ sm_F1 (S 28) (g84 28) (S 1046 0) ∧ sm_F1 (S 29) (g84 29) (S 1046 0) ∧ sm_F1 (S 1100007) (g84 1100007) ((S 1046 0) + 1) ∧ sm_F1 (S 1100023) (g84 1100023) ((S 1046 0) + 1) ∧ sm_F1 (S 1100024) (g84 1100024) ((S 1046 0) + 1) ∧ sm_F1 (S 1100025) (g84 1100025) ((S 1046 0) + 1) ∧ sm_F1 (S 1100009) (g64 1100009) (S 1053 0) ∧ sm_F1 (S 1100027) (g64 1100027) (S 1053 0) ∧ sm_F1 (S 1100028) (g64 1100028) (S 1053 0) ∧ sm_F1 (S 1100026) (g64 1100026) (S 1053 0) ∧ sm_F1 (S 1100030) (g64 1100030) (S 1053 0) ∧ sm_F1 (S 31) (g64 31) (S 1053 0) ∧ (S 1053 0) ≤ (g64 1053 0) ∧ (g64 1066 0) = (S 1066 0) ∧ sm_F1 (S 39) (g64 39) (S 1066 0) ∧ ((S 1047 0) = 1 → (g64 1053 0) = (S 1053 0)) ∧ ((S 1047 0) = 0 → (g64 1053 0) ≤ (S 1053 0) + 3 * (600 - (S 1046 0)) + (S 1100002 p2)) ∧ ((g84 1047 0) = 0 → (S 1047 0) = 0 ∧ sm_KC (g84 26) (g84 27) (g84 28) (g84 29) (g84 1100007) (g84 1100023) (g84 1100024) (g84 1100025) (g64 31) (g64 1100009) (g64 1100027) (g64 1100028) (g64 1100026) (g64 1100030) (S 21) (S 32) (S 33) (g84 1046 0) (g64 1053 0) (S 1056 0) (S 1032 0) (S 1007 0) (g64 1100033 0) ∧ (g64 1100033 0) = (g64 1055 0) ∧ 0 ≤ (g64 1055 0) ∧ (g64 1055 0) ≤ (g84 1046 0) ∧ (S 1046 0) + 1 ≤ (g84 1046 0) ∧ sm_FC (g84 29) (S 1046 0) (g84 1046 0) (S 1056 0) ∧ (g84 1100007 (g84 1046 0)) = (S 1100007 (S 1046 0)) + 1 ∧ (g84 1100023 (g84 1046 0)) = (S 1100023 (S 1046 0)) ∧ (g84 1100024 (g84 1046 0)) = (S 1100024 (S 1046 0)) ∧ (g84 1100025 (g84 1046 0)) = (S 1100025 (S 1046 0)) ∧ (g84 1100007 (g84 1100023 (g84 1046 0))) = (S 1100007 (S 1100023 (S 1046 0))) ∧ (g84 1100007 (g84 1100025 (g84 1046 0))) = (S 1100007 (S 1100025 (S 1046 0))) ∧ sm_AP (g64 1100030) (S 1053 0) (g64 1053 0) ∧ sm_HB (g84 1100007) (S 1046 0) (g84 1046 0) (2 * (S 1100007 (S 1046 0)) + ((g84 1046 0) - (S 1046 0)) + 8 * (S 1100005 p2) + 10) ∧ (g64 1053 0) ≤ (S 1053 0) + 3 * ((g84 1046 0) - (S 1046 0)) ∧ True))))))) ∧ ((¬ (¬ (S 14 p2) = (0 : Int))) → ((sm_WF (S 11) (S 12) (S 13) (S 1100001) (S 1100002) (S 1100005) (S 1100003) (S 1100004) (S 1024 0) (S 1007 0) (S 1009 0) (sm_fn (S 1032 0) (S 21) (S 1056 0)) → 0 ≤ p2 → p2 < (S 1024 0) → (S 1100001 p2) = 1 → (S 11 p2) = 2 → sm_nm (S 1007 0) (S 1009 0) ((S 12 (5 * (p2))))) → ((sm_nm (S 1007 0) (S 1009 0) ((S 12 (5 * p2))) → (S 1009 0) = 0 → 0 ≤ (S 12 (5 * p2)) ∧ (S 12 (5 * p2)) < (S 1007 0)) → (0 ≤ p2 ∧ p2 < 12000 ∧ 0 ≤ (0 : Int) ∧ (0 : Int) ≤ 4) ∧ (0 + 1 ≤ ((S 1100002 p2) + (600 - (S 1046 0)) + 9)) ∧ (0 ≤ (S 1046 0) ∧ (S 1046 0) ≤ 600 ∧ 0 ≤ (S 1047 0) ∧ (S 1047 0) ≤ 1 ∧ 0 ≤ (S 1056 0) ∧ (S 1056 0) < (S 1032 0) ∧ (S 1032 0) ≤ 11 ∧ sm_VB (S 33) (S 21) (S 1032 0) ∧ (((1 : Int) = 1 ∧ ((5 : Int) = 3 ∨ (5 : Int) = 5)) ∨ ((1 : Int) = 2 ∧ (5 : Int) = 4)) ∧ ((S 1047 0) = 0 → sm_KC (S 26) (S 27) (S 28) (S 29) (S 1100007) (S 1100023) (S 1100024) (S 1100025) (S 31) (S 1100009) (S 1100027) (S 1100028) (S 1100026) (S 1100030) (S 21) (S 32) (S 33) (S 1046 0) (S 1053 0) (S 1056 0) (S 1032 0) (S 1007 0) (S 1100033 0) ∧ 0 ≤ ((S 12 (5 * p2 + (0 : Int)))) ∧ ((S 12 (5 * p2 + (0 : Int)))) < (S 1007 0) ∧ ((1 : Int) = 1 → (0 ≤ (S 1100023 (S 1046 0)) → (S 1100007 (S 1100023 (S 1046 0))) ≤ (S 1100007 (S 1046 0))) ∧ (0 ≤ (S 1100025 (S 1046 0)) → (S 1100007 (S 1100025 (S 1046 0))) ≤ (S 1100007 (S 1046 0)))) ∧ ((1 : Int) = 2 → 1 ≤ (S 1100007 (S 1046 0)) ∧ (0 ≤ (S 1100023 (S 1046 0)) → (S 1100007 (S 1100023 (S 1046 0))) ≤ (S 1100007 (S 1046 0)) - 1) ∧ (0 ≤ (S 1100025 (S 1046 0)) → (S 1100007 (S 1100025 (S 1046 0))) ≤ (S 1100007 (S 1046 0)) - 1)))) ∧ (1 + 1 ≤ ((S 1100002 p2) + (600 - (S 1046 0)) + 9)) ∧ (∀ g95 : sv_S, (0 ≤ (g95 1047 0) ∧ (g95 1047 0) ≤ 1 ∧ 1 ≤ (g95 1046 0) ∧ (S 1046 0) ≤ (g95 1046 0) ∧ (g95 1046 0) ≤ (S 1046 0) + 1 ∧ (g95 1046 0) ≤ 600 ∧ ((S 1047 0) = 1 → (g95 1047 0) = 1) ∧ ((g95 1047 0) = 1 → (S 1047 0) = 1 ∨ (S 1046 0) = 600) ∧ sm_F1 (S 26) (g95 26) (S 1046 0) ∧ sm_F1 (S 27) (g95 27) (S 1046 0) ∧ sm_F1 (S 28) (g95 28) (S 1046 0) ∧ sm_F1 (S 29) (g95 29) (S 1046 0) ∧ sm_F1 (S 1100007) (g95 1100007) ((S 1046 0) + 1) ∧ sm_F1 (S 1100023) (g95 1100023) ((S 1046 0) + 1) ∧ sm_F1 (S 1100024) (g95 1100024) ((S 1046 0) + 1) ∧ sm_F1 (S 1100025) (g95 1100025) ((S 1046 0) + 1) ∧ ((g95 1047 0) = 0 → (S 1047 0) = 0 ∧ (g95 1046 0) = (S 1046 0) + 1 ∧ sm_KC (g95 26) (g95 27) (g95 28) (g95 29) (g95 1100007) (g95 1100023) (g95 1100024) (g95 1100025) (S 31) (S 1100009) (S 1100027) (S 1100028) (S 1100026) (S 1100030) (S 21) (S 32) (S 33) (g95 1046 0) (S 1053 0) (S 1056 0) (S 1032 0) (S 1007 0) (S 1100033 0) ∧ sm_MB (S 31) (S 1100030) (S 1053 0) (g95 1046 0) ∧ ((g95 26 (S 1046 0)) = (1 : Int) ∨ (g95 26 (S 1046 0)) = (5 : Int)) ∧ (g95 29 (S 1046 0)) = (S 1056 0) ∧ (g95 1100007 (g95 1046 0)) = (S 1100007 (S 1046 0)) + (if (1 : Int) = 1 then 1 else 0) ∧ (g95 1100023 (g95 1046 0)) = (S 1100023 (S 1046 0)) ∧ (g95 1100024 (g95 1046 0)) = (S 1100024 (S 1046 0)) ∧ (g95 1100025 (g95 1046 0)) = (S 1100025 (S 1046 0)) ∧ (g95 1100007 (g95 1100023 (g95 1046 0))) = (S 1100007 (S 1100023 (S 1046 0))) ∧ (g95 1100007 (g95 1100025 (g95 1046 0))) = (S 1100007 (S 1100025 (S 1046 0))))) → (sv_R (g95 1046 0) → (0 ≤ ((g95 1046 0) - (1 : Int)) ∧ ((g95 1046 0) - (1 : Int)) < 600) ∧ (sv_R (g95 26 ((g95 1046 0) - (1 : Int))) → (((¬ (g95 26 ((g95 1046 0) - (1 : Int))) = (1 : Int)) → (0 ≤ (g95 1046 0) ∧ (g95 1046 0) ≤ 600 ∧ 0 ≤ (g95 1047 0) ∧ (g95 1047 0) ≤ 1 ∧ 0 ≤ (S 1053 0) ∧ 0 ≤ (S 1066 0) ∧ (S 1046 0) ≤ (g95 1046 0) ∧ ((S 1047 0) = 1 → (g95 1047 0) = 1) ∧ sm_F1 (S 26) (g95 26) (S 1046 0) ∧ sm_F1 (S 27) (g95 27) (S 1046 0) ∧ sm_F1 (S 28) (g95 28) (S 1046 0) ∧ sm_F1 (S 29) (g95 29) (S 1046 0) ∧ sm_F1 (S 1100007) (g95 1100007) ((S 1046 0) + 1) ∧ sm_F1 (S 1100023) (g95 1100023) ((S 1046 0) + 1) ∧ sm_F1 (S 1100024) (g95 1100024) ((S 1046 0) + 1) ∧ sm_F1 (S 1100025) (g95 1100025) ((S 1046 0) + 1) ∧ sm_F1 (S 1100009) (S 1100009) (S 1053 0) ∧ sm_F1 (S 1100027) (S 1100027) (S 1053 0) ∧ sm_F1 (S 1100028) (S 1100028) (S 1053 0) ∧ sm_F1 (S 1100026) (S 1100026) (S 1053 0) ∧ sm_F1 (S 1100030) (S 1100030) (S 1053 0) ∧ sm_F1 (S 31) (S 31) (S 1053 0) ∧ (S 1053 0) ≤ (S 1053 0) ∧ (S 1066 0) = (S 1066 0) ∧ sm_F1 (S 39) (S 39) (S 1066 0) ∧ ((S 1047 0) = 1 → (S 1053 0) = (S 1053 0)) ∧ ((S 1047 0) = 0 → (S 1053 0) ≤ (S 1053 0) + 3 * (600 - (S 1046 0)) + (S 1100002 p2)) ∧ ((g95 1047 0) = 0 → (S 1047 0) = 0 ∧ sm_KC (g95 26) (g95 27) (g95 28) (g95 29) (g95 1100007) (g95 1100023) (g95 1100024) (g95 1100025) (S 31) (S 1100009) (S 1100027) (S 1100028) (S 1100026) (S 1100030) (S 21) (S 32) (S 33) (g95 1046 0) (S 1053 0) (S 1056 0) (S 1032 0) (S 1007 0) (S 1100033 0) ∧ (S 1100033 0) = (S 1055 0) ∧ 0 ≤ (S 1055 0) ∧ (S 1055 0) ≤ (g95 1046 0) ∧ (S 1046 0) + 1 ≤ (g95 1046 0) ∧ sm_FC (g95 29) (S 1046 0) (g95 1046 0) (S 1056 0) ∧ (g95 1100007 (g95 1046 0)) = (S 1100007 (S 1046 0)) + 1 ∧ (g95 1100023 (g95 1046 0)) = (S 1100023 (S 1046 0)) ∧ (g95 1100024 (g95 1046 0)) = (S 1100024 (S 1046 0)) ∧ (g95 1100025 (g95 1046 0)) = (S 1100025 (S 1046 0)) ∧ (g95 1100007 (g95 1100023 (g95 1046 0))) = (S 1100007 (S 1100023 (S 1046 0))) ∧ (g95 1100007 (g95 1100025 (g95 1046 0))) = (S 1100007 (S 1100025 (S 1046 0))) ∧ sm_AP (S 1100030) (S 1053 0) (S 1053 0) ∧ sm_HB (g95 1100007) (S 1046 0) (g95 1046 0) (2 * (S 1100007 (S 1046 0)) + ((g95 1046 0) - (S 1046 0)) + 8 * (S 1100005 p2) + 10) ∧ (S 1053 0) ≤ (S 1053 0) + 3 * ((g95 1046 0) - (S 1046 0)) ∧ True))) ∧ ((¬ (¬ (g95 26 ((g95 1046 0) - (1 : Int))) = (1 : Int))) → (0 ≤ (g95 1046 0) ∧ (g95 1046 0) ≤ 600 ∧ 0 ≤ (g95 1047 0) ∧ (g95 1047 0) ≤ 1 ∧ ((g95 1047 0) = 0 → sm_KC (g95 26) (g95 27) (g95 28) (g95 29) (g95 1100007) (g95 1100023) (g95 1100024) (g95 1100025) (S 31) (S 1100009) (S 1100027) (S 1100028) (S 1100026) (S 1100030) (S 21) (S 32) (S 33) (g95 1046 0) (S 1053 0) (S 1056 0) (S 1032 0) (S 1007 0) (S 1100033 0) ∧ 0 ≤ (13 : Int) ∧ (13 : Int) ≤ 30 ∧ sm_ci (13 : Int) ((4 : Int)) ((0 : Int)) (g95 1100007 (g95 1046 0)) (g95 1100023 (g95 1046 0)) (g95 1100024 (g95 1046 0)) (g95 1100025 (g95 1046 0)) (g95 1100007 (g95 1100023 (g95 1046 0))) (g95 1100007 (g95 1100025 (g95 1046 0))) (g95 1100023 (g95 1100023 (g95 1046 0))) (g95 1100025 (g95 1100025 (g95 1046 0))) (g95 1046 0) (S 1100033 0) (S 1032 0) (S 1007 0) (S 21 (4 : Int)) (S 1056 0) ((g95 1100007 (g95 1046 0)) + sm_dl (13 : Int) ((4 : Int))) (sm_nt (13 : Int) (g95 1046 0) (g95 1100023 (g95 1046 0)) (g95 1100023 (g95 1100023 (g95 1046 0)))) (sm_nl (13 : Int) (g95 1046 0) (g95 1100007 (g95 1046 0)) (g95 1100025 (g95 1046 0)) (g95 1100007 (g95 1100025 (g95 1046 0))) (g95 1100025 (g95 1100025 (g95 1046 0)))) (S 1100009 (4 : Int)) (S 1100027 (4 : Int)) (S 1100028 (4 : Int)) ∧ ((21 ≤ (13 : Int) ∧ (13 : Int) ≤ 24) ∨ (13 : Int) = 27 ∨ (13 : Int) = 30 → 0 ≤ (4 : Int) ∧ (4 : Int) < (S 1053 0) ∧ (S 1100026 (4 : Int)) = (S 1056 0)) ∧ ((13 : Int) = 1 ∨ (13 : Int) = 2 → sm_vv (S 21) (S 32) (S 33) (S 1056 0) (4 : Int) (0 : Int)))) ∧ (∀ g104 : sv_S, (0 ≤ (g104 1047 0) ∧ (g104 1047 0) ≤ 1 ∧ 1 ≤ (g104 1046 0) ∧ (g95 1046 0) ≤ (g104 1046 0) ∧ (g104 1046 0) ≤ (g95 1046 0) + 1 ∧ (g104 1046 0) ≤ 600 ∧ ((g95 1047 0) = 1 → (g104 1047 0) = 1) ∧ ((g104 1047 0) = 1 → (g95 1047 0) = 1 ∨ (g95 1046 0) = 600) ∧ sm_F1 (g95 26) (g104 26) (g95 1046 0) ∧ sm_F1 (g95 27) (g104 27) (g95 1046 0) ∧ sm_F1 (g95 28) (g104 28) (g95 1046 0) ∧ sm_F1 (g95 29) (g104 29) (g95 1046 0) ∧ sm_F1 (g95 1100007) (g104 1100007) ((g95 1046 0) + 1) ∧ sm_F1 (g95 1100023) (g104 1100023) ((g95 1046 0) + 1) ∧ sm_F1 (g95 1100024) (g104 1100024) ((g95 1046 0) + 1) ∧ sm_F1 (g95 1100025) (g104 1100025) ((g95 1046 0) + 1) ∧ ((g104 1047 0) = 0 → (g95 1047 0) = 0 ∧ (g104 1046 0) = (g95 1046 0) + 1 ∧ sm_KC (g104 26) (g104 27) (g104 28) (g104 29) (g104 1100007) (g104 1100023) (g104 1100024) (g104 1100025) (S 31) (S 1100009) (S 1100027) (S 1100028) (S 1100026) (S 1100030) (S 21) (S 32) (S 33) (g104 1046 0) (S 1053 0) (S 1056 0) (S 1032 0) (S 1007 0) (S 1100033 0) ∧ sm_MB (S 31) (S 1100030) (S 1053 0) (g104 1046 0) ∧ (g104 26 (g95 1046 0)) = (13 : Int) ∧ (g104 29 (g95 1046 0)) = (S 1056 0) ∧ (g104 1100007 (g104 1046 0)) = ((g95 1100007 (g95 1046 0)) + sm_dl (13 : Int) ((4 : Int))) ∧ (g104 1100023 (g104 1046 0)) = (sm_nt (13 : Int) (g95 1046 0) (g95 1100023 (g95 1046 0)) (g95 1100023 (g95 1100023 (g95 1046 0)))) ∧ (g104 1100024 (g104 1046 0)) = (sm_nd (13 : Int) (g95 1100024 (g95 1046 0))) ∧ (g104 1100025 (g104 1046 0)) = (sm_nl (13 : Int) (g95 1046 0) (g95 1100007 (g95 1046 0)) (g95 1100025 (g95 1046 0)) (g95 1100007 (g95 1100025 (g95 1046 0))) (g95 1100025 (g95 1100025 (g95 1046 0)))) ∧ (g104 1100007 (g104 1100023 (g104 1046 0))) = sm_nt (13 : Int) (g95 1100007 (g95 1046 0)) (g95 1100007 (g95 1100023 (g95 1046 0))) (g95 1100007 (g95 1100023 (g95 1100023 (g95 1046 0)))) ∧ ((13 : Int) = 29 → (g104 1100007 (g104 1100025 (g104 1046 0))) = (g95 1100007 (g95 1046 0))) ∧ ((13 : Int) = 17 → 0 ≤ (g95 1100025 (g95 1046 0)) → (g95 1100007 (g95 1100025 (g95 1046 0))) = (g95 1100007 (g95 1046 0)) → (g104 1100007 (g104 1100025 (g104 1046 0))) = (g95 1100007 (g95 1100025 (g95 1100025 (g95 1046 0))))) ∧ (¬ (13 : Int) = 29 → ((13 : Int) = 17 → 0 ≤ (g95 1100025 (g95 1046 0)) → (g95 1100007 (g95 1100025 (g95 1046 0))) < (g95 1100007 (g95 1046 0))) → (g104 1100007 (g104 1100025 (g104 1046 0))) = (g95 1100007 (g95 1100025 (g95 1046 0)))))) → (0 ≤ (g104 1046 0) ∧ (g104 1046 0) ≤ 600 ∧ 0 ≤ (g104 1047 0) ∧ (g104 1047 0) ≤ 1 ∧ 0 ≤ (S 1053 0) ∧ 0 ≤ (S 1066 0) ∧ (S 1046 0) ≤ (g104 1046 0) ∧ ((S 1047 0) = 1 → (g104 1047 0) = 1) ∧ sm_F1 (S 26) (g104 26) (S 1046 0) ∧ sm_F1 (S 27) (g104 27) (S 1046 0) ∧ sm_F1 (S 28) (g104 28) (S 1046 0) ∧ sm_F1 (S 29) (g104 29) (S 1046 0) ∧ sm_F1 (S 1100007) (g104 1100007) ((S 1046 0) + 1) ∧ sm_F1 (S 1100023) (g104 1100023) ((S 1046 0) + 1) ∧ sm_F1 (S 1100024) (g104 1100024) ((S 1046 0) + 1) ∧ sm_F1 (S 1100025) (g104 1100025) ((S 1046 0) + 1) ∧ sm_F1 (S 1100009) (S 1100009) (S 1053 0) ∧ sm_F1 (S 1100027) (S 1100027) (S 1053 0) ∧ sm_F1 (S 1100028) (S 1100028) (S 1053 0) ∧ sm_F1 (S 1100026) (S 1100026) (S 1053 0) ∧ sm_F1 (S 1100030) (S 1100030) (S 1053 0) ∧ sm_F1 (S 31) (S 31) (S 1053 0) ∧ (S 1053 0) ≤ (S 1053 0) ∧ (S 1066 0) = (S 1066 0) ∧ sm_F1 (S 39) (S 39) (S 1066 0) ∧ ((S 1047 0) = 1 → (S 1053 0) = (S 1053 0)) ∧ ((S 1047 0) = 0 → (S 1053 0) ≤ (S 1053 0) + 3 * (600 - (S 1046 0)) + (S 1100002 p2)) ∧ ((g104 1047 0) = 0 → (S 1047 0) = 0 ∧ sm_KC (g104 26) (g104 27) (g104 28) (g104 29) (g104 1100007) (g104 1100023) (g104 1100024) (g104 1100025) (S 31) (S 1100009) (S 1100027) (S 1100028) (S 1100026) (S 1100030) (S 21) (S 32) (S 33) (g104 1046 0) (S 1053 0) (S 1056 0) (S 1032 0) (S 1007 0) (S 1100033 0) ∧ (S 1100033 0) = (S 1055 0) ∧ 0 ≤ (S 1055 0) ∧ (S 1055 0) ≤ (g104 1046 0) ∧ (S 1046 0) + 1 ≤ (g104 1046 0) ∧ sm_FC (g104 29) (S 1046 0) (g104 1046 0) (S 1056 0) ∧ (g104 1100007 (g104 1046 0)) = (S 1100007 (S 1046 0)) + 1 ∧ (g104 1100023 (g104 1046 0)) = (S 1100023 (S 1046 0)) ∧ (g104 1100024 (g104 1046 0)) = (S 1100024 (S 1046 0)) ∧ (g104 1100025 (g104 1046 0)) = (S 1100025 (S 1046 0)) ∧ (g104 1100007 (g104 1100023 (g104 1046 0))) = (S 1100007 (S 1100023 (S 1046 0))) ∧ (g104 1100007 (g104 1100025 (g104 1046 0))) = (S 1100007 (S 1100025 (S 1046 0))) ∧ sm_AP (S 1100030) (S 1053 0) (S 1053 0) ∧ sm_HB (g104 1100007) (S 1046 0) (g104 1046 0) (2 * (S 1100007 (S 1046 0)) + ((g104 1046 0) - (S 1046 0)) + 8 * (S 1100005 p2) + 10) ∧ (S 1053 0) ≤ (S 1053 0) + 3 * ((g104 1046 0) - (S 1046 0)) ∧ True))))))))))))))))))) ∧ ((¬ (¬ p1 = (6 : Int))) → ((sm_WF (S 11) (S 12) (S 13) (S 1100001) (S 1100002) (S 1100005) (S 1100003) (S 1100004) (S 1024 0) (S 1007 0) (S 1009 0) (sm_fn (S 1032 0) (S 21) (S 1056 0)) → 0 ≤ p2 → p2 < (S 1024 0) → (S 1100001 p2) = 1 → (S 11 p2) = 7 → sm_ex (S 1100001) (S 1100002) (S 1100005) (S 1024 0) 1 ((S 12 (5 * (p2)))) ((S 1100002 (p2))) ((S 1100005 (p2))) ∧ (S 12 (5 * (p2))) < (p2) ∧ sm_ex (S 1100001) (S 1100002) (S 1100005) (S 1024 0) 1 ((S 12 (5 * (p2) + 1))) (((S 1100002 (p2))) - 1) ((S 1100005 (p2))) ∧ (S 12 (5 * (p2) + 1)) < (p2)) → ((sm_WF (S 11) (S 12) (S 13) (S 1100001) (S 1100002) (S 1100005) (S 1100003) (S 1100004) (S 1024 0) (S 1007 0) (S 1009 0) (sm_fn (S 1032 0) (S 21) (S 1056 0)) → 0 ≤ (S 12 (5 * p2)) → (S 12 (5 * p2)) < (S 1024 0) → ((S 1100001 ((S 12 (5 * p2)))) = 1 → 0 ≤ (S 1100002 ((S 12 (5 * p2)))) ∧ ((S 11 ((S 12 (5 * p2)))) = 3 → (S 12 (5 * ((S 12 (5 * p2))) + 1)) < ((S 12 (5 * p2)))) ∧ ((S 11 ((S 12 (5 * p2)))) = 4 ∨ (S 11 ((S 12 (5 * p2)))) = 5 ∨ (S 11 ((S 12 (5 * p2)))) = 8 ∨ (S 11 ((S 12 (5 * p2)))) = 9 → 17 * (S 1100005 ((S 12 (5 * p2)))) + 2 ≤ (S 1100002 ((S 12 (5 * p2))))) ∧ 0 ≤ (S 1100005 ((S 12 (5 * p2))))) ∧ ((S 1100001 ((S 12 (5 * p2)))) = 2 → 0 ≤ (S 1100005 ((S 12 (5 * p2)))) ∧ (S 1100002 ((S 12 (5 * p2)))) ≤ 17 * (S 1100005 ((S 12 (5 * p2)))) + 5 ∧ ((S 11 ((S 12 (5 * p2)))) = 33 → 1 ≤ (S 1100005 ((S 12 (5 * p2)))))) ∧ ((S 1100001 ((S 12 (5 * p2)))) = 6 → 0 ≤ (S 1100002 ((S 12 (5 * p2)))) ∧ 1 ≤ (S 1100004 ((S 12 (5 * p2)))) ∧ ((S 12 (5 * ((S 12 (5 * p2))))) = - 1 → (S 1100004 ((S 12 (5 * p2)))) = 2)) ∧ ((S 1100001 ((S 12 (5 * p2)))) = 3 → 1 ≤ (S 1100002 ((S 12 (5 * p2)))))) → ((sm_WF (S 11) (S 12) (S 13) (S 1100001) (S 1100002) (S 1100005) (S 1100003) (S 1100004) (S 1024 0) (S 1007 0) (S 1009 0) (sm_fn (S 1032 0) (S 21) (S 1056 0)) → 0 ≤ (S 12 (5 * p2 + 1)) → (S 12 (5 * p2 + 1)) < (S 1024 0) → ((S 1100001 ((S 12 (5 * p2 + 1)))) = 1 → 0 ≤ (S 1100002 ((S 12 (5 * p2 + 1)))) ∧ ((S 11 ((S 12 (5 * p2 + 1)))) = 3 → (S 12 (5 * ((S 12 (5 * p2 + 1))) + 1)) < ((S 12 (5 * p2 + 1)))) ∧ ((S 11 ((S 12 (5 * p2 + 1)))) = 4 ∨ (S 11 ((S 12 (5 * p2 + 1)))) = 5 ∨ (S 11 ((S 12 (5 * p2 + 1)))) = 8 ∨ (S 11 ((S 12 (5 * p2 + 1)))) = 9 → 17 * (S 1100005 ((S 12 (5 * p2 + 1)))) + 2 ≤ (S 1100002 ((S 12 (5 * p2 + 1))))) ∧ 0 ≤ (S 1100005 ((S 12 (5 * p2 + 1))))) ∧ ((S 1100001 ((S 12 (5 * p2 + 1)))) = 2 → 0 ≤ (S 1100005 ((S 12 (5 * p2 + 1)))) ∧ (S 1100002 ((S 12 (5 * p2 + 1)))) ≤ 17 * (S 1100005 ((S 12 (5 * p2 + 1)))) + 5 ∧ ((S 11 ((S 12 (5 * p2 + 1)))) = 33 → 1 ≤ (S 1100005 ((S 12 (5 * p2 + 1)))))) ∧ ((S 1100001 ((S 12 (5 * p2 + 1)))) = 6 → 0 ≤ (S 1100002 ((S 12 (5 * p2 + 1)))) ∧ 1 ≤ (S 1100004 ((S 12 (5 * p2 + 1)))) ∧ ((S 12 (5 * ((S 12 (5 * p2 + 1))))) = - 1 → (S 1100004 ((S 12 (5 * p2 + 1)))) = 2)) ∧ ((S 1100001 ((S 12 (5 * p2 + 1)))) = 3 → 1 ≤ (S 1100002 ((S 12 (5 * p2 + 1)))))) → (((S 1100005 (S 12 (5 * p2 + 0))) = (S 1100005 (S 12 (5 * p2)))) → (((S 1100002 (S 12 (5 * p2 + 0))) = (S 1100002 (S 12 (5 * p2)))) → (0 ≤ p2 ∧ p2 < 12000 ∧ 0 ≤ (0 : Int) ∧ (0 : Int) ≤ 4) ∧ (0 + 1 ≤ ((S 1100002 p2) + (600 - (S 1046 0)) + 9)) ∧ (sm_WF (S 11) (S 12) (S 13) (S 1100001) (S 1100002) (S 1100005) (S 1100003) (S 1100004) (S 1024 0) (S 1007 0) (S 1009 0) (sm_fn (S 1032 0) (S 21) (S 1056 0)) ∧ (S 1009 0) = 0 ∧ 0 ≤ (S 1007 0) ∧ (S 1007 0) ≤ 90 ∧ 0 ≤ (S 1024 0) ∧ (S 1024 0) ≤ 12000 ∧ 1 ≤ (S 1032 0) ∧ (S 1032 0) ≤ 11 ∧ 0 ≤ (S 1056 0) ∧ (S 1056 0) < (S 1032 0) ∧ sm_VB (S 33) (S 21) (S 1032 0) ∧ 0 ≤ (S 1046 0) ∧ (S 1046 0) ≤ 600 ∧ 0 ≤ (S 1047 0) ∧ (S 1047 0) ≤ 1 ∧ 0 ≤ (S 1053 0) ∧ 0 ≤ (S 1066 0) ∧ 0 ≤ ((S 12 (5 * p2 + (0 : Int)))) ∧ ((S 12 (5 * p2 + (0 : Int)))) < (S 1024 0) ∧ (S 1100001 ((S 12 (5 * p2 + (0 : Int))))) = 1 ∧ sm_LF (S 39) (S 1100002) (S 1066 0) (S 1024 0) (12001 * (S 1100002 ((S 12 (5 * p2 + (0 : Int))))) + ((S 12 (5 * p2 + (0 : Int))))) ∧ ((S 1047 0) = 0 → sm_KC (S 26) (S 27) (S 28) (S 29) (S 1100007) (S 1100023) (S 1100024) (S 1100025) (S 31) (S 1100009) (S 1100027) (S 1100028) (S 1100026) (S 1100030) (S 21) (S 32) (S 33) (S 1046 0) (S 1053 0) (S 1056 0) (S 1032 0) (S 1007 0) (S 1100033 0) ∧ (S 1100033 0) = (S 1055 0) ∧ 0 ≤ (S 1055 0) ∧ (S 1055 0) ≤ (S 1046 0) ∧ (0 ≤ (S 1100023 (S 1046 0)) → (S 1100007 (S 1100023 (S 1046 0))) ≤ (S 1100007 (S 1046 0))) ∧ (0 ≤ (S 1100025 (S 1046 0)) → (S 1100007 (S 1100025 (S 1046 0))) ≤ (S 1100007 (S 1046 0))) ∧ (S 1100007 (S 1046 0)) ≤ (S 1046 0) ∧ (S 1053 0) + 3 * (600 - (S 1046 0)) + (S 1100002 ((S 12 (5 * p2 + (0 : Int))))) ≤ 8000)) ∧ (0 ≤ ((if (S 1047 0) = 0 then (S 1100002 ((S 12 (5 * p2 + (0 : Int))))) + (600 - (S 1046 0)) + 8 else 4)) ∧ ((if (S 1047 0) = 0 then (S 1100002 ((S 12 (5 * p2 + (0 : Int))))) + (600 - (S 1046 0)) + 8 else 4)) < d) ∧ (0 ≤ ((if (S 1047 0) = 0 then (S 1100002 ((S 12 (5 * p2 + (0 : Int))))) + (600 - (S 1046 0)) + 8 else 4)) ∧ ((if (S 1047 0) = 0 then (S 1100002 ((S 12 (5 * p2 + (0 : Int))))) + (600 - (S 1046 0)) + 8 else 4)) + 1 ≤ ((S 1100002 p2) + (600 - (S 1046 0)) + 9)) ∧ (∀ g119 : sv_S, (0 ≤ (g119 1046 0) ∧ (g119 1046 0) ≤ 600 ∧ 0 ≤ (g119 1047 0) ∧ (g119 1047 0) ≤ 1 ∧ 0 ≤ (g119 1053 0) ∧ 0 ≤ (g119 1066 0) ∧ (S 1046 0) ≤ (g119 1046 0) ∧ ((S 1047 0) = 1 → (g119 1047 0) = 1) ∧ sm_F1 (S 26) (g119 26) (S 1046 0) ∧ sm_F1 (S 27) (g119 27) (S 1046 0) ∧ sm_F1 (S 28) (g119 28) (S 1046 0) ∧ sm_F1 (S 29) (g119 29) (S 1046 0) ∧ sm_F1 (S 1100007) (g119 1100007) ((S 1046 0) + 1) ∧ sm_F1 (S 1100023) (g119 1100023) ((S 1046 0) + 1) ∧ sm_F1 (S 1100024) (g119 1100024) ((S 1046 0) + 1) ∧ sm_F1 (S 1100025) (g119 1100025) ((S 1046 0) + 1) ∧ sm_F1 (S 1100009) (g119 1100009) (S 1053 0) ∧ sm_F1 (S 1100027) (g119 1100027) (S 1053 0) ∧ sm_F1 (S 1100028) (g119 1100028) (S 1053 0) ∧ sm_F1 (S 1100026) (g119 1100026) (S 1053 0) ∧ sm_F1 (S 1100030) (g119 1100030) (S 1053 0) ∧ sm_F1 (S 31) (g119 31) (S 1053 0) ∧ (S 1053 0) ≤ (g119 1053 0) ∧ (g119 1066 0) = (S 1066 0) ∧ sm_F1 (S 39) (g119 39) (S 1066 0) ∧ ((S 1047 0) = 1 → (g119 1053 0) = (S 1053 0)) ∧ ((S 1047 0) = 0 → (g119 1053 0) ≤ (S 1053 0) + 3 * (600 - (S 1046 0)) + (S 1100002 ((S 12 (5 * p2 + (0 : Int)))))) ∧ ((g119 1047 0) = 0 → (S 1047 0) = 0 ∧ sm_KC (g119 26) (g119 27) (g119 28) (g119 29) (g119 1100007) (g119 1100023) (g119 1100024) (g119 1100025) (g119 31) (g119 1100009) (g119 1100027) (g119 1100028) (g119 1100026) (g119 1100030) (S 21) (S 32) (S 33) (g119 1046 0) (g119 1053 0) (S 1056 0) (S 1032 0) (S 1007 0) (g119 1100033 0) ∧ (g119 1100033 0) = (g119 1055 0) ∧ 0 ≤ (g119 1055 0) ∧ (g119 1055 0) ≤ (g119 1046 0) ∧ (S 1046 0) + 1 ≤ (g119 1046 0) ∧ sm_FC (g119 29) (S 1046 0) (g119 1046 0) (S 1056 0) ∧ (g119 1100007 (g119 1046 0)) = (S 1100007 (S 1046 0)) + 1 ∧ (g119 1100023 (g119 1046 0)) = (S 1100023 (S 1046 0)) ∧ (g119 1100024 (g119 1046 0)) = (S 1100024 (S 1046 0)) ∧ (g119 1100025 (g119 1046 0)) = (S 1100025 (S 1046 0)) ∧ (g119 1100007 (g119 1100023 (g119 1046 0))) = (S 1100007 (S 1100023 (S 1046 0))) ∧ (g119 1100007 (g119 1100025 (g119 1046 0))) = (S 1100007 (S 1100025 (S 1046 0))) ∧ sm_AP (g119 1100030) (S 1053 0) (g119 1053 0) ∧ sm_HB (g119 1100007) (S 1046 0) (g119 1046 0) (2 * (S 1100007 (S 1046 0)) + ((g119 1046 0) - (S 1046 0)) + 8 * (S 1100005 ((S 12 (5 * p2 + (0 : Int))))) + 10) ∧ (g119 1053 0) ≤ (S 1053 0) + 3 * ((g119 1046 0) - (S 1046 0)) ∧ True)) → (0 ≤ p2 ∧ p2 < 12000 ∧ 0 ≤ (1 : Int) ∧ (1 : Int) ≤ 4) ∧ (sm_WF (S 11) (S 12) (S 13) (S 1100001) (S 1100002) (S 1100005) (S 1100003) (S 1100004) (S 1024 0) (S 1007 0) (S 1009 0) (sm_fn (S 1032 0) (S 21) (S 1056 0)) ∧ (S 1009 0) = 0 ∧ 0 ≤ (S 1007 0) ∧ (S 1007 0) ≤ 90 ∧ 0 ≤ (S 1024 0) ∧ (S 1024 0) ≤ 12000 ∧ 1 ≤ (S 1032 0) ∧ (S 1032 0) ≤ 11 ∧ 0 ≤ (S 1056 0) ∧ (S 1056 0) < (S 1032 0) ∧ sm_VB (S 33) (S 21) (S 1032 0) ∧ 0 ≤ (g119 1046 0) ∧ (g119 1046 0) ≤ 600 ∧ 0 ≤ (g119 1047 0) ∧ (g119 1047 0) ≤ 1 ∧ 0 ≤ (g119 1053 0) ∧ 0 ≤ (g119 1066 0) ∧ 0 ≤ ((S 12 (5 * p2 + (1 : Int)))) ∧ ((S 12 (5 * p2 + (1 : Int)))) < (S 1024 0) ∧ (S 1100001 ((S 12 (5 * p2 + (1 : Int))))) = 1 ∧ sm_LF (g119 39) (S 1100002) (g119 1066 0) (S 1024 0) (12001 * (S 1100002 ((S 12 (5 * p2 + (1 : Int))))) + ((S 12 (5 * p2 + (1 : Int))))) ∧ ((g119 1047 0) = 0 → sm_KC (g119 26) (g119 27) (g119 28) (g119 29) (g119 1100007) (g119 1100023) (g119 1100024) (g119 1100025) (g119 31) (g119 1100009) (g119 1100027) (g119 1100028) (g119 1100026) (g119 1100030) (S 21) (S 32) (S 33) (g119 1046 0) (g119 1053 0) (S 1056 0) (S 1032 0) (S 1007 0) (g119 1100033 0) ∧ (g119 1100033 0) = (g119 1055 0) ∧ 0 ≤ (g119 1055 0) ∧ (g119 1055 0) ≤ (g119 1046 0) ∧ (0 ≤ (g119 1100023 (g119 1046 0)) → (g119 1100007 (g119 1100023 (g119 1046 0))) ≤ (g119 1100007 (g119 1046 0))) ∧ (0 ≤ (g119 1100025 (g119 1046 0)) → (g119 1100007 (g119 1100025 (g119 1046 0))) ≤ (g119 1100007 (g119 1046 0))) ∧ (g119 1100007 (g119 1046 0)) ≤ (g119 1046 0) ∧ (g119 1053 0) + 3 * (600 - (g119 1046 0)) + (S 1100002 ((S 12 (5 * p2 + (1 : Int))))) ≤ 8000)) ∧ (0 ≤ ((if (g119 1047 0) = 0 then (S 1100002 ((S 12 (5 * p2 + (1 : Int))))) + (600 - (g119 1046 0)) + 8 else 4)) ∧ ((if (g119 1047 0) = 0 then (S 1100002 ((S 12 (5 * p2 + (1 : Int))))) + (600 - (g119 1046 0)) + 8 else 4)) < d) ∧ (0 ≤ ((if (g119 1047 0) = 0 then (S 1100002 ((S 12 (5 * p2 + (1 : Int))))) + (600 - (g119 1046 0)) + 8 else 4)) ∧ ((if (g119 1047 0) = 0 then (S 1100002 ((S 12 (5 * p2 + (1 : Int))))) + (600 - (g119 1046 0)) + 8 else 4)) + 1 ≤ ((S 1100002 p2) + (600 - (S 1046 0)) + 9)) ∧ (∀ g128 : sv_S, (0 ≤ (g128 1046 0) ∧ (g128 1046 0) ≤ 600 ∧ 0 ≤ (g128 1047 0) ∧ (g128 1047 0) ≤ 1 ∧ 0 ≤ (g128 1053 0) ∧ 0 ≤ (g128 1066 0) ∧ (g119 1046 0) ≤ (g128 1046 0) ∧ ((g119 1047 0) = 1 → (g128 1047 0) = 1) ∧ sm_F1 (g119 26) (g128 26) (g119 1046 0) ∧ sm_F1 (g119 27) (g128 27) (g119 1046 0) ∧ sm_F1 (g119 28) (g128 28) (g119 1046 0) ∧ sm_F1 (g119 29) (g128 29) (g119 1046 0) ∧ sm_F1 (g119 1100007) (g128 1100007) ((g119 1046 0) + 1) ∧ sm_F1 (g119 1100023) (g128 1100023) ((g119 1046 0) + 1) ∧ sm_F1 (g119 1100024) (g128 1100024) ((g119 1046 0) + 1) ∧ sm_F1 (g119 1100025) (g128 1100025) ((g119 1046 0) + 1) ∧ sm_F1 (g119 1100009) (g128 1100009) (g119 1053 0) ∧ sm_F1 (g119 1100027) (g128 1100027) (g119 1053 0) ∧ sm_F1 (g119 1100028) (g128 1100028) (g119 1053 0) ∧ sm_F1 (g119 1100026) (g128 1100026) (g119 1053 0) ∧ sm_F1 (g119 1100030) (g128 1100030) (g119 1053 0) ∧ sm_F1 (g119 31) (g128 31) (g119 1053 0) ∧ (g119 1053 0) ≤ (g128 1053 0) ∧ (g128 1066 0) = (g119 1066 0) ∧ sm_F1 (g119 39) (g128 39) (g119 1066 0) ∧ ((g119 1047 0) = 1 → (g128 1053 0) = (g119 1053 0)) ∧ ((g119 1047 0) = 0 → (g128 1053 0) ≤ (g119 1053 0) + 3 * (600 - (g119 1046 0)) + (S 1100002 ((S 12 (5 * p2 + (1 : Int)))))) ∧ ((g128 1047 0) = 0 → (g119 1047 0) = 0 ∧ sm_KC (g128 26) (g128 27) (g128 28) (g128 29) (g128 1100007) (g128 1100023) (g128 1100024) (g128 1100025) (g128 31) (g128 1100009) (g128 1100027) (g128 1100028) (g128 1100026) (g128 1100030) (S 21) (S 32) (S 33) (g128 1046 0) (g128 1053 0) (S 1056 0) (S 1032 0) (S 1007 0) (g128 1100033 0) ∧ (g128 1100033 0) = (g128 1055 0) ∧ 0 ≤ (g128 1055 0) ∧ (g128 1055 0) ≤ (g128 1046 0) ∧ (g119 1046 0) + 1 ≤ (g128 1046 0) ∧ sm_FC (g128 29) (g119 1046 0) (g128 1046 0) (S 1056 0) ∧ (g128 1100007 (g128 1046 0)) = (g119 1100007 (g119 1046 0)) + 1 ∧ (g128 1100023 (g128 1046 0)) = (g119 1100023 (g119 1046 0)) ∧ (g128 1100024 (g128 1046 0)) = (g119 1100024 (g119 1046 0)) ∧ (g128 1100025 (g128 1046 0)) = (g119 1100025 (g119 1046 0)) ∧ (g128 1100007 (g128 1100023 (g128 1046 0))) = (g119 1100007 (g119 1100023 (g119 1046 0))) ∧ (g128 1100007 (g128 1100025 (g128 1046 0))) = (g119 1100007 (g119 1100025 (g119 1046 0))) ∧ sm_AP (g128 1100030) (g119 1053 0) (g128 1053 0) ∧ sm_HB (g128 1100007) (g119 1046 0) (g128 1046 0) (2 * (g119 1100007 (g119 1046 0)) + ((g128 1046 0) - (g119 1046 0)) + 8 * (S 1100005 ((S 12 (5 * p2 + (1 : Int))))) + 10) ∧ (g128 1053 0) ≤ (g119 1053 0) + 3 * ((g128 1046 0) - (g119 1046 0)) ∧ True)) → (0 ≤ (g128 1046 0) ∧ (g128 1046 0) ≤ 600 ∧ 0 ≤ (g128 1047 0) ∧ (g128 1047 0) ≤ 1 ∧ ((g128 1047 0) = 0 → sm_KC (g128 26) (g128 27) (g128 28) (g128 29) (g128 1100007) (g128 1100023) (g128 1100024) (g128 1100025) (g128 31) (g128 1100009) (g128 1100027) (g128 1100028) (g128 1100026) (g128 1100030) (S 21) (S 32) (S 33) (g128 1046 0) (g128 1053 0) (S 1056 0) (S 1032 0) (S 1007 0) (g128 1100033 0) ∧ 0 ≤ (12 : Int) ∧ (12 : Int) ≤ 30 ∧ sm_ci (12 : Int) ((0 : Int)) ((0 : Int)) (g128 1100007 (g128 1046 0)) (g128 1100023 (g128 1046 0)) (g128 1100024 (g128 1046 0)) (g128 1100025 (g128 1046 0)) (g128 1100007 (g128 1100023 (g128 1046 0))) (g128 1100007 (g128 1100025 (g128 1046 0))) (g128 1100023 (g128 1100023 (g128 1046 0))) (g128 1100025 (g128 1100025 (g128 1046 0))) (g128 1046 0) (g128 1100033 0) (S 1032 0) (S 1007 0) (S 21 (0 : Int)) (S 1056 0) ((g128 1100007 (g128 1046 0)) + sm_dl (12 : Int) ((0 : Int))) (sm_nt (12 : Int) (g128 1046 0) (g128 1100023 (g128 1046 0)) (g128 1100023 (g128 1100023 (g128 1046 0)))) (sm_nl (12 : Int) (g128 1046 0) (g128 1100007 (g128 1046 0)) (g128 1100025 (g128 1046 0)) (g128 1100007 (g128 1100025 (g128 1046 0))) (g128 1100025 (g128 1100025 (g128 1046 0)))) (g128 1100009 (0 : Int)) (g128 1100027 (0 : Int)) (g128 1100028 (0 : Int)) ∧ ((21 ≤ (12 : Int) ∧ (12 : Int) ≤ 24) ∨ (12 : Int) = 27 ∨ (12 : Int) = 30 → 0 ≤ (0 : Int) ∧ (0 : Int) < (g128 1053 0) ∧ (g128 1100026 (0 : Int)) = (S 1056 0)) ∧ ((12 : Int) = 1 ∨ (12 : Int) = 2 → sm_vv (S 21) (S 32) (S 33) (S 1056 0) (0 : Int) (0 : Int)))) ∧ (1 + 1 ≤ ((S 1100002 p2) + (600 - (S 1046 0)) + 9)) ∧ (∀ g135 : sv_S, (0 ≤ (g135 1047 0) ∧ (g135 1047 0) ≤ 1 ∧ 1 ≤ (g135 1046 0) ∧ (g128 1046 0) ≤ (g135 1046 0) ∧ (g135 1046 0) ≤ (g128 1046 0) + 1 ∧ (g135 1046 0) ≤ 600 ∧ ((g128 1047 0) = 1 → (g135 1047 0) = 1) ∧ ((g135 1047 0) = 1 → (g128 1047 0) = 1 ∨ (g128 1046 0) = 600) ∧ sm_F1 (g128 26) (g135 26) (g128 1046 0) ∧ sm_F1 (g128 27) (g135 27) (g128 1046 0) ∧ sm_F1 (g128 28) (g135 28) (g128 1046 0) ∧ sm_F1 (g128 29) (g135 29) (g128 1046 0) ∧ sm_F1 (g128 1100007) (g135 1100007) ((g128 1046 0) + 1) ∧ sm_F1 (g128 1100023) (g135 1100023) ((g128 1046 0) + 1) ∧ sm_F1 (g128 1100024) (g135 1100024) ((g128 1046 0) + 1) ∧ sm_F1 (g128 1100025) (g135 1100025) ((g128 1046 0) + 1) ∧ ((g135 1047 0) = 0 → (g128 1047 0) = 0 ∧ (g135 1046 0) = (g128 1046 0) + 1 ∧ sm_KC (g135 26) (g135 27) (g135 28) (g135 29) (g135 1100007) (g135 1100023) (g135 1100024) (g135 1100025) (g128 31) (g128 1100009) (g128 1100027) (g128 1100028) (g128 1100026) (g128 1100030) (S 21) (S 32) (S 33) (g135 1046 0) (g128 1053 0) (S 1056 0) (S 1032 0) (S 1007 0) (g128 1100033 0) ∧ sm_MB (g128 31) (g128 1100030) (g128 1053 0) (g135 1046 0) ∧ (g135 26 (g128 1046 0)) = (12 : Int) ∧ (g135 29 (g128 1046 0)) = (S 1056 0) ∧ (g135 1100007 (g135 1046 0)) = ((g128 1100007 (g128 1046 0)) + sm_dl (12 : Int) ((0 : Int))) ∧ (g135 1100023 (g135 1046 0)) = (sm_nt (12 : Int) (g128 1046 0) (g128 1100023 (g128 1046 0)) (g128 1100023 (g128 1100023 (g128 1046 0)))) ∧ (g135 1100024 (g135 1046 0)) = (sm_nd (12 : Int) (g128 1100024 (g128 1046 0))) ∧ (g135 1100025 (g135 1046 0)) = (sm_nl (12 : Int) (g128 1046 0) (g128 1100007 (g128 1046 0)) (g128 1100025 (g128 1046 0)) (g128 1100007 (g128 1100025 (g128 1046 0))) (g128 1100025 (g128 1100025 (g128 1046 0)))) ∧ (g135 1100007 (g135 1100023 (g135 1046 0))) = sm_nt (12 : Int) (g128 1100007 (g128 1046 0)) (g128 1100007 (g128 1100023 (g128 1046 0))) (g128 1100007 (g128 1100023 (g128 1100023 (g128 1046 0)))) ∧ ((12 : Int) = 29 → (g135 1100007 (g135 1100025 (g135 1046 0))) = (g128 1100007 (g128 1046 0))) ∧ ((12 : Int) = 17 → 0 ≤ (g128 1100025 (g128 1046 0)) → (g128 1100007 (g128 1100025 (g128 1046 0))) = (g128 1100007 (g128 1046 0)) → (g135 1100007 (g135 1100025 (g135 1046 0))) = (g128 1100007 (g128 1100025 (g128 1100025 (g128 1046 0))))) ∧ (¬ (12 : Int) = 29 → ((12 : Int) = 17 → 0 ≤ (g128 1100025 (g128 1046 0)) → (g128 1100007 (g128 1100025 (g128 1046 0))) < (g128 1100007 (g128 1046 0))) → (g135 1100007 (g135 1100025 (g135 1046 0))) = (g128 1100007 (g128 1100025 (g128 1046 0)))))) → (0 ≤ (g135 1046 0) ∧ (g135 1046 0) ≤ 600 ∧ 0 ≤ (g135 1047 0) ∧ (g135 1047 0) ≤ 1 ∧ 0 ≤ (g128 1053 0) ∧ 0 ≤ (g128 1066 0) ∧ (S 1046 0) ≤ (g135 1046 0) ∧ ((S 1047 0) = 1 → (g135 1047 0) = 1) ∧ sm_F1 (S 26) (g135 26) (S 1046 0) ∧ sm_F1 (S 27) (g135 27) (S 1046 0) ∧ sm_F1 (S 28) (g135 28) (S 1046 0) ∧ sm_F1 (S 29) (g135 29) (S 1046 0) ∧ sm_F1 (S 1100007) (g135 1100007) ((S 1046 0) + 1) ∧ sm_F1 (S 1100023) (g135 1100023) ((S 1046 0) + 1) ∧ sm_F1 (S 1100024) (g135 1100024) ((S 1046 0) + 1) ∧ sm_F1 (S 1100025) (g135 1100025) ((S 1046 0) + 1) ∧ sm_F1 (S 1100009) (g128 1100009) (S 1053 0) ∧ sm_F1 (S 1100027) (g128 1100027) (S 1053 0) ∧ sm_F1 (S 1100028) (g128 1100028) (S 1053 0) ∧ sm_F1 (S 1100026) (g128 1100026) (S 1053 0) ∧ sm_F1 (S 1100030) (g128 1100030) (S 1053 0) ∧ sm_F1 (S 31) (g128 31) (S 1053 0) ∧ (S 1053 0) ≤ (g128 1053 0) ∧ (g128 1066 0) = (S 1066 0) ∧ sm_F1 (S 39) (g128 39) (S 1066 0) ∧ ((S 1047 0) = 1 → (g128 1053 0) = (S 1053 0)) ∧ ((S 1047 0) = 0 → (g128 1053 0) ≤ (S 1053 0) + 3 * (600 - (S 1046 0)) + (S 1100002 p2)) ∧ ((g135 1047 0) = 0 → (S 1047 0) = 0 ∧ sm_KC (g135 26) (g135 27) (g135 28) (g135 29) (g135 1100007) (g135 1100023) (g135 1100024) (g135 1100025) (g128 31) (g128 1100009) (g128 1100027) (g128 1100028) (g128 1100026) (g128 1100030) (S 21) (S 32) (S 33) (g135 1046 0) (g128 1053 0) (S 1056 0) (S 1032 0) (S 1007 0) (g128 1100033 0) ∧ (g128 1100033 0) = (g128 1055 0) ∧ 0 ≤ (g128 1055 0) ∧ (g128 1055 0) ≤ (g135 1046 0) ∧ (S 1046 0) + 1 ≤ (g135 1046 0) ∧ sm_FC (g135 29) (S 1046 0) (g135 1046 0) (S 1056 0) ∧ (g135 1100007 (g135 1046 0)) = (S 1100007 (S 1046 0)) + 1 ∧ (g135 1100023 (g135 1046 0)) = (S 1100023 (S 1046 0)) ∧ (g135 1100024 (g135 1046 0)) = (S 1100024 (S 1046 0)) ∧ (g135 1100025 (g135 1046 0)) = (S 1100025 (S 1046 0)) ∧ (g135 1100007 (g135 1100023 (g135 1046 0))) = (S 1100007 (S 1100023 (S 1046 0))) ∧ (g135 1100007 (g135 1100025 (g135 1046 0))) = (S 1100007 (S 1100025 (S 1046 0))) ∧ sm_AP (g128 1100030) (S 1053 0) (g128 1053 0) ∧ sm_HB (g135 1100007) (S 1046 0) (g135 1046 0) (2 * (S 1100007 (S 1046 0)) + ((g135 1046 0) - (S 1046 0)) + 8 * (S 1100005 p2) + 10) ∧ (g128 1053 0) ≤ (S 1053 0) + 3 * ((g135 1046 0) - (S 1046 0)) ∧ True))))))))))))) := by
  intro d
  intro p1
  intro p2
  intro S
  intro h1_
  intro h2_
  intro h3_
  rintro ⟨h4_, ⟨h5_, ⟨h6_, ⟨h7_, ⟨h8_, ⟨h9_, ⟨h10_, ⟨h11_, ⟨h12_, ⟨h13_, ⟨h14_, ⟨h15_, ⟨h16_, ⟨h17_, ⟨h18_, ⟨h19_, ⟨h20_, ⟨h21_, ⟨h22_, ⟨h23_, ⟨h24_, ⟨h25_, ⟨h26_, ⟨h27_, ⟨h28_, ⟨h29_, ⟨h30_, ⟨h31_, ⟨h32_, ⟨h33_, ⟨h34_, ⟨h35_, h36_⟩⟩⟩⟩⟩⟩⟩⟩⟩⟩⟩⟩⟩⟩⟩⟩⟩⟩⟩⟩⟩⟩⟩⟩⟩⟩⟩⟩⟩⟩⟩⟩
  intro h37_
  intro h38_
  have h39_ := (h38_ h4_)
  have h40_ := (h39_ h23_)
  obtain ⟨h41_, ⟨h42_, ⟨h43_, h44_⟩⟩⟩ := (h40_ h24_)
  obtain ⟨h45_, ⟨h46_, ⟨h47_, h48_⟩⟩⟩ := (h41_ h25_)
  refine ⟨?_, ?_⟩
  · skip
    intro h49_
    refine ⟨?_, ?_⟩
    · skip
      intro h50_
      refine ⟨?_, ?_⟩
      · skip
        refine ⟨h4_, ?_⟩
        refine ⟨h5_, ?_⟩
        refine ⟨h6_, ?_⟩
        refine ⟨h7_, ?_⟩
        refine ⟨h8_, ?_⟩
        refine ⟨h9_, ?_⟩
        refine ⟨h10_, ?_⟩
        refine ⟨h11_, ?_⟩
        refine ⟨h12_, ?_⟩
        refine ⟨h13_, ?_⟩
        refine ⟨h14_, ?_⟩
        refine ⟨h15_, ?_⟩
        refine ⟨h16_, ?_⟩
        refine ⟨h17_, ?_⟩
        refine ⟨h18_, ?_⟩
        refine ⟨h19_, ?_⟩
        refine ⟨h20_, ?_⟩
        refine ⟨h23_, ?_⟩
        refine ⟨h24_, ?_⟩
        refine ⟨h25_, ?_⟩
        refine ⟨h27_, ?_⟩
        intro h51_
        refine ⟨h29_, ?_⟩
        refine ⟨h30_, ?_⟩
        refine ⟨h31_, ?_⟩
        refine ⟨h32_, ?_⟩
        refine ⟨h33_, ?_⟩
        refine ⟨h34_, ?_⟩
        refine ⟨h35_, ?_⟩
        exact h36_
      refine ⟨?_, ?_⟩
      · skip
        refine ⟨?_, ?_⟩
        · skip
          have e52_ : (if S 1047 0 = 0 then S 1100002 p2 + (600 - S 1046 0) + 8 else 4 : Int) = S 1100002 p2 + (600 - S 1046 0) + 8 := if_pos h28_
          exact (la_unary_4 h16_ h45_ e52_)
        have e53_ : (if S 1047 0 = 0 then S 1100002 p2 + (600 - S 1046 0) + 8 else 4 : Int) = S 1100002 p2 + (600 - S 1046 0) + 8 := if_pos h28_
        exact (la_unary_5 h37_ e53_)
      refine ⟨?_, ?_⟩
      · skip
        refine ⟨?_, ?_⟩
        · skip
          have e54_ : (if S 1047 0 = 0 then S 1100002 p2 + (600 - S 1046 0) + 8 else 4 : Int) = S 1100002 p2 + (600 - S 1046 0) + 8 := if_pos h28_
          exact (la_unary_4 h16_ h45_ e54_)
        have e55_ : (if S 1047 0 = 0 then S 1100002 p2 + (600 - S 1046 0) + 8 else 4 : Int) = S 1100002 p2 + (600 - S 1046 0) + 8 := if_pos h28_
        exact (la_unary_6 e55_)
      intro g5
      rintro ⟨h56_, ⟨h57_, ⟨h58_, ⟨h59_, ⟨h60_, ⟨h61_, ⟨h62_, ⟨h63_, ⟨h64_, ⟨h65_, ⟨h66_, ⟨h67_, ⟨h68_, ⟨h69_, ⟨h70_, ⟨h71_, ⟨h72_, ⟨h73_, ⟨h74_, ⟨h75_, ⟨h76_, ⟨h77_, ⟨h78_, ⟨h79_, ⟨h80_, ⟨h81_, ⟨h82_, h83_⟩⟩⟩⟩⟩⟩⟩⟩⟩⟩⟩⟩⟩⟩⟩⟩⟩⟩⟩⟩⟩⟩⟩⟩⟩⟩⟩
      have h84_ := (h82_ h28_)
      refine ⟨?_, ?_⟩
      · skip
        intro h85_
        refine ⟨?_, ?_⟩
        · skip
          refine ⟨h56_, ?_⟩
          refine ⟨h57_, ?_⟩
          refine ⟨h58_, ?_⟩
          refine ⟨h59_, ?_⟩
          intro h86_
          obtain ⟨h87_, ⟨h88_, ⟨h89_, ⟨h90_, ⟨h91_, ⟨h92_, ⟨h93_, ⟨h94_, ⟨h95_, ⟨h96_, ⟨h97_, ⟨h98_, ⟨h99_, ⟨h100_, ⟨h101_, ⟨h102_, -⟩⟩⟩⟩⟩⟩⟩⟩⟩⟩⟩⟩⟩⟩⟩⟩ := (h83_ h86_)
          refine ⟨h88_, ?_⟩
          refine ⟨la_unary_10, ?_⟩
          refine ⟨la_unary_11, ?_⟩
          refine ⟨(sm_ci_17 (la_unary_12 (sm_KC_n h29_).2.1.1 h33_ h34_ h94_ h95_ h97_ h98_ h99_ (sm_dl_17 : sm_dl 17 0 = (-1)) (sm_nt_17 : sm_nt 17 (g5 1046 0) (g5 1100023 (g5 1046 0)) (g5 1100023 (g5 1100023 (g5 1046 0))) = g5 1100023 (g5 1046 0)) (sm_nl_17b : (0 ≤ g5 1100025 (g5 1046 0) → g5 1100007 (g5 1100025 (g5 1046 0)) < g5 1100007 (g5 1046 0)) → sm_nl 17 (g5 1046 0) (g5 1100007 (g5 1046 0)) (g5 1100025 (g5 1046 0)) (g5 1100007 (g5 1100025 (g5 1046 0))) (g5 1100025 (g5 1100025 (g5 1046 0))) = g5 1100025 (g5 1046 0)))), ?_⟩
          refine ⟨la_unary_13, ?_⟩
          intro h103_
          have h104_ := (h103_.resolve_left la_unary_14)
          have h105_ := (h33_ (la_unary_16 h104_))
          have h106_ := (h34_ (la_unary_16 h104_))
          have h107_ := (h46_ (la_unary_17 h104_))
          have h108_ := (h47_ (la_unary_18 h104_))
          have h109_ := ((sm_nl_17b : (0 ≤ g5 1100025 (g5 1046 0) → g5 1100007 (g5 1100025 (g5 1046 0)) < g5 1100007 (g5 1046 0)) → sm_nl 17 (g5 1046 0) (g5 1100007 (g5 1046 0)) (g5 1100025 (g5 1046 0)) (g5 1100007 (g5 1100025 (g5 1046 0))) (g5 1100025 (g5 1100025 (g5 1046 0))) = g5 1100025 (g5 1046 0)) (la_unary_19 h104_))
          have e110_ : S 1100007 (S 1100023 (S 1046 0)) = S 1100007 (S 1046 0) := congrArg ((S 1100007)) (la_unary_20 h104_)
          have e111_ : S 1100007 (S 1100025 (S 1046 0)) = S 1100007 (S 1046 0) := congrArg ((S 1100007)) (la_unary_20 h104_)
          have e112_ : S 1100007 (S 1100025 (S 1046 0)) = S 1100007 (S 1100023 (S 1046 0)) := congrArg ((S 1100007)) (la_unary_20 h104_)
          have e113_ : S 1100007 (g5 1046 0) = S 1100007 (S 1046 0) := congrArg ((S 1100007)) (la_unary_20 h104_)
          have e114_ : S 1100007 (g5 1046 0) = S 1100007 (S 1100023 (S 1046 0)) := congrArg ((S 1100007)) (la_unary_20 h104_)
          have e115_ : S 1100007 (g5 1046 0) = S 1100007 (S 1100025 (S 1046 0)) := congrArg ((S 1100007)) (la_unary_20 h104_)
          have e116_ : S 1100007 (g5 1100023 (g5 1046 0)) = S 1100007 (S 1046 0) := congrArg ((S 1100007)) (la_unary_20 h104_)
          have e117_ : S 1100007 (g5 1100023 (g5 1046 0)) = S 1100007 (S 1100023 (S 1046 0)) := congrArg ((S 1100007)) h95_
          have e118_ : S 1100007 (g5 1100023 (g5 1046 0)) = S 1100007 (S 1100025 (S 1046 0)) := congrArg ((S 1100007)) (la_unary_20 h104_)
          have e119_ : S 1100007 (g5 1100023 (g5 1046 0)) = S 1100007 (g5 1046 0) := congrArg ((S 1100007)) (la_unary_20 h104_)
          have e120_ : S 1100007 (g5 1100025 (g5 1046 0)) = S 1100007 (S 1046 0) := congrArg ((S 1100007)) (la_unary_20 h104_)
          have e121_ : S 1100007 (g5 1100025 (g5 1046 0)) = S 1100007 (S 1100023 (S 1046 0)) := congrArg ((S 1100007)) (la_unary_20 h104_)
          have e122_ : S 1100007 (g5 1100025 (g5 1046 0)) = S 1100007 (S 1100025 (S 1046 0)) := congrArg ((S 1100007)) h97_
          have e123_ : S 1100007 (g5 1100025 (g5 1046 0)) = S 1100007 (g5 1046 0) := congrArg ((S 1100007)) (la_unary_20 h104_)
          have e124_ : S 1100007 (g5 1100025 (g5 1046 0)) = S 1100007 (g5 1100023 (g5 1046 0)) := congrArg ((S 1100007)) (la_unary_20 h104_)
          have e125_ : S 1100023 (g5 1046 0) = S 1100023 (S 1046 0) := congrArg ((S 1100023)) (la_unary_20 h104_)
          have e126_ : S 1100024 (g5 1046 0) = S 1100024 (S 1046 0) := congrArg ((S 1100024)) (la_unary_20 h104_)
          have e127_ : S 1100025 (g5 1046 0) = S 1100025 (S 1046 0) := congrArg ((S 1100025)) (la_unary_20 h104_)
          have e128_ : g5 1100007 (g5 1100023 (g5 1046 0)) = g5 1100007 (g5 1046 0) := congrArg ((g5 1100007)) (la_unary_20 h104_)
          have e129_ : g5 1100007 (g5 1100025 (g5 1046 0)) = g5 1100007 (g5 1046 0) := congrArg ((g5 1100007)) (la_unary_20 h104_)
          have e130_ : g5 1100007 (g5 1100025 (g5 1046 0)) = g5 1100007 (g5 1100023 (g5 1046 0)) := congrArg ((g5 1100007)) (la_unary_20 h104_)
          have e131_ : g5 1100023 (g5 1100023 (g5 1046 0)) = g5 1100023 (g5 1046 0) := congrArg ((g5 1100023)) (la_unary_20 h104_)
          have e132_ : g5 1100025 (g5 1100025 (g5 1046 0)) = g5 1100025 (g5 1046 0) := congrArg ((g5 1100025)) (la_unary_20 h104_)
          have e133_ : S 1100023 (g5 1100023 (g5 1046 0)) = S 1100023 (S 1046 0) := congrArg ((S 1100023)) (la_unary_20 h104_)
          have e134_ : S 1100023 (g5 1100023 (g5 1046 0)) = S 1100023 (g5 1046 0) := congrArg ((S 1100023)) (la_unary_20 h104_)
          have e135_ : S 1100025 (g5 1100025 (g5 1046 0)) = S 1100025 (S 1046 0) := congrArg ((S 1100025)) (la_unary_20 h104_)
          have e136_ : S 1100025 (g5 1100025 (g5 1046 0)) = S 1100025 (g5 1046 0) := congrArg ((S 1100025)) (la_unary_20 h104_)
          exact ((la_unary_21 h104_)).elim
        refine ⟨(la_unary_22 h16_ h45_), ?_⟩
        intro g12
        rintro ⟨h137_, ⟨h138_, ⟨h139_, ⟨h140_, ⟨h141_, ⟨h142_, ⟨h143_, ⟨h144_, ⟨h145_, ⟨h146_, ⟨h147_, ⟨h148_, ⟨h149_, ⟨h150_, ⟨h151_, ⟨h152_, h153_⟩⟩⟩⟩⟩⟩⟩⟩⟩⟩⟩⟩⟩⟩⟩⟩
        refine ⟨?_, ?_⟩
        · skip
          refine ⟨(la_unary_23 h139_), ?_⟩
          refine ⟨h142_, ?_⟩
          refine ⟨h137_, ?_⟩
          refine ⟨h138_, ?_⟩
          intro h154_
          have h155_ : ¬ (g5 1047 0 = 1) := fun q_ => (la_unary_7 h154_) (h143_ q_)
          obtain ⟨h156_, ⟨h157_, ⟨h158_, ⟨h159_, ⟨h160_, ⟨h161_, ⟨h162_, ⟨h163_, ⟨h164_, ⟨h165_, ⟨h166_, ⟨h167_, ⟨h168_, h169_⟩⟩⟩⟩⟩⟩⟩⟩⟩⟩⟩⟩⟩ := (h153_ h154_)
          have h170_ := (h168_ la_unary_26)
          have h171_ := (h169_ la_unary_25)
          obtain ⟨h172_, ⟨h173_, ⟨h174_, ⟨h175_, ⟨h176_, ⟨h177_, ⟨h178_, ⟨h179_, ⟨h180_, ⟨h181_, ⟨h182_, ⟨h183_, ⟨h184_, ⟨h185_, ⟨h186_, ⟨h187_, -⟩⟩⟩⟩⟩⟩⟩⟩⟩⟩⟩⟩⟩⟩⟩⟩ := (h83_ h156_)
          refine ⟨h158_, ?_⟩
          refine ⟨la_unary_27, ?_⟩
          refine ⟨la_unary_28, ?_⟩
          refine ⟨la_unary_29, ?_⟩
          refine ⟨(la_unary_30 h33_ h162_ (sm_dl_17 : sm_dl 17 0 = (-1)) h163_ (sm_nt_17 : sm_nt 17 (g5 1046 0) (g5 1100023 (g5 1046 0)) (g5 1100023 (g5 1100023 (g5 1046 0))) = g5 1100023 (g5 1046 0)) h166_ (sm_nt_17 : sm_nt 17 (g5 1100007 (g5 1046 0)) (g5 1100007 (g5 1100023 (g5 1046 0))) (g5 1100007 (g5 1100023 (g5 1100023 (g5 1046 0)))) = g5 1100007 (g5 1100023 (g5 1046 0))) h179_ h180_ h183_), ?_⟩
          intro h188_
          have e189_ : S 1100007 (g12 1100023 (g12 1046 0)) = S 1100007 (S 1100023 (S 1046 0)) := congrArg ((S 1100007)) (la_unary_35 h163_ (sm_nt_17 : sm_nt 17 (g5 1046 0) (g5 1100023 (g5 1046 0)) (g5 1100023 (g5 1100023 (g5 1046 0))) = g5 1100023 (g5 1046 0)) h180_)
          have e190_ : S 1100007 (g5 1100023 (g5 1046 0)) = S 1100007 (S 1100023 (S 1046 0)) := congrArg ((S 1100007)) h180_
          have e191_ : S 1100007 (g5 1100023 (g5 1046 0)) = S 1100007 (g12 1100023 (g12 1046 0)) := congrArg ((S 1100007)) (la_unary_36 h163_ (sm_nt_17 : sm_nt 17 (g5 1046 0) (g5 1100023 (g5 1046 0)) (g5 1100023 (g5 1100023 (g5 1046 0))) = g5 1100023 (g5 1046 0)))
          have e192_ : S 1100007 (g5 1100025 (g5 1046 0)) = S 1100007 (S 1100025 (S 1046 0)) := congrArg ((S 1100007)) h182_
          have e193_ : g5 1100007 (g5 1100023 (g5 1046 0)) = g5 1100007 (g12 1100023 (g12 1046 0)) := congrArg ((g5 1100007)) (la_unary_36 h163_ (sm_nt_17 : sm_nt 17 (g5 1046 0) (g5 1100023 (g5 1046 0)) (g5 1100023 (g5 1100023 (g5 1046 0))) = g5 1100023 (g5 1046 0)))
          have e194_ : g5 1100007 (g5 1100025 (g5 1046 0)) = g5 1100007 (g12 1100025 (g12 1046 0)) := congrArg ((g5 1100007)) (la_unary_37 h34_ h165_ (sm_nl_17b : (0 ≤ g5 1100025 (g5 1046 0) → g5 1100007 (g5 1100025 (g5 1046 0)) < g5 1100007 (g5 1046 0)) → sm_nl 17 (g5 1046 0) (g5 1100007 (g5 1046 0)) (g5 1100025 (g5 1046 0)) (g5 1100007 (g5 1100025 (g5 1046 0))) (g5 1100025 (g5 1100025 (g5 1046 0))) = g5 1100025 (g5 1046 0)) h179_ h182_ h184_ h188_)
          exact (la_unary_38 h34_ h162_ (sm_dl_17 : sm_dl 17 0 = (-1)) h165_ (sm_nl_17b : (0 ≤ g5 1100025 (g5 1046 0) → g5 1100007 (g5 1100025 (g5 1046 0)) < g5 1100007 (g5 1046 0)) → sm_nl 17 (g5 1046 0) (g5 1100007 (g5 1046 0)) (g5 1100025 (g5 1046 0)) (g5 1100007 (g5 1100025 (g5 1046 0))) (g5 1100025 (g5 1100025 (g5 1046 0))) = g5 1100025 (g5 1046 0)) h179_ h182_ h184_ h188_ (sm_F1_at h149_ (g12 1100025 (g12 1046 0)) (la_unary_32 h141_ (sm_KC_n h158_).2.1.2.2.2.2.2.2.2)) e194_)
        intro g18
        rintro ⟨h195_, ⟨h196_, ⟨h197_, ⟨h198_, ⟨h199_, ⟨h200_, ⟨h201_, ⟨h202_, ⟨h203_, ⟨h204_, ⟨h205_, ⟨h206_, ⟨h207_, ⟨h208_, ⟨h209_, ⟨h210_, h211_⟩⟩⟩⟩⟩⟩⟩⟩⟩⟩⟩⟩⟩⟩⟩⟩
        refine ⟨(la_unary_23 h197_), ?_⟩
        refine ⟨h200_, ?_⟩
        refine ⟨h195_, ?_⟩
        refine ⟨h196_, ?_⟩
        refine ⟨h60_, ?_⟩
        refine ⟨h61_, ?_⟩
        refine ⟨(la_unary_39 h62_ h140_ h198_), ?_⟩
        refine ⟨(la_unary_40 h28_ h196_), ?_⟩
        refine ⟨(sm_F1_tr (sm_F1_tr (sm_F1_le h64_ (Int.le_refl _)) h145_ h62_) h203_ (la_unary_41 h62_ h140_)), ?_⟩
        refine ⟨(sm_F1_tr (sm_F1_tr (sm_F1_le h65_ (Int.le_refl _)) h146_ h62_) h204_ (la_unary_41 h62_ h140_)), ?_⟩
        refine ⟨(sm_F1_tr (sm_F1_tr (sm_F1_le h66_ (Int.le_refl _)) h147_ h62_) h205_ (la_unary_41 h62_ h140_)), ?_⟩
        refine ⟨(sm_F1_tr (sm_F1_tr (sm_F1_le h67_ (Int.le_refl _)) h148_ h62_) h206_ (la_unary_41 h62_ h140_)), ?_⟩
        refine ⟨(sm_F1_tr (sm_F1_tr (sm_F1_le h68_ (Int.le_refl _)) h149_ (la_unary_43 h62_)) h207_ (la_unary_42 h62_ h140_)), ?_⟩
        refine ⟨(sm_F1_tr (sm_F1_tr (sm_F1_le h69_ (Int.le_refl _)) h150_ (la_unary_43 h62_)) h208_ (la_unary_42 h62_ h140_)), ?_⟩
        refine ⟨(sm_F1_tr (sm_F1_tr (sm_F1_le h70_ (Int.le_refl _)) h151_ (la_unary_43 h62_)) h209_ (la_unary_42 h62_ h140_)), ?_⟩
        refine ⟨(sm_F1_tr (sm_F1_tr (sm_F1_le h71_ (Int.le_refl _)) h152_ (la_unary_43 h62_)) h210_ (la_unary_42 h62_ h140_)), ?_⟩
        refine ⟨h72_, ?_⟩
        refine ⟨h73_, ?_⟩
        refine ⟨h74_, ?_⟩
        refine ⟨h75_, ?_⟩
        refine ⟨h76_, ?_⟩
        refine ⟨h77_, ?_⟩
        refine ⟨h78_, ?_⟩
        refine ⟨h79_, ?_⟩
        refine ⟨h80_, ?_⟩
        refine ⟨h81_, ?_⟩
        refine ⟨h82_, ?_⟩
        intro h212_
        have h213_ : ¬ (g12 1047 0 = 1) := fun q_ => (la_unary_7 h212_) (h201_ q_)
        obtain ⟨h214_, ⟨h215_, ⟨h216_, ⟨h217_, ⟨h218_, ⟨h219_, ⟨h220_, ⟨h221_, ⟨h222_, ⟨h223_, ⟨h224_, ⟨h225_, ⟨h226_, h227_⟩⟩⟩⟩⟩⟩⟩⟩⟩⟩⟩⟩⟩ := (h211_ h212_)
        have h228_ : ¬ (g5 1047 0 = 1) := fun q_ => h213_ (h143_ q_)
        have h229_ := (h227_ la_unary_44)
        obtain ⟨h230_, ⟨h231_, ⟨h232_, ⟨h233_, ⟨h234_, ⟨h235_, ⟨h236_, ⟨h237_, ⟨h238_, ⟨h239_, ⟨h240_, ⟨h241_, ⟨h242_, h243_⟩⟩⟩⟩⟩⟩⟩⟩⟩⟩⟩⟩⟩ := (h153_ h214_)
        have h244_ := (h229_ la_unary_46)
        have h245_ := (h242_ la_unary_26)
        have h246_ := (h243_ la_unary_25)
        obtain ⟨h247_, ⟨h248_, ⟨h249_, ⟨h250_, ⟨h251_, ⟨h252_, ⟨h253_, ⟨h254_, ⟨h255_, ⟨h256_, ⟨h257_, ⟨h258_, ⟨h259_, ⟨h260_, ⟨h261_, ⟨h262_, -⟩⟩⟩⟩⟩⟩⟩⟩⟩⟩⟩⟩⟩⟩⟩⟩ := (h83_ h230_)
        refine ⟨h28_, ?_⟩
        refine ⟨h216_, ?_⟩
        refine ⟨h249_, ?_⟩
        refine ⟨h250_, ?_⟩
        refine ⟨(la_unary_47 h215_ h231_ h251_), ?_⟩
        refine ⟨(la_unary_48 h215_ h231_ h252_), ?_⟩
        refine ⟨(sm_FC_s (sm_FC_F h253_ (sm_F1_tr (sm_F1_le h148_ (Int.le_refl _)) h206_ h140_) (Int.le_refl _) (Int.le_refl _) (Int.le_refl _) rfl) (sm_FC_1 (((sm_F1_at h206_ (g5 1046 0) (la_unary_51 h231_)).trans rfl).trans h235_) (sm_FC_1 (((congrArg (g18 29) (la_unary_52 h141_ h231_)).trans h219_).trans rfl) (sm_FC_0 (la_unary_53 h141_ h199_))))), ?_⟩
        refine ⟨(la_unary_54 h220_ (sm_dl_0 : sm_dl 0 0 = 1) h236_ (sm_dl_17 : sm_dl 17 0 = (-1)) h254_), ?_⟩
        refine ⟨(la_unary_55 h221_ (sm_nt_0 : sm_nt 0 (g12 1046 0) (g12 1100023 (g12 1046 0)) (g12 1100023 (g12 1100023 (g12 1046 0))) = g12 1100023 (g12 1046 0)) h237_ (sm_nt_17 : sm_nt 17 (g5 1046 0) (g5 1100023 (g5 1046 0)) (g5 1100023 (g5 1100023 (g5 1046 0))) = g5 1100023 (g5 1046 0)) h255_), ?_⟩
        refine ⟨(la_unary_55 h222_ (sm_nd_0 : sm_nd 0 (g12 1100024 (g12 1046 0)) = g12 1100024 (g12 1046 0)) h238_ (sm_nd_17 : sm_nd 17 (g5 1100024 (g5 1046 0)) = g5 1100024 (g5 1046 0)) h256_), ?_⟩
        refine ⟨?_, ?_⟩
        · skip
          have e263_ : S 1100007 (g12 1100023 (g12 1046 0)) = S 1100007 (S 1100023 (S 1046 0)) := congrArg ((S 1100007)) (la_unary_35 h237_ (sm_nt_17 : sm_nt 17 (g5 1046 0) (g5 1100023 (g5 1046 0)) (g5 1100023 (g5 1100023 (g5 1046 0))) = g5 1100023 (g5 1046 0)) h255_)
          have e264_ : S 1100007 (g18 1100023 (g18 1046 0)) = S 1100007 (S 1100023 (S 1046 0)) := congrArg ((S 1100007)) (la_unary_55 h221_ (sm_nt_0 : sm_nt 0 (g12 1046 0) (g12 1100023 (g12 1046 0)) (g12 1100023 (g12 1100023 (g12 1046 0))) = g12 1100023 (g12 1046 0)) h237_ (sm_nt_17 : sm_nt 17 (g5 1046 0) (g5 1100023 (g5 1046 0)) (g5 1100023 (g5 1100023 (g5 1046 0))) = g5 1100023 (g5 1046 0)) h255_)
          have e265_ : S 1100007 (g18 1100023 (g18 1046 0)) = S 1100007 (g12 1100023 (g12 1046 0)) := congrArg ((S 1100007)) (la_unary_61 h221_ (sm_nt_0 : sm_nt 0 (g12 1046 0) (g12 1100023 (g12 1046 0)) (g12 1100023 (g12 1100023 (g12 1046 0))) = g12 1100023 (g12 1046 0)))
          have e266_ : S 1100007 (g5 1100023 (g5 1046 0)) = S 1100007 (S 1100023 (S 1046 0)) := congrArg ((S 1100007)) h255_
          have e267_ : S 1100007 (g5 1100023 (g5 1046 0)) = S 1100007 (g12 1100023 (g12 1046 0)) := congrArg ((S 1100007)) (la_unary_36 h237_ (sm_nt_17 : sm_nt 17 (g5 1046 0) (g5 1100023 (g5 1046 0)) (g5 1100023 (g5 1100023 (g5 1046 0))) = g5 1100023 (g5 1046 0)))
          have e268_ : S 1100007 (g5 1100023 (g5 1046 0)) = S 1100007 (g18 1100023 (g18 1046 0)) := congrArg ((S 1100007)) (la_unary_62 h221_ (sm_nt_0 : sm_nt 0 (g12 1046 0) (g12 1100023 (g12 1046 0)) (g12 1100023 (g12 1100023 (g12 1046 0))) = g12 1100023 (g12 1046 0)) h237_ (sm_nt_17 : sm_nt 17 (g5 1046 0) (g5 1100023 (g5 1046 0)) (g5 1100023 (g5 1100023 (g5 1046 0))) = g5 1100023 (g5 1046 0)))
          have e269_ : S 1100007 (g5 1100025 (g5 1046 0)) = S 1100007 (S 1100025 (S 1046 0)) := congrArg ((S 1100007)) h257_
          have e270_ : g12 1100007 (g18 1100023 (g18 1046 0)) = g12 1100007 (g12 1100023 (g12 1046 0)) := congrArg ((g12 1100007)) (la_unary_61 h221_ (sm_nt_0 : sm_nt 0 (g12 1046 0) (g12 1100023 (g12 1046 0)) (g12 1100023 (g12 1100023 (g12 1046 0))) = g12 1100023 (g12 1046 0)))
          have e271_ : g12 1100007 (g18 1100025 (g18 1046 0)) = g12 1100007 (g12 1100025 (g12 1046 0)) := congrArg ((g12 1100007)) (la_unary_61 h223_ (sm_nl_0 : sm_nl 0 (g12 1046 0) (g12 1100007 (g12 1046 0)) (g12 1100025 (g12 1046 0)) (g12 1100007 (g12 1100025 (g12 1046 0))) (g12 1100025 (g12 1100025 (g12 1046 0))) = g12 1100025 (g12 1046 0)))
          have e272_ : g5 1100007 (g18 1100023 (g18 1046 0)) = g5 1100007 (g12 1100023 (g12 1046 0)) := congrArg ((g5 1100007)) (la_unary_61 h221_ (sm_nt_0 : sm_nt 0 (g12 1046 0) (g12 1100023 (g12 1046 0)) (g12 1100023 (g12 1100023 (g12 1046 0))) = g12 1100023 (g12 1046 0)))
          have e273_ : g5 1100007 (g18 1100025 (g18 1046 0)) = g5 1100007 (g12 1100025 (g12 1046 0)) := congrArg ((g5 1100007)) (la_unary_61 h223_ (sm_nl_0 : sm_nl 0 (g12 1046 0) (g12 1100007 (g12 1046 0)) (g12 1100025 (g12 1046 0)) (g12 1100007 (g12 1100025 (g12 1046 0))) (g12 1100025 (g12 1100025 (g12 1046 0))) = g12 1100025 (g12 1046 0)))
          have e274_ : g5 1100007 (g5 1100023 (g5 1046 0)) = g5 1100007 (g12 1100023 (g12 1046 0)) := congrArg ((g5 1100007)) (la_unary_36 h237_ (sm_nt_17 : sm_nt 17 (g5 1046 0) (g5 1100023 (g5 1046 0)) (g5 1100023 (g5 1100023 (g5 1046 0))) = g5 1100023 (g5 1046 0)))
          have e275_ : g5 1100007 (g5 1100023 (g5 1046 0)) = g5 1100007 (g18 1100023 (g18 1046 0)) := congrArg ((g5 1100007)) (la_unary_62 h221_ (sm_nt_0 : sm_nt 0 (g12 1046 0) (g12 1100023 (g12 1046 0)) (g12 1100023 (g12 1100023 (g12 1046 0))) = g12 1100023 (g12 1046 0)) h237_ (sm_nt_17 : sm_nt 17 (g5 1046 0) (g5 1100023 (g5 1046 0)) (g5 1100023 (g5 1100023 (g5 1046 0))) = g5 1100023 (g5 1046 0)))
          have e276_ : g5 1100007 (g5 1100025 (g5 1046 0)) = g5 1100007 (g12 1100025 (g12 1046 0)) := congrArg ((g5 1100007)) (la_unary_63 h34_ (sm_KC_n h232_).2.1.2.2.2.2.2.2.1 h239_ (sm_nl_17b : (0 ≤ g5 1100025 (g5 1046 0) → g5 1100007 (g5 1100025 (g5 1046 0)) < g5 1100007 (g5 1046 0)) → sm_nl 17 (g5 1046 0) (g5 1100007 (g5 1046 0)) (g5 1100025 (g5 1046 0)) (g5 1100007 (g5 1100025 (g5 1046 0))) (g5 1100025 (g5 1100025 (g5 1046 0))) = g5 1100025 (g5 1046 0)) h254_ h257_ h259_)
          have e277_ : g5 1100007 (g5 1100025 (g5 1046 0)) = g5 1100007 (g18 1100025 (g18 1046 0)) := congrArg ((g5 1100007)) (la_unary_64 h34_ (sm_KC_n h216_).2.1.2.2.2.2.2.2.1 h223_ (sm_nl_0 : sm_nl 0 (g12 1046 0) (g12 1100007 (g12 1046 0)) (g12 1100025 (g12 1046 0)) (g12 1100007 (g12 1100025 (g12 1046 0))) (g12 1100025 (g12 1100025 (g12 1046 0))) = g12 1100025 (g12 1046 0)) h239_ (sm_nl_17b : (0 ≤ g5 1100025 (g5 1046 0) → g5 1100007 (g5 1100025 (g5 1046 0)) < g5 1100007 (g5 1046 0)) → sm_nl 17 (g5 1046 0) (g5 1100007 (g5 1046 0)) (g5 1100025 (g5 1046 0)) (g5 1100007 (g5 1100025 (g5 1046 0))) (g5 1100025 (g5 1100025 (g5 1046 0))) = g5 1100025 (g5 1046 0)) h254_ h257_ h259_)
          have e278_ : g5 1100025 (g5 1100025 (g5 1046 0)) = g5 1100025 (g12 1100025 (g12 1046 0)) := congrArg ((g5 1100025)) (la_unary_63 h34_ (sm_KC_n h232_).2.1.2.2.2.2.2.2.1 h239_ (sm_nl_17b : (0 ≤ g5 1100025 (g5 1046 0) → g5 1100007 (g5 1100025 (g5 1046 0)) < g5 1100007 (g5 1046 0)) → sm_nl 17 (g5 1046 0) (g5 1100007 (g5 1046 0)) (g5 1100025 (g5 1046 0)) (g5 1100007 (g5 1100025 (g5 1046 0))) (g5 1100025 (g5 1100025 (g5 1046 0))) = g5 1100025 (g5 1046 0)) h254_ h257_ h259_)
          exact (la_unary_65 h34_ (sm_KC_n h216_).2.1.2.2.2.2.2.2.1 h223_ (sm_nl_0 : sm_nl 0 (g12 1046 0) (g12 1100007 (g12 1046 0)) (g12 1100025 (g12 1046 0)) (g12 1100007 (g12 1100025 (g12 1046 0))) (g12 1100025 (g12 1100025 (g12 1046 0))) = g12 1100025 (g12 1046 0)) h239_ (sm_nl_17b : (0 ≤ g5 1100025 (g5 1046 0) → g5 1100007 (g5 1100025 (g5 1046 0)) < g5 1100007 (g5 1046 0)) → sm_nl 17 (g5 1046 0) (g5 1100007 (g5 1046 0)) (g5 1100025 (g5 1046 0)) (g5 1100007 (g5 1100025 (g5 1046 0))) (g5 1100025 (g5 1100025 (g5 1046 0))) = g5 1100025 (g5 1046 0)) h254_ h257_ h259_)
        refine ⟨(la_unary_55 h224_ (sm_nt_0 : sm_nt 0 (g12 1100007 (g12 1046 0)) (g12 1100007 (g12 1100023 (g12 1046 0))) (g12 1100007 (g12 1100023 (g12 1100023 (g12 1046 0)))) = g12 1100007 (g12 1100023 (g12 1046 0))) h240_ (sm_nt_17 : sm_nt 17 (g5 1100007 (g5 1046 0)) (g5 1100007 (g5 1100023 (g5 1046 0))) (g5 1100007 (g5 1100023 (g5 1100023 (g5 1046 0)))) = g5 1100007 (g5 1100023 (g5 1046 0))) h258_), ?_⟩
        refine ⟨?_, ?_⟩
        · skip
          have e279_ : S 1100007 (g12 1100023 (g12 1046 0)) = S 1100007 (S 1100023 (S 1046 0)) := congrArg ((S 1100007)) (la_unary_35 h237_ (sm_nt_17 : sm_nt 17 (g5 1046 0) (g5 1100023 (g5 1046 0)) (g5 1100023 (g5 1100023 (g5 1046 0))) = g5 1100023 (g5 1046 0)) h255_)
          have e280_ : S 1100007 (g18 1100023 (g18 1046 0)) = S 1100007 (S 1100023 (S 1046 0)) := congrArg ((S 1100007)) (la_unary_55 h221_ (sm_nt_0 : sm_nt 0 (g12 1046 0) (g12 1100023 (g12 1046 0)) (g12 1100023 (g12 1100023 (g12 1046 0))) = g12 1100023 (g12 1046 0)) h237_ (sm_nt_17 : sm_nt 17 (g5 1046 0) (g5 1100023 (g5 1046 0)) (g5 1100023 (g5 1100023 (g5 1046 0))) = g5 1100023 (g5 1046 0)) h255_)
          have e281_ : S 1100007 (g18 1100023 (g18 1046 0)) = S 1100007 (g12 1100023 (g12 1046 0)) := congrArg ((S 1100007)) (la_unary_61 h221_ (sm_nt_0 : sm_nt 0 (g12 1046 0) (g12 1100023 (g12 1046 0)) (g12 1100023 (g12 1100023 (g12 1046 0))) = g12 1100023 (g12 1046 0)))
          have e282_ : S 1100007 (g5 1100023 (g5 1046 0)) = S 1100007 (S 1100023 (S 1046 0)) := congrArg ((S 1100007)) h255_
          have e283_ : S 1100007 (g5 1100023 (g5 1046 0)) = S 1100007 (g12 1100023 (g12 1046 0)) := congrArg ((S 1100007)) (la_unary_36 h237_ (sm_nt_17 : sm_nt 17 (g5 1046 0) (g5 1100023 (g5 1046 0)) (g5 1100023 (g5 1100023 (g5 1046 0))) = g5 1100023 (g5 1046 0)))
          have e284_ : S 1100007 (g5 1100023 (g5 1046 0)) = S 1100007 (g18 1100023 (g18 1046 0)) := congrArg ((S 1100007)) (la_unary_62 h221_ (sm_nt_0 : sm_nt 0 (g12 1046 0) (g12 1100023 (g12 1046 0)) (g12 1100023 (g12 1100023 (g12 1046 0))) = g12 1100023 (g12 1046 0)) h237_ (sm_nt_17 : sm_nt 17 (g5 1046 0) (g5 1100023 (g5 1046 0)) (g5 1100023 (g5 1100023 (g5 1046 0))) = g5 1100023 (g5 1046 0)))
          have e285_ : S 1100007 (g5 1100025 (g5 1046 0)) = S 1100007 (S 1100025 (S 1046 0)) := congrArg ((S 1100007)) h257_
          have e286_ : g12 1100007 (g18 1100023 (g18 1046 0)) = g12 1100007 (g12 1100023 (g12 1046 0)) := congrArg ((g12 1100007)) (la_unary_61 h221_ (sm_nt_0 : sm_nt 0 (g12 1046 0) (g12 1100023 (g12 1046 0)) (g12 1100023 (g12 1100023 (g12 1046 0))) = g12 1100023 (g12 1046 0)))
          have e287_ : g12 1100007 (g18 1100025 (g18 1046 0)) = g12 1100007 (g12 1100025 (g12 1046 0)) := congrArg ((g12 1100007)) (la_unary_61 h223_ (sm_nl_0 : sm_nl 0 (g12 1046 0) (g12 1100007 (g12 1046 0)) (g12 1100025 (g12 1046 0)) (g12 1100007 (g12 1100025 (g12 1046 0))) (g12 1100025 (g12 1100025 (g12 1046 0))) = g12 1100025 (g12 1046 0)))
          have e288_ : g5 1100007 (g18 1100023 (g18 1046 0)) = g5 1100007 (g12 1100023 (g12 1046 0)) := congrArg ((g5 1100007)) (la_unary_61 h221_ (sm_nt_0 : sm_nt 0 (g12 1046 0) (g12 1100023 (g12 1046 0)) (g12 1100023 (g12 1100023 (g12 1046 0))) = g12 1100023 (g12 1046 0)))
          have e289_ : g5 1100007 (g18 1100025 (g18 1046 0)) = g5 1100007 (g12 1100025 (g12 1046 0)) := congrArg ((g5 1100007)) (la_unary_61 h223_ (sm_nl_0 : sm_nl 0 (g12 1046 0) (g12 1100007 (g12 1046 0)) (g12 1100025 (g12 1046 0)) (g12 1100007 (g12 1100025 (g12 1046 0))) (g12 1100025 (g12 1100025 (g12 1046 0))) = g12 1100025 (g12 1046 0)))
          have e290_ : g5 1100007 (g5 1100023 (g5 1046 0)) = g5 1100007 (g12 1100023 (g12 1046 0)) := congrArg ((g5 1100007)) (la_unary_36 h237_ (sm_nt_17 : sm_nt 17 (g5 1046 0) (g5 1100023 (g5 1046 0)) (g5 1100023 (g5 1100023 (g5 1046 0))) = g5 1100023 (g5 1046 0)))
          have e291_ : g5 1100007 (g5 1100023 (g5 1046 0)) = g5 1100007 (g18 1100023 (g18 1046 0)) := congrArg ((g5 1100007)) (la_unary_62 h221_ (sm_nt_0 : sm_nt 0 (g12 1046 0) (g12 1100023 (g12 1046 0)) (g12 1100023 (g12 1100023 (g12 1046 0))) = g12 1100023 (g12 1046 0)) h237_ (sm_nt_17 : sm_nt 17 (g5 1046 0) (g5 1100023 (g5 1046 0)) (g5 1100023 (g5 1100023 (g5 1046 0))) = g5 1100023 (g5 1046 0)))
          have e292_ : g5 1100007 (g5 1100025 (g5 1046 0)) = g5 1100007 (g12 1100025 (g12 1046 0)) := congrArg ((g5 1100007)) (la_unary_63 h34_ (sm_KC_n h232_).2.1.2.2.2.2.2.2.1 h239_ (sm_nl_17b : (0 ≤ g5 1100025 (g5 1046 0) → g5 1100007 (g5 1100025 (g5 1046 0)) < g5 1100007 (g5 1046 0)) → sm_nl 17 (g5 1046 0) (g5 1100007 (g5 1046 0)) (g5 1100025 (g5 1046 0)) (g5 1100007 (g5 1100025 (g5 1046 0))) (g5 1100025 (g5 1100025 (g5 1046 0))) = g5 1100025 (g5 1046 0)) h254_ h257_ h259_)
          have e293_ : g5 1100007 (g5 1100025 (g5 1046 0)) = g5 1100007 (g18 1100025 (g18 1046 0)) := congrArg ((g5 1100007)) (la_unary_64 h34_ (sm_KC_n h216_).2.1.2.2.2.2.2.2.1 h223_ (sm_nl_0 : sm_nl 0 (g12 1046 0) (g12 1100007 (g12 1046 0)) (g12 1100025 (g12 1046 0)) (g12 1100007 (g12 1100025 (g12 1046 0))) (g12 1100025 (g12 1100025 (g12 1046 0))) = g12 1100025 (g12 1046 0)) h239_ (sm_nl_17b : (0 ≤ g5 1100025 (g5 1046 0) → g5 1100007 (g5 1100025 (g5 1046 0)) < g5 1100007 (g5 1046 0)) → sm_nl 17 (g5 1046 0) (g5 1100007 (g5 1046 0)) (g5 1100025 (g5 1046 0)) (g5 1100007 (g5 1100025 (g5 1046 0))) (g5 1100025 (g5 1100025 (g5 1046 0))) = g5 1100025 (g5 1046 0)) h254_ h257_ h259_)
          exact (la_unary_66 h244_ h259_ (sm_F1_at h149_ (g12 1100025 (g12 1046 0)) (la_unary_32 h141_ (sm_KC_n h232_).2.1.2.2.2.2.2.2.2)) e292_)
        refine ⟨h260_, ?_⟩
        refine ⟨(sm_HB_1 (by rw [((sm_F1_at h207_ (S 1046 0) (la_unary_67 h231_ h252_)).trans ((sm_F1_at h149_ (S 1046 0) (la_unary_68 h252_)).trans ((sm_F1_at h68_ (S 1046 0) la_unary_69).trans rfl)))]; exact (la_unary_70 h48_ h215_ h231_ h252_)) (sm_HB_s (sm_HB_F h261_ (sm_F1_tr (sm_F1_le h149_ la_unary_73) h207_ (la_unary_75 h231_)) (Int.le_refl _) la_unary_73 (Int.le_refl _) (la_unary_74 h215_ h231_)) (sm_HB_1 (by rw [((sm_F1_at h207_ (g5 1046 0) (la_unary_76 h231_)).trans ((sm_F1_at h149_ (g5 1046 0) la_unary_69).trans rfl))]; exact (la_unary_77 h48_ h215_ h231_ h252_ h254_)) (sm_HB_1 (by rw [((sm_F1_at h207_ (g5 1046 0 + 1) (la_unary_78 h231_)).trans ((congrArg (g12 1100007) (la_unary_52 h141_ h231_)).trans h236_))]; exact (la_unary_79 h48_ h215_ h231_ (sm_dl_17 : sm_dl 17 0 = (-1)) h252_ h254_)) (sm_HB_0 (la_unary_53 h141_ h199_)))))), ?_⟩
        refine ⟨(la_unary_80 h215_ h231_ h262_), ?_⟩
        exact trivial
      intro h294_
      refine ⟨?_, ?_⟩
      · skip
        refine ⟨h56_, ?_⟩
        refine ⟨h57_, ?_⟩
        refine ⟨h58_, ?_⟩
        refine ⟨h59_, ?_⟩
        intro h295_
        obtain ⟨h296_, ⟨h297_, ⟨h298_, ⟨h299_, ⟨h300_, ⟨h301_, ⟨h302_, ⟨h303_, ⟨h304_, ⟨h305_, ⟨h306_, ⟨h307_, ⟨h308_, ⟨h309_, ⟨h310_, ⟨h311_, -⟩⟩⟩⟩⟩⟩⟩⟩⟩⟩⟩⟩⟩⟩⟩⟩ := (h83_ h295_)
        refine ⟨h297_, ?_⟩
        refine ⟨la_unary_83, ?_⟩
        refine ⟨la_unary_84, ?_⟩
        refine ⟨(sm_ci_13 (la_unary_85 h21_ (sm_KC_n h29_).2.1.1 h33_ h34_ (la_unary_82 (la_unary_81 h294_) h50_) h303_ h304_ h306_ h307_ h308_ (sm_dl_13 : sm_dl 13 p1 = 0) (sm_nt_13 : sm_nt 13 (g5 1046 0) (g5 1100023 (g5 1046 0)) (g5 1100023 (g5 1100023 (g5 1046 0))) = g5 1100023 (g5 1046 0)) (sm_nl_13 : sm_nl 13 (g5 1046 0) (g5 1100007 (g5 1046 0)) (g5 1100025 (g5 1046 0)) (g5 1100007 (g5 1100025 (g5 1046 0))) (g5 1100025 (g5 1100025 (g5 1046 0))) = g5 1100025 (g5 1046 0)))), ?_⟩
        refine ⟨la_unary_86, ?_⟩
        intro h312_
        have h313_ := (h312_.resolve_left la_unary_87)
        have h314_ := (h33_ (la_unary_89 h313_))
        have h315_ := (h34_ (la_unary_89 h313_))
        have h316_ := (h46_ (la_unary_90 h313_))
        have h317_ := (h47_ (la_unary_91 h313_))
        have e318_ : S 1100007 (S 1100023 (S 1046 0)) = S 1100007 (S 1046 0) := congrArg ((S 1100007)) (la_unary_92 h313_)
        have e319_ : S 1100007 (S 1100025 (S 1046 0)) = S 1100007 (S 1046 0) := congrArg ((S 1100007)) (la_unary_92 h313_)
        have e320_ : S 1100007 (S 1100025 (S 1046 0)) = S 1100007 (S 1100023 (S 1046 0)) := congrArg ((S 1100007)) (la_unary_92 h313_)
        have e321_ : S 1100007 (g5 1046 0) = S 1100007 (S 1046 0) := congrArg ((S 1100007)) (la_unary_92 h313_)
        have e322_ : S 1100007 (g5 1046 0) = S 1100007 (S 1100023 (S 1046 0)) := congrArg ((S 1100007)) (la_unary_92 h313_)
        have e323_ : S 1100007 (g5 1046 0) = S 1100007 (S 1100025 (S 1046 0)) := congrArg ((S 1100007)) (la_unary_92 h313_)
        have e324_ : S 1100007 (g5 1100023 (g5 1046 0)) = S 1100007 (S 1046 0) := congrArg ((S 1100007)) (la_unary_92 h313_)
        have e325_ : S 1100007 (g5 1100023 (g5 1046 0)) = S 1100007 (S 1100023 (S 1046 0)) := congrArg ((S 1100007)) h304_
        have e326_ : S 1100007 (g5 1100023 (g5 1046 0)) = S 1100007 (S 1100025 (S 1046 0)) := congrArg ((S 1100007)) (la_unary_92 h313_)
        have e327_ : S 1100007 (g5 1100023 (g5 1046 0)) = S 1100007 (g5 1046 0) := congrArg ((S 1100007)) (la_unary_92 h313_)
        have e328_ : S 1100007 (g5 1100025 (g5 1046 0)) = S 1100007 (S 1046 0) := congrArg ((S 1100007)) (la_unary_92 h313_)
        have e329_ : S 1100007 (g5 1100025 (g5 1046 0)) = S 1100007 (S 1100023 (S 1046 0)) := congrArg ((S 1100007)) (la_unary_92 h313_)
        have e330_ : S 1100007 (g5 1100025 (g5 1046 0)) = S 1100007 (S 1100025 (S 1046 0)) := congrArg ((S 1100007)) h306_
        have e331_ : S 1100007 (g5 1100025 (g5 1046 0)) = S 1100007 (g5 1046 0) := congrArg ((S 1100007)) (la_unary_92 h313_)
        have e332_ : S 1100007 (g5 1100025 (g5 1046 0)) = S 1100007 (g5 1100023 (g5 1046 0)) := congrArg ((S 1100007)) (la_unary_92 h313_)
        have e333_ : S 1100023 (g5 1046 0) = S 1100023 (S 1046 0) := congrArg ((S 1100023)) (la_unary_92 h313_)
        have e334_ : S 1100024 (g5 1046 0) = S 1100024 (S 1046 0) := congrArg ((S 1100024)) (la_unary_92 h313_)
        have e335_ : S 1100025 (g5 1046 0) = S 1100025 (S 1046 0) := congrArg ((S 1100025)) (la_unary_92 h313_)
        have e336_ : g5 1100007 (g5 1100023 (g5 1046 0)) = g5 1100007 (g5 1046 0) := congrArg ((g5 1100007)) (la_unary_92 h313_)
        have e337_ : g5 1100007 (g5 1100025 (g5 1046 0)) = g5 1100007 (g5 1046 0) := congrArg ((g5 1100007)) (la_unary_92 h313_)
        have e338_ : g5 1100007 (g5 1100025 (g5 1046 0)) = g5 1100007 (g5 1100023 (g5 1046 0)) := congrArg ((g5 1100007)) (la_unary_92 h313_)
        have e339_ : g5 1100023 (g5 1100023 (g5 1046 0)) = g5 1100023 (g5 1046 0) := congrArg ((g5 1100023)) (la_unary_92 h313_)
        have e340_ : g5 1100025 (g5 1100025 (g5 1046 0)) = g5 1100025 (g5 1046 0) := congrArg ((g5 1100025)) (la_unary_92 h313_)
        have e341_ : S 1100023 (g5 1100023 (g5 1046 0)) = S 1100023 (S 1046 0) := congrArg ((S 1100023)) (la_unary_92 h313_)
        have e342_ : S 1100023 (g5 1100023 (g5 1046 0)) = S 1100023 (g5 1046 0) := congrArg ((S 1100023)) (la_unary_92 h313_)
        have e343_ : S 1100025 (g5 1100025 (g5 1046 0)) = S 1100025 (S 1046 0) := congrArg ((S 1100025)) (la_unary_92 h313_)
        have e344_ : S 1100025 (g5 1100025 (g5 1046 0)) = S 1100025 (g5 1046 0) := congrArg ((S 1100025)) (la_unary_92 h313_)
        exact ((la_unary_93 h313_)).elim
      refine ⟨(la_unary_94 h16_ h45_), ?_⟩
      intro g25
      rintro ⟨h345_, ⟨h346_, ⟨h347_, ⟨h348_, ⟨h349_, ⟨h350_, ⟨h351_, ⟨h352_, ⟨h353_, ⟨h354_, ⟨h355_, ⟨h356_, ⟨h357_, ⟨h358_, ⟨h359_, ⟨h360_, h361_⟩⟩⟩⟩⟩⟩⟩⟩⟩⟩⟩⟩⟩⟩⟩⟩
      refine ⟨(la_unary_23 h347_), ?_⟩
      refine ⟨h350_, ?_⟩
      refine ⟨h345_, ?_⟩
      refine ⟨h346_, ?_⟩
      refine ⟨h60_, ?_⟩
      refine ⟨h61_, ?_⟩
      refine ⟨(la_unary_41 h62_ h348_), ?_⟩
      refine ⟨(la_unary_40 h28_ h346_), ?_⟩
      refine ⟨(sm_F1_tr (sm_F1_le h64_ (Int.le_refl _)) h353_ h62_), ?_⟩
      refine ⟨(sm_F1_tr (sm_F1_le h65_ (Int.le_refl _)) h354_ h62_), ?_⟩
      refine ⟨(sm_F1_tr (sm_F1_le h66_ (Int.le_refl _)) h355_ h62_), ?_⟩
      refine ⟨(sm_F1_tr (sm_F1_le h67_ (Int.le_refl _)) h356_ h62_), ?_⟩
      refine ⟨(sm_F1_tr (sm_F1_le h68_ (Int.le_refl _)) h357_ (la_unary_43 h62_)), ?_⟩
      refine ⟨(sm_F1_tr (sm_F1_le h69_ (Int.le_refl _)) h358_ (la_unary_43 h62_)), ?_⟩
      refine ⟨(sm_F1_tr (sm_F1_le h70_ (Int.le_refl _)) h359_ (la_unary_43 h62_)), ?_⟩
      refine ⟨(sm_F1_tr (sm_F1_le h71_ (Int.le_refl _)) h360_ (la_unary_43 h62_)), ?_⟩
      refine ⟨h72_, ?_⟩
      refine ⟨h73_, ?_⟩
      refine ⟨h74_, ?_⟩
      refine ⟨h75_, ?_⟩
      refine ⟨h76_, ?_⟩
      refine ⟨h77_, ?_⟩
      refine ⟨h78_, ?_⟩
      refine ⟨h79_, ?_⟩
      refine ⟨h80_, ?_⟩
      refine ⟨h81_, ?_⟩
      refine ⟨h82_, ?_⟩
      intro h362_
      have h363_ : ¬ (g5 1047 0 = 1) := fun q_ => (la_unary_7 h362_) (h351_ q_)
      obtain ⟨h364_, ⟨h365_, ⟨h366_, ⟨h367_, ⟨h368_, ⟨h369_, ⟨h370_, ⟨h371_, ⟨h372_, ⟨h373_, ⟨h374_, ⟨h375_, ⟨h376_, h377_⟩⟩⟩⟩⟩⟩⟩⟩⟩⟩⟩⟩⟩ := (h361_ h362_)
      have h378_ := (h377_ la_unary_95)
      obtain ⟨h379_, ⟨h380_, ⟨h381_, ⟨h382_, ⟨h383_, ⟨h384_, ⟨h385_, ⟨h386_, ⟨h387_, ⟨h388_, ⟨h389_, ⟨h390_, ⟨h391_, ⟨h392_, ⟨h393_, ⟨h394_, -⟩⟩⟩⟩⟩⟩⟩⟩⟩⟩⟩⟩⟩⟩⟩⟩ := (h83_ h364_)
      have h395_ := (h378_ la_unary_97)
      refine ⟨h28_, ?_⟩
      refine ⟨h366_, ?_⟩
      refine ⟨h381_, ?_⟩
      refine ⟨h382_, ?_⟩
      refine ⟨(la_unary_98 h365_ h383_), ?_⟩
      refine ⟨(la_unary_99 h365_ h384_), ?_⟩
      refine ⟨(sm_FC_s (sm_FC_F h385_ (sm_F1_le h356_ (Int.le_refl _)) (Int.le_refl _) (Int.le_refl _) (Int.le_refl _) rfl) (sm_FC_1 h369_ (sm_FC_0 h349_))), ?_⟩
      refine ⟨(la_unary_100 h370_ (sm_dl_13 : sm_dl 13 p1 = 0) h386_), ?_⟩
      refine ⟨(la_unary_35 h371_ (sm_nt_13 : sm_nt 13 (g5 1046 0) (g5 1100023 (g5 1046 0)) (g5 1100023 (g5 1100023 (g5 1046 0))) = g5 1100023 (g5 1046 0)) h387_), ?_⟩
      refine ⟨(la_unary_35 h372_ (sm_nd_13 : sm_nd 13 (g5 1100024 (g5 1046 0)) = g5 1100024 (g5 1046 0)) h388_), ?_⟩
      refine ⟨(la_unary_35 h373_ (sm_nl_13 : sm_nl 13 (g5 1046 0) (g5 1100007 (g5 1046 0)) (g5 1100025 (g5 1046 0)) (g5 1100007 (g5 1100025 (g5 1046 0))) (g5 1100025 (g5 1100025 (g5 1046 0))) = g5 1100025 (g5 1046 0)) h389_), ?_⟩
      refine ⟨(la_unary_35 h374_ (sm_nt_13 : sm_nt 13 (g5 1100007 (g5 1046 0)) (g5 1100007 (g5 1100023 (g5 1046 0))) (g5 1100007 (g5 1100023 (g5 1100023 (g5 1046 0)))) = g5 1100007 (g5 1100023 (g5 1046 0))) h390_), ?_⟩
      refine ⟨(la_unary_101 h391_ h395_), ?_⟩
      refine ⟨h392_, ?_⟩
      refine ⟨(sm_HB_1 (by rw [((sm_F1_at h357_ (S 1046 0) (la_unary_68 h384_)).trans ((sm_F1_at h68_ (S 1046 0) la_unary_69).trans rfl))]; exact (la_unary_102 h48_ h365_ h384_)) (sm_HB_s (sm_HB_F h393_ (sm_F1_le h357_ la_unary_73) (Int.le_refl _) la_unary_73 (Int.le_refl _) (la_unary_103 h365_)) (sm_HB_1 (by rw [((sm_F1_at h357_ (g5 1046 0) la_unary_69).trans rfl)]; exact (la_unary_104 h48_ h365_ h384_ h386_)) (sm_HB_0 h349_)))), ?_⟩
      refine ⟨(la_unary_105 h365_ h394_), ?_⟩
      exact trivial
    intro h396_
    refine ⟨(la_unary_106 h9_ h23_ h24_), ?_⟩
    intro h397_
    refine ⟨?_, ?_⟩
    · skip
      intro h398_
      refine ⟨?_, ?_⟩
      · skip
        refine ⟨h4_, ?_⟩
        refine ⟨h5_, ?_⟩
        refine ⟨h6_, ?_⟩
        refine ⟨h7_, ?_⟩
        refine ⟨h8_, ?_⟩
        refine ⟨h9_, ?_⟩
        refine ⟨h10_, ?_⟩
        refine ⟨h11_, ?_⟩
        refine ⟨h12_, ?_⟩
        refine ⟨h13_, ?_⟩
        refine ⟨h14_, ?_⟩
        refine ⟨h15_, ?_⟩
        refine ⟨h16_, ?_⟩
        refine ⟨h17_, ?_⟩
        refine ⟨h18_, ?_⟩
        refine ⟨h19_, ?_⟩
        refine ⟨h20_, ?_⟩
        refine ⟨h23_, ?_⟩
        refine ⟨h24_, ?_⟩
        refine ⟨h25_, ?_⟩
        refine ⟨h27_, ?_⟩
        intro h399_
        refine ⟨h29_, ?_⟩
        refine ⟨h30_, ?_⟩
        refine ⟨h31_, ?_⟩
        refine ⟨h32_, ?_⟩
        refine ⟨h33_, ?_⟩
        refine ⟨h34_, ?_⟩
        refine ⟨h35_, ?_⟩
        exact h36_
      refine ⟨?_, ?_⟩
      · skip
        refine ⟨?_, ?_⟩
        · skip
          have e400_ : (if S 1047 0 = 0 then S 1100002 p2 + (600 - S 1046 0) + 8 else 4 : Int) = S 1100002 p2 + (600 - S 1046 0) + 8 := if_pos h28_
          exact (la_unary_4 h16_ h45_ e400_)
        have e401_ : (if S 1047 0 = 0 then S 1100002 p2 + (600 - S 1046 0) + 8 else 4 : Int) = S 1100002 p2 + (600 - S 1046 0) + 8 := if_pos h28_
        exact (la_unary_5 h37_ e401_)
      refine ⟨?_, ?_⟩
      · skip
        refine ⟨?_, ?_⟩
        · skip
          have e402_ : (if S 1047 0 = 0 then S 1100002 p2 + (600 - S 1046 0) + 8 else 4 : Int) = S 1100002 p2 + (600 - S 1046 0) + 8 := if_pos h28_
          exact (la_unary_4 h16_ h45_ e402_)
        have e403_ : (if S 1047 0 = 0 then S 1100002 p2 + (600 - S 1046 0) + 8 else 4 : Int) = S 1100002 p2 + (600 - S 1046 0) + 8 := if_pos h28_
        exact (la_unary_6 e403_)
      intro g35
      rintro ⟨h404_, ⟨h405_, ⟨h406_, ⟨h407_, ⟨h408_, ⟨h409_, ⟨h410_, ⟨h411_, ⟨h412_, ⟨h413_, ⟨h414_, ⟨h415_, ⟨h416_, ⟨h417_, ⟨h418_, ⟨h419_, ⟨h420_, ⟨h421_, ⟨h422_, ⟨h423_, ⟨h424_, ⟨h425_, ⟨h426_, ⟨h427_, ⟨h428_, ⟨h429_, ⟨h430_, h431_⟩⟩⟩⟩⟩⟩⟩⟩⟩⟩⟩⟩⟩⟩⟩⟩⟩⟩⟩⟩⟩⟩⟩⟩⟩⟩⟩
      have h432_ := (h430_ h28_)
      refine ⟨?_, ?_⟩
      · skip
        intro h433_
        refine ⟨?_, ?_⟩
        · skip
          refine ⟨h404_, ?_⟩
          refine ⟨h405_, ?_⟩
          refine ⟨h406_, ?_⟩
          refine ⟨h407_, ?_⟩
          intro h434_
          obtain ⟨h435_, ⟨h436_, ⟨h437_, ⟨h438_, ⟨h439_, ⟨h440_, ⟨h441_, ⟨h442_, ⟨h443_, ⟨h444_, ⟨h445_, ⟨h446_, ⟨h447_, ⟨h448_, ⟨h449_, ⟨h450_, -⟩⟩⟩⟩⟩⟩⟩⟩⟩⟩⟩⟩⟩⟩⟩⟩ := (h431_ h434_)
          refine ⟨h436_, ?_⟩
          refine ⟨la_unary_10, ?_⟩
          refine ⟨la_unary_11, ?_⟩
          refine ⟨(sm_ci_17 (la_unary_12 (sm_KC_n h29_).2.1.1 h33_ h34_ h442_ h443_ h445_ h446_ h447_ (sm_dl_17 : sm_dl 17 0 = (-1)) (sm_nt_17 : sm_nt 17 (g35 1046 0) (g35 1100023 (g35 1046 0)) (g35 1100023 (g35 1100023 (g35 1046 0))) = g35 1100023 (g35 1046 0)) (sm_nl_17b : (0 ≤ g35 1100025 (g35 1046 0) → g35 1100007 (g35 1100025 (g35 1046 0)) < g35 1100007 (g35 1046 0)) → sm_nl 17 (g35 1046 0) (g35 1100007 (g35 1046 0)) (g35 1100025 (g35 1046 0)) (g35 1100007 (g35 1100025 (g35 1046 0))) (g35 1100025 (g35 1100025 (g35 1046 0))) = g35 1100025 (g35 1046 0)))), ?_⟩
          refine ⟨la_unary_13, ?_⟩
          intro h451_
          have h452_ := (h451_.resolve_left la_unary_14)
          have h453_ := (h33_ (la_unary_16 h452_))
          have h454_ := (h34_ (la_unary_16 h452_))
          have h455_ := (h46_ (la_unary_17 h452_))
          have h456_ := (h47_ (la_unary_18 h452_))
          have h457_ := ((sm_nl_17b : (0 ≤ g35 1100025 (g35 1046 0) → g35 1100007 (g35 1100025 (g35 1046 0)) < g35 1100007 (g35 1046 0)) → sm_nl 17 (g35 1046 0) (g35 1100007 (g35 1046 0)) (g35 1100025 (g35 1046 0)) (g35 1100007 (g35 1100025 (g35 1046 0))) (g35 1100025 (g35 1100025 (g35 1046 0))) = g35 1100025 (g35 1046 0)) (la_unary_19 h452_))
          have e458_ : S 1100007 (S 1100023 (S 1046 0)) = S 1100007 (S 1046 0) := congrArg ((S 1100007)) (la_unary_20 h452_)
          have e459_ : S 1100007 (S 1100025 (S 1046 0)) = S 1100007 (S 1046 0) := congrArg ((S 1100007)) (la_unary_20 h452_)
          have e460_ : S 1100007 (S 1100025 (S 1046 0)) = S 1100007 (S 1100023 (S 1046 0)) := congrArg ((S 1100007)) (la_unary_20 h452_)
          have e461_ : S 1100007 (g35 1046 0) = S 1100007 (S 1046 0) := congrArg ((S 1100007)) (la_unary_20 h452_)
          have e462_ : S 1100007 (g35 1046 0) = S 1100007 (S 1100023 (S 1046 0)) := congrArg ((S 1100007)) (la_unary_20 h452_)
          have e463_ : S 1100007 (g35 1046 0) = S 1100007 (S 1100025 (S 1046 0)) := congrArg ((S 1100007)) (la_unary_20 h452_)
          have e464_ : S 1100007 (g35 1100023 (g35 1046 0)) = S 1100007 (S 1046 0) := congrArg ((S 1100007)) (la_unary_20 h452_)
          have e465_ : S 1100007 (g35 1100023 (g35 1046 0)) = S 1100007 (S 1100023 (S 1046 0)) := congrArg ((S 1100007)) h443_
          have e466_ : S 1100007 (g35 1100023 (g35 1046 0)) = S 1100007 (S 1100025 (S 1046 0)) := congrArg ((S 1100007)) (la_unary_20 h452_)
          have e467_ : S 1100007 (g35 1100023 (g35 1046 0)) = S 1100007 (g35 1046 0) := congrArg ((S 1100007)) (la_unary_20 h452_)
          have e468_ : S 1100007 (g35 1100025 (g35 1046 0)) = S 1100007 (S 1046 0) := congrArg ((S 1100007)) (la_unary_20 h452_)
          have e469_ : S 1100007 (g35 1100025 (g35 1046 0)) = S 1100007 (S 1100023 (S 1046 0)) := congrArg ((S 1100007)) (la_unary_20 h452_)
          have e470_ : S 1100007 (g35 1100025 (g35 1046 0)) = S 1100007 (S 1100025 (S 1046 0)) := congrArg ((S 1100007)) h445_
          have e471_ : S 1100007 (g35 1100025 (g35 1046 0)) = S 1100007 (g35 1046 0) := congrArg ((S 1100007)) (la_unary_20 h452_)
          have e472_ : S 1100007 (g35 1100025 (g35 1046 0)) = S 1100007 (g35 1100023 (g35 1046 0)) := congrArg ((S 1100007)) (la_unary_20 h452_)
          have e473_ : S 1100023 (g35 1046 0) = S 1100023 (S 1046 0) := congrArg ((S 1100023)) (la_unary_20 h452_)
          have e474_ : S 1100024 (g35 1046 0) = S 1100024 (S 1046 0) := congrArg ((S 1100024)) (la_unary_20 h452_)
          have e475_ : S 1100025 (g35 1046 0) = S 1100025 (S 1046 0) := congrArg ((S 1100025)) (la_unary_20 h452_)
          have e476_ : g35 1100007 (g35 1100023 (g35 1046 0)) = g35 1100007 (g35 1046 0) := congrArg ((g35 1100007)) (la_unary_20 h452_)
          have e477_ : g35 1100007 (g35 1100025 (g35 1046 0)) = g35 1100007 (g35 1046 0) := congrArg ((g35 1100007)) (la_unary_20 h452_)
          have e478_ : g35 1100007 (g35 1100025 (g35 1046 0)) = g35 1100007 (g35 1100023 (g35 1046 0)) := congrArg ((g35 1100007)) (la_unary_20 h452_)
          have e479_ : g35 1100023 (g35 1100023 (g35 1046 0)) = g35 1100023 (g35 1046 0) := congrArg ((g35 1100023)) (la_unary_20 h452_)
          have e480_ : g35 1100025 (g35 1100025 (g35 1046 0)) = g35 1100025 (g35 1046 0) := congrArg ((g35 1100025)) (la_unary_20 h452_)
          have e481_ : S 1100023 (g35 1100023 (g35 1046 0)) = S 1100023 (S 1046 0) := congrArg ((S 1100023)) (la_unary_20 h452_)
          have e482_ : S 1100023 (g35 1100023 (g35 1046 0)) = S 1100023 (g35 1046 0) := congrArg ((S 1100023)) (la_unary_20 h452_)
          have e483_ : S 1100025 (g35 1100025 (g35 1046 0)) = S 1100025 (S 1046 0) := congrArg ((S 1100025)) (la_unary_20 h452_)
          have e484_ : S 1100025 (g35 1100025 (g35 1046 0)) = S 1100025 (g35 1046 0) := congrArg ((S 1100025)) (la_unary_20 h452_)
          exact ((la_unary_21 h452_)).elim
        refine ⟨(la_unary_107 h45_ h426_ h432_), ?_⟩
        intro g42
        rintro ⟨h485_, ⟨h486_, ⟨h487_, ⟨h488_, ⟨h489_, ⟨h490_, ⟨h491_, ⟨h492_, ⟨h493_, ⟨h494_, ⟨h495_, ⟨h496_, ⟨h497_, ⟨h498_, ⟨h499_, ⟨h500_, h501_⟩⟩⟩⟩⟩⟩⟩⟩⟩⟩⟩⟩⟩⟩⟩⟩
        refine ⟨?_, ?_⟩
        · skip
          refine ⟨(la_unary_23 h487_), ?_⟩
          refine ⟨h490_, ?_⟩
          refine ⟨h485_, ?_⟩
          refine ⟨h486_, ?_⟩
          intro h502_
          have h503_ : ¬ (g35 1047 0 = 1) := fun q_ => (la_unary_7 h502_) (h491_ q_)
          obtain ⟨h504_, ⟨h505_, ⟨h506_, ⟨h507_, ⟨h508_, ⟨h509_, ⟨h510_, ⟨h511_, ⟨h512_, ⟨h513_, ⟨h514_, ⟨h515_, ⟨h516_, h517_⟩⟩⟩⟩⟩⟩⟩⟩⟩⟩⟩⟩⟩ := (h501_ h502_)
          have h518_ := (h516_ la_unary_26)
          have h519_ := (h517_ la_unary_25)
          obtain ⟨h520_, ⟨h521_, ⟨h522_, ⟨h523_, ⟨h524_, ⟨h525_, ⟨h526_, ⟨h527_, ⟨h528_, ⟨h529_, ⟨h530_, ⟨h531_, ⟨h532_, ⟨h533_, ⟨h534_, ⟨h535_, -⟩⟩⟩⟩⟩⟩⟩⟩⟩⟩⟩⟩⟩⟩⟩⟩ := (h431_ h504_)
          refine ⟨h506_, ?_⟩
          refine ⟨la_unary_27, ?_⟩
          refine ⟨la_unary_28, ?_⟩
          refine ⟨la_unary_29, ?_⟩
          refine ⟨(la_unary_30 h33_ h510_ (sm_dl_17 : sm_dl 17 0 = (-1)) h511_ (sm_nt_17 : sm_nt 17 (g35 1046 0) (g35 1100023 (g35 1046 0)) (g35 1100023 (g35 1100023 (g35 1046 0))) = g35 1100023 (g35 1046 0)) h514_ (sm_nt_17 : sm_nt 17 (g35 1100007 (g35 1046 0)) (g35 1100007 (g35 1100023 (g35 1046 0))) (g35 1100007 (g35 1100023 (g35 1100023 (g35 1046 0)))) = g35 1100007 (g35 1100023 (g35 1046 0))) h527_ h528_ h531_), ?_⟩
          intro h536_
          have e537_ : S 1100007 (g35 1100023 (g35 1046 0)) = S 1100007 (S 1100023 (S 1046 0)) := congrArg ((S 1100007)) h528_
          have e538_ : S 1100007 (g35 1100025 (g35 1046 0)) = S 1100007 (S 1100025 (S 1046 0)) := congrArg ((S 1100007)) h530_
          have e539_ : S 1100007 (g42 1100023 (g42 1046 0)) = S 1100007 (S 1100023 (S 1046 0)) := congrArg ((S 1100007)) (la_unary_35 h511_ (sm_nt_17 : sm_nt 17 (g35 1046 0) (g35 1100023 (g35 1046 0)) (g35 1100023 (g35 1100023 (g35 1046 0))) = g35 1100023 (g35 1046 0)) h528_)
          have e540_ : S 1100007 (g42 1100023 (g42 1046 0)) = S 1100007 (g35 1100023 (g35 1046 0)) := congrArg ((S 1100007)) (la_unary_61 h511_ (sm_nt_17 : sm_nt 17 (g35 1046 0) (g35 1100023 (g35 1046 0)) (g35 1100023 (g35 1100023 (g35 1046 0))) = g35 1100023 (g35 1046 0)))
          have e541_ : g35 1100007 (g42 1100023 (g42 1046 0)) = g35 1100007 (g35 1100023 (g35 1046 0)) := congrArg ((g35 1100007)) (la_unary_61 h511_ (sm_nt_17 : sm_nt 17 (g35 1046 0) (g35 1100023 (g35 1046 0)) (g35 1100023 (g35 1100023 (g35 1046 0))) = g35 1100023 (g35 1046 0)))
          have e542_ : g35 1100007 (g42 1100025 (g42 1046 0)) = g35 1100007 (g35 1100025 (g35 1046 0)) := congrArg ((g35 1100007)) (la_unary_108 h34_ h513_ (sm_nl_17b : (0 ≤ g35 1100025 (g35 1046 0) → g35 1100007 (g35 1100025 (g35 1046 0)) < g35 1100007 (g35 1046 0)) → sm_nl 17 (g35 1046 0) (g35 1100007 (g35 1046 0)) (g35 1100025 (g35 1046 0)) (g35 1100007 (g35 1100025 (g35 1046 0))) (g35 1100025 (g35 1100025 (g35 1046 0))) = g35 1100025 (g35 1046 0)) h527_ h530_ h532_ h536_)
          exact (la_unary_109 h34_ h510_ (sm_dl_17 : sm_dl 17 0 = (-1)) h513_ (sm_nl_17b : (0 ≤ g35 1100025 (g35 1046 0) → g35 1100007 (g35 1100025 (g35 1046 0)) < g35 1100007 (g35 1046 0)) → sm_nl 17 (g35 1046 0) (g35 1100007 (g35 1046 0)) (g35 1100025 (g35 1046 0)) (g35 1100007 (g35 1100025 (g35 1046 0))) (g35 1100025 (g35 1100025 (g35 1046 0))) = g35 1100025 (g35 1046 0)) h527_ h530_ h532_ h536_ (sm_F1_at h497_ (g42 1100025 (g42 1046 0)) (la_unary_32 h489_ (sm_KC_n h506_).2.1.2.2.2.2.2.2.2)) e542_)
        intro g48
        rintro ⟨h543_, ⟨h544_, ⟨h545_, ⟨h546_, ⟨h547_, ⟨h548_, ⟨h549_, ⟨h550_, ⟨h551_, ⟨h552_, ⟨h553_, ⟨h554_, ⟨h555_, ⟨h556_, ⟨h557_, ⟨h558_, h559_⟩⟩⟩⟩⟩⟩⟩⟩⟩⟩⟩⟩⟩⟩⟩⟩
        refine ⟨(la_unary_23 h545_), ?_⟩
        refine ⟨h548_, ?_⟩
        refine ⟨h543_, ?_⟩
        refine ⟨h544_, ?_⟩
        refine ⟨h408_, ?_⟩
        refine ⟨h409_, ?_⟩
        refine ⟨(la_unary_39 h410_ h488_ h546_), ?_⟩
        refine ⟨(la_unary_40 h28_ h544_), ?_⟩
        refine ⟨(sm_F1_tr (sm_F1_tr (sm_F1_le h412_ (Int.le_refl _)) h493_ h410_) h551_ (la_unary_41 h410_ h488_)), ?_⟩
        refine ⟨(sm_F1_tr (sm_F1_tr (sm_F1_le h413_ (Int.le_refl _)) h494_ h410_) h552_ (la_unary_41 h410_ h488_)), ?_⟩
        refine ⟨(sm_F1_tr (sm_F1_tr (sm_F1_le h414_ (Int.le_refl _)) h495_ h410_) h553_ (la_unary_41 h410_ h488_)), ?_⟩
        refine ⟨(sm_F1_tr (sm_F1_tr (sm_F1_le h415_ (Int.le_refl _)) h496_ h410_) h554_ (la_unary_41 h410_ h488_)), ?_⟩
        refine ⟨(sm_F1_tr (sm_F1_tr (sm_F1_le h416_ (Int.le_refl _)) h497_ (la_unary_43 h410_)) h555_ (la_unary_42 h410_ h488_)), ?_⟩
        refine ⟨(sm_F1_tr (sm_F1_tr (sm_F1_le h417_ (Int.le_refl _)) h498_ (la_unary_43 h410_)) h556_ (la_unary_42 h410_ h488_)), ?_⟩
        refine ⟨(sm_F1_tr (sm_F1_tr (sm_F1_le h418_ (Int.le_refl _)) h499_ (la_unary_43 h410_)) h557_ (la_unary_42 h410_ h488_)), ?_⟩
        refine ⟨(sm_F1_tr (sm_F1_tr (sm_F1_le h419_ (Int.le_refl _)) h500_ (la_unary_43 h410_)) h558_ (la_unary_42 h410_ h488_)), ?_⟩
        refine ⟨h420_, ?_⟩
        refine ⟨h421_, ?_⟩
        refine ⟨h422_, ?_⟩
        refine ⟨h423_, ?_⟩
        refine ⟨h424_, ?_⟩
        refine ⟨h425_, ?_⟩
        refine ⟨h426_, ?_⟩
        refine ⟨h427_, ?_⟩
        refine ⟨h428_, ?_⟩
        refine ⟨h429_, ?_⟩
        refine ⟨h430_, ?_⟩
        intro h560_
        have h561_ : ¬ (g42 1047 0 = 1) := fun q_ => (la_unary_7 h560_) (h549_ q_)
        obtain ⟨h562_, ⟨h563_, ⟨h564_, ⟨h565_, ⟨h566_, ⟨h567_, ⟨h568_, ⟨h569_, ⟨h570_, ⟨h571_, ⟨h572_, ⟨h573_, ⟨h574_, h575_⟩⟩⟩⟩⟩⟩⟩⟩⟩⟩⟩⟩⟩ := (h559_ h560_)
        have h576_ : ¬ (g35 1047 0 = 1) := fun q_ => h561_ (h491_ q_)
        have h577_ := (h575_ la_unary_44)
        obtain ⟨h578_, ⟨h579_, ⟨h580_, ⟨h581_, ⟨h582_, ⟨h583_, ⟨h584_, ⟨h585_, ⟨h586_, ⟨h587_, ⟨h588_, ⟨h589_, ⟨h590_, h591_⟩⟩⟩⟩⟩⟩⟩⟩⟩⟩⟩⟩⟩ := (h501_ h562_)
        have h592_ := (h577_ la_unary_46)
        have h593_ := (h590_ la_unary_26)
        have h594_ := (h591_ la_unary_25)
        obtain ⟨h595_, ⟨h596_, ⟨h597_, ⟨h598_, ⟨h599_, ⟨h600_, ⟨h601_, ⟨h602_, ⟨h603_, ⟨h604_, ⟨h605_, ⟨h606_, ⟨h607_, ⟨h608_, ⟨h609_, ⟨h610_, -⟩⟩⟩⟩⟩⟩⟩⟩⟩⟩⟩⟩⟩⟩⟩⟩ := (h431_ h578_)
        refine ⟨h28_, ?_⟩
        refine ⟨h564_, ?_⟩
        refine ⟨h597_, ?_⟩
        refine ⟨h598_, ?_⟩
        refine ⟨(la_unary_47 h563_ h579_ h599_), ?_⟩
        refine ⟨(la_unary_48 h563_ h579_ h600_), ?_⟩
        refine ⟨(sm_FC_s (sm_FC_F h601_ (sm_F1_tr (sm_F1_le h496_ (Int.le_refl _)) h554_ h488_) (Int.le_refl _) (Int.le_refl _) (Int.le_refl _) rfl) (sm_FC_1 (((sm_F1_at h554_ (g35 1046 0) (la_unary_51 h579_)).trans rfl).trans h583_) (sm_FC_1 (((congrArg (g48 29) (la_unary_52 h489_ h579_)).trans h567_).trans rfl) (sm_FC_0 (la_unary_53 h489_ h547_))))), ?_⟩
        refine ⟨(la_unary_54 h568_ (sm_dl_0 : sm_dl 0 0 = 1) h584_ (sm_dl_17 : sm_dl 17 0 = (-1)) h602_), ?_⟩
        refine ⟨(la_unary_55 h569_ (sm_nt_0 : sm_nt 0 (g42 1046 0) (g42 1100023 (g42 1046 0)) (g42 1100023 (g42 1100023 (g42 1046 0))) = g42 1100023 (g42 1046 0)) h585_ (sm_nt_17 : sm_nt 17 (g35 1046 0) (g35 1100023 (g35 1046 0)) (g35 1100023 (g35 1100023 (g35 1046 0))) = g35 1100023 (g35 1046 0)) h603_), ?_⟩
        refine ⟨(la_unary_55 h570_ (sm_nd_0 : sm_nd 0 (g42 1100024 (g42 1046 0)) = g42 1100024 (g42 1046 0)) h586_ (sm_nd_17 : sm_nd 17 (g35 1100024 (g35 1046 0)) = g35 1100024 (g35 1046 0)) h604_), ?_⟩
        refine ⟨?_, ?_⟩
        · skip
          have e611_ : S 1100007 (g35 1100023 (g35 1046 0)) = S 1100007 (S 1100023 (S 1046 0)) := congrArg ((S 1100007)) h603_
          have e612_ : S 1100007 (g35 1100025 (g35 1046 0)) = S 1100007 (S 1100025 (S 1046 0)) := congrArg ((S 1100007)) h605_
          have e613_ : S 1100007 (g42 1100023 (g42 1046 0)) = S 1100007 (S 1100023 (S 1046 0)) := congrArg ((S 1100007)) (la_unary_35 h585_ (sm_nt_17 : sm_nt 17 (g35 1046 0) (g35 1100023 (g35 1046 0)) (g35 1100023 (g35 1100023 (g35 1046 0))) = g35 1100023 (g35 1046 0)) h603_)
          have e614_ : S 1100007 (g42 1100023 (g42 1046 0)) = S 1100007 (g35 1100023 (g35 1046 0)) := congrArg ((S 1100007)) (la_unary_61 h585_ (sm_nt_17 : sm_nt 17 (g35 1046 0) (g35 1100023 (g35 1046 0)) (g35 1100023 (g35 1100023 (g35 1046 0))) = g35 1100023 (g35 1046 0)))
          have e615_ : S 1100007 (g48 1100023 (g48 1046 0)) = S 1100007 (S 1100023 (S 1046 0)) := congrArg ((S 1100007)) (la_unary_55 h569_ (sm_nt_0 : sm_nt 0 (g42 1046 0) (g42 1100023 (g42 1046 0)) (g42 1100023 (g42 1100023 (g42 1046 0))) = g42 1100023 (g42 1046 0)) h585_ (sm_nt_17 : sm_nt 17 (g35 1046 0) (g35 1100023 (g35 1046 0)) (g35 1100023 (g35 1100023 (g35 1046 0))) = g35 1100023 (g35 1046 0)) h603_)
          have e616_ : S 1100007 (g48 1100023 (g48 1046 0)) = S 1100007 (g35 1100023 (g35 1046 0)) := congrArg ((S 1100007)) (la_unary_110 h569_ (sm_nt_0 : sm_nt 0 (g42 1046 0) (g42 1100023 (g42 1046 0)) (g42 1100023 (g42 1100023 (g42 1046 0))) = g42 1100023 (g42 1046 0)) h585_ (sm_nt_17 : sm_nt 17 (g35 1046 0) (g35 1100023 (g35 1046 0)) (g35 1100023 (g35 1100023 (g35 1046 0))) = g35 1100023 (g35 1046 0)))
          have e617_ : S 1100007 (g48 1100023 (g48 1046 0)) = S 1100007 (g42 1100023 (g42 1046 0)) := congrArg ((S 1100007)) (la_unary_61 h569_ (sm_nt_0 : sm_nt 0 (g42 1046 0) (g42 1100023 (g42 1046 0)) (g42 1100023 (g42 1100023 (g42 1046 0))) = g42 1100023 (g42 1046 0)))
          have e618_ : g35 1100007 (g42 1100023 (g42 1046 0)) = g35 1100007 (g35 1100023 (g35 1046 0)) := congrArg ((g35 1100007)) (la_unary_61 h585_ (sm_nt_17 : sm_nt 17 (g35 1046 0) (g35 1100023 (g35 1046 0)) (g35 1100023 (g35 1100023 (g35 1046 0))) = g35 1100023 (g35 1046 0)))
          have e619_ : g35 1100007 (g42 1100025 (g42 1046 0)) = g35 1100007 (g35 1100025 (g35 1046 0)) := congrArg ((g35 1100007)) (la_unary_111 h34_ (sm_KC_n h580_).2.1.2.2.2.2.2.2.1 h587_ (sm_nl_17b : (0 ≤ g35 1100025 (g35 1046 0) → g35 1100007 (g35 1100025 (g35 1046 0)) < g35 1100007 (g35 1046 0)) → sm_nl 17 (g35 1046 0) (g35 1100007 (g35 1046 0)) (g35 1100025 (g35 1046 0)) (g35 1100007 (g35 1100025 (g35 1046 0))) (g35 1100025 (g35 1100025 (g35 1046 0))) = g35 1100025 (g35 1046 0)) h602_ h605_ h607_)
          have e620_ : g35 1100007 (g48 1100023 (g48 1046 0)) = g35 1100007 (g35 1100023 (g35 1046 0)) := congrArg ((g35 1100007)) (la_unary_110 h569_ (sm_nt_0 : sm_nt 0 (g42 1046 0) (g42 1100023 (g42 1046 0)) (g42 1100023 (g42 1100023 (g42 1046 0))) = g42 1100023 (g42 1046 0)) h585_ (sm_nt_17 : sm_nt 17 (g35 1046 0) (g35 1100023 (g35 1046 0)) (g35 1100023 (g35 1100023 (g35 1046 0))) = g35 1100023 (g35 1046 0)))
          have e621_ : g35 1100007 (g48 1100023 (g48 1046 0)) = g35 1100007 (g42 1100023 (g42 1046 0)) := congrArg ((g35 1100007)) (la_unary_61 h569_ (sm_nt_0 : sm_nt 0 (g42 1046 0) (g42 1100023 (g42 1046 0)) (g42 1100023 (g42 1100023 (g42 1046 0))) = g42 1100023 (g42 1046 0)))
          have e622_ : g35 1100007 (g48 1100025 (g48 1046 0)) = g35 1100007 (g35 1100025 (g35 1046 0)) := congrArg ((g35 1100007)) (la_unary_112 h34_ (sm_KC_n h564_).2.1.2.2.2.2.2.2.1 h571_ (sm_nl_0 : sm_nl 0 (g42 1046 0) (g42 1100007 (g42 1046 0)) (g42 1100025 (g42 1046 0)) (g42 1100007 (g42 1100025 (g42 1046 0))) (g42 1100025 (g42 1100025 (g42 1046 0))) = g42 1100025 (g42 1046 0)) h587_ (sm_nl_17b : (0 ≤ g35 1100025 (g35 1046 0) → g35 1100007 (g35 1100025 (g35 1046 0)) < g35 1100007 (g35 1046 0)) → sm_nl 17 (g35 1046 0) (g35 1100007 (g35 1046 0)) (g35 1100025 (g35 1046 0)) (g35 1100007 (g35 1100025 (g35 1046 0))) (g35 1100025 (g35 1100025 (g35 1046 0))) = g35 1100025 (g35 1046 0)) h602_ h605_ h607_)
          have e623_ : g35 1100007 (g48 1100025 (g48 1046 0)) = g35 1100007 (g42 1100025 (g42 1046 0)) := congrArg ((g35 1100007)) (la_unary_61 h571_ (sm_nl_0 : sm_nl 0 (g42 1046 0) (g42 1100007 (g42 1046 0)) (g42 1100025 (g42 1046 0)) (g42 1100007 (g42 1100025 (g42 1046 0))) (g42 1100025 (g42 1100025 (g42 1046 0))) = g42 1100025 (g42 1046 0)))
          have e624_ : g35 1100025 (g42 1100025 (g42 1046 0)) = g35 1100025 (g35 1100025 (g35 1046 0)) := congrArg ((g35 1100025)) (la_unary_111 h34_ (sm_KC_n h580_).2.1.2.2.2.2.2.2.1 h587_ (sm_nl_17b : (0 ≤ g35 1100025 (g35 1046 0) → g35 1100007 (g35 1100025 (g35 1046 0)) < g35 1100007 (g35 1046 0)) → sm_nl 17 (g35 1046 0) (g35 1100007 (g35 1046 0)) (g35 1100025 (g35 1046 0)) (g35 1100007 (g35 1100025 (g35 1046 0))) (g35 1100025 (g35 1100025 (g35 1046 0))) = g35 1100025 (g35 1046 0)) h602_ h605_ h607_)
          have e625_ : g42 1100007 (g48 1100023 (g48 1046 0)) = g42 1100007 (g42 1100023 (g42 1046 0)) := congrArg ((g42 1100007)) (la_unary_61 h569_ (sm_nt_0 : sm_nt 0 (g42 1046 0) (g42 1100023 (g42 1046 0)) (g42 1100023 (g42 1100023 (g42 1046 0))) = g42 1100023 (g42 1046 0)))
          have e626_ : g42 1100007 (g48 1100025 (g48 1046 0)) = g42 1100007 (g42 1100025 (g42 1046 0)) := congrArg ((g42 1100007)) (la_unary_61 h571_ (sm_nl_0 : sm_nl 0 (g42 1046 0) (g42 1100007 (g42 1046 0)) (g42 1100025 (g42 1046 0)) (g42 1100007 (g42 1100025 (g42 1046 0))) (g42 1100025 (g42 1100025 (g42 1046 0))) = g42 1100025 (g42 1046 0)))
          exact (la_unary_65 h34_ (sm_KC_n h564_).2.1.2.2.2.2.2.2.1 h571_ (sm_nl_0 : sm_nl 0 (g42 1046 0) (g42 1100007 (g42 1046 0)) (g42 1100025 (g42 1046 0)) (g42 1100007 (g42 1100025 (g42 1046 0))) (g42 1100025 (g42 1100025 (g42 1046 0))) = g42 1100025 (g42 1046 0)) h587_ (sm_nl_17b : (0 ≤ g35 1100025 (g35 1046 0) → g35 1100007 (g35 1100025 (g35 1046 0)) < g35 1100007 (g35 1046 0)) → sm_nl 17 (g35 1046 0) (g35 1100007 (g35 1046 0)) (g35 1100025 (g35 1046 0)) (g35 1100007 (g35 1100025 (g35 1046 0))) (g35 1100025 (g35 1100025 (g35 1046 0))) = g35 1100025 (g35 1046 0)) h602_ h605_ h607_)
        refine ⟨(la_unary_55 h572_ (sm_nt_0 : sm_nt 0 (g42 1100007 (g42 1046 0)) (g42 1100007 (g42 1100023 (g42 1046 0))) (g42 1100007 (g42 1100023 (g42 1100023 (g42 1046 0)))) = g42 1100007 (g42 1100023 (g42 1046 0))) h588_ (sm_nt_17 : sm_nt 17 (g35 1100007 (g35 1046 0)) (g35 1100007 (g35 1100023 (g35 1046 0))) (g35 1100007 (g35 1100023 (g35 1100023 (g35 1046 0)))) = g35 1100007 (g35 1100023 (g35 1046 0))) h606_), ?_⟩
        refine ⟨?_, ?_⟩
        · skip
          have e627_ : S 1100007 (g35 1100023 (g35 1046 0)) = S 1100007 (S 1100023 (S 1046 0)) := congrArg ((S 1100007)) h603_
          have e628_ : S 1100007 (g35 1100025 (g35 1046 0)) = S 1100007 (S 1100025 (S 1046 0)) := congrArg ((S 1100007)) h605_
          have e629_ : S 1100007 (g42 1100023 (g42 1046 0)) = S 1100007 (S 1100023 (S 1046 0)) := congrArg ((S 1100007)) (la_unary_35 h585_ (sm_nt_17 : sm_nt 17 (g35 1046 0) (g35 1100023 (g35 1046 0)) (g35 1100023 (g35 1100023 (g35 1046 0))) = g35 1100023 (g35 1046 0)) h603_)
          have e630_ : S 1100007 (g42 1100023 (g42 1046 0)) = S 1100007 (g35 1100023 (g35 1046 0)) := congrArg ((S 1100007)) (la_unary_61 h585_ (sm_nt_17 : sm_nt 17 (g35 1046 0) (g35 1100023 (g35 1046 0)) (g35 1100023 (g35 1100023 (g35 1046 0))) = g35 1100023 (g35 1046 0)))
          have e631_ : S 1100007 (g48 1100023 (g48 1046 0)) = S 1100007 (S 1100023 (S 1046 0)) := congrArg ((S 1100007)) (la_unary_55 h569_ (sm_nt_0 : sm_nt 0 (g42 1046 0) (g42 1100023 (g42 1046 0)) (g42 1100023 (g42 1100023 (g42 1046 0))) = g42 1100023 (g42 1046 0)) h585_ (sm_nt_17 : sm_nt 17 (g35 1046 0) (g35 1100023 (g35 1046 0)) (g35 1100023 (g35 1100023 (g35 1046 0))) = g35 1100023 (g35 1046 0)) h603_)
          have e632_ : S 1100007 (g48 1100023 (g48 1046 0)) = S 1100007 (g35 1100023 (g35 1046 0)) := congrArg ((S 1100007)) (la_unary_110 h569_ (sm_nt_0 : sm_nt 0 (g42 1046 0) (g42 1100023 (g42 1046 0)) (g42 1100023 (g42 1100023 (g42 1046 0))) = g42 1100023 (g42 1046 0)) h585_ (sm_nt_17 : sm_nt 17 (g35 1046 0) (g35 1100023 (g35 1046 0)) (g35 1100023 (g35 1100023 (g35 1046 0))) = g35 1100023 (g35 1046 0)))
          have e633_ : S 1100007 (g48 1100023 (g48 1046 0)) = S 1100007 (g42 1100023 (g42 1046 0)) := congrArg ((S 1100007)) (la_unary_61 h569_ (sm_nt_0 : sm_nt 0 (g42 1046 0) (g42 1100023 (g42 1046 0)) (g42 1100023 (g42 1100023 (g42 1046 0))) = g42 1100023 (g42 1046 0)))
          have e634_ : g35 1100007 (g42 1100023 (g42 1046 0)) = g35 1100007 (g35 1100023 (g35 1046 0)) := congrArg ((g35 1100007)) (la_unary_61 h585_ (sm_nt_17 : sm_nt 17 (g35 1046 0) (g35 1100023 (g35 1046 0)) (g35 1100023 (g35 1100023 (g35 1046 0))) = g35 1100023 (g35 1046 0)))
          have e635_ : g35 1100007 (g42 1100025 (g42 1046 0)) = g35 1100007 (g35 1100025 (g35 1046 0)) := congrArg ((g35 1100007)) (la_unary_111 h34_ (sm_KC_n h580_).2.1.2.2.2.2.2.2.1 h587_ (sm_nl_17b : (0 ≤ g35 1100025 (g35 1046 0) → g35 1100007 (g35 1100025 (g35 1046 0)) < g35 1100007 (g35 1046 0)) → sm_nl 17 (g35 1046 0) (g35 1100007 (g35 1046 0)) (g35 1100025 (g35 1046 0)) (g35 1100007 (g35 1100025 (g35 1046 0))) (g35 1100025 (g35 1100025 (g35 1046 0))) = g35 1100025 (g35 1046 0)) h602_ h605_ h607_)
          have e636_ : g35 1100007 (g48 1100023 (g48 1046 0)) = g35 1100007 (g35 1100023 (g35 1046 0)) := congrArg ((g35 1100007)) (la_unary_110 h569_ (sm_nt_0 : sm_nt 0 (g42 1046 0) (g42 1100023 (g42 1046 0)) (g42 1100023 (g42 1100023 (g42 1046 0))) = g42 1100023 (g42 1046 0)) h585_ (sm_nt_17 : sm_nt 17 (g35 1046 0) (g35 1100023 (g35 1046 0)) (g35 1100023 (g35 1100023 (g35 1046 0))) = g35 1100023 (g35 1046 0)))
          have e637_ : g35 1100007 (g48 1100023 (g48 1046 0)) = g35 1100007 (g42 1100023 (g42 1046 0)) := congrArg ((g35 1100007)) (la_unary_61 h569_ (sm_nt_0 : sm_nt 0 (g42 1046 0) (g42 1100023 (g42 1046 0)) (g42 1100023 (g42 1100023 (g42 1046 0))) = g42 1100023 (g42 1046 0)))
          have e638_ : g35 1100007 (g48 1100025 (g48 1046 0)) = g35 1100007 (g35 1100025 (g35 1046 0)) := congrArg ((g35 1100007)) (la_unary_112 h34_ (sm_KC_n h564_).2.1.2.2.2.2.2.2.1 h571_ (sm_nl_0 : sm_nl 0 (g42 1046 0) (g42 1100007 (g42 1046 0)) (g42 1100025 (g42 1046 0)) (g42 1100007 (g42 1100025 (g42 1046 0))) (g42 1100025 (g42 1100025 (g42 1046 0))) = g42 1100025 (g42 1046 0)) h587_ (sm_nl_17b : (0 ≤ g35 1100025 (g35 1046 0) → g35 1100007 (g35 1100025 (g35 1046 0)) < g35 1100007 (g35 1046 0)) → sm_nl 17 (g35 1046 0) (g35 1100007 (g35 1046 0)) (g35 1100025 (g35 1046 0)) (g35 1100007 (g35 1100025 (g35 1046 0))) (g35 1100025 (g35 1100025 (g35 1046 0))) = g35 1100025 (g35 1046 0)) h602_ h605_ h607_)
          have e639_ : g35 1100007 (g48 1100025 (g48 1046 0)) = g35 1100007 (g42 1100025 (g42 1046 0)) := congrArg ((g35 1100007)) (la_unary_61 h571_ (sm_nl_0 : sm_nl 0 (g42 1046 0) (g42 1100007 (g42 1046 0)) (g42 1100025 (g42 1046 0)) (g42 1100007 (g42 1100025 (g42 1046 0))) (g42 1100025 (g42 1100025 (g42 1046 0))) = g42 1100025 (g42 1046 0)))
          have e640_ : g42 1100007 (g48 1100023 (g48 1046 0)) = g42 1100007 (g42 1100023 (g42 1046 0)) := congrArg ((g42 1100007)) (la_unary_61 h569_ (sm_nt_0 : sm_nt 0 (g42 1046 0) (g42 1100023 (g42 1046 0)) (g42 1100023 (g42 1100023 (g42 1046 0))) = g42 1100023 (g42 1046 0)))
          have e641_ : g42 1100007 (g48 1100025 (g48 1046 0)) = g42 1100007 (g42 1100025 (g42 1046 0)) := congrArg ((g42 1100007)) (la_unary_61 h571_ (sm_nl_0 : sm_nl 0 (g42 1046 0) (g42 1100007 (g42 1046 0)) (g42 1100025 (g42 1046 0)) (g42 1100007 (g42 1100025 (g42 1046 0))) (g42 1100025 (g42 1100025 (g42 1046 0))) = g42 1100025 (g42 1046 0)))
          exact (la_unary_113 h592_ h607_ (sm_F1_at h497_ (g42 1100025 (g42 1046 0)) (la_unary_32 h489_ (sm_KC_n h580_).2.1.2.2.2.2.2.2.2)) e635_)
        refine ⟨h608_, ?_⟩
        refine ⟨(sm_HB_1 (by rw [((sm_F1_at h555_ (S 1046 0) (la_unary_67 h579_ h600_)).trans ((sm_F1_at h497_ (S 1046 0) (la_unary_68 h600_)).trans ((sm_F1_at h416_ (S 1046 0) la_unary_69).trans rfl)))]; exact (la_unary_70 h48_ h563_ h579_ h600_)) (sm_HB_s (sm_HB_F h609_ (sm_F1_tr (sm_F1_le h497_ la_unary_73) h555_ (la_unary_75 h579_)) (Int.le_refl _) la_unary_73 (Int.le_refl _) (la_unary_74 h563_ h579_)) (sm_HB_1 (by rw [((sm_F1_at h555_ (g35 1046 0) (la_unary_76 h579_)).trans ((sm_F1_at h497_ (g35 1046 0) la_unary_69).trans rfl))]; exact (la_unary_77 h48_ h563_ h579_ h600_ h602_)) (sm_HB_1 (by rw [((sm_F1_at h555_ (g35 1046 0 + 1) (la_unary_78 h579_)).trans ((congrArg (g42 1100007) (la_unary_52 h489_ h579_)).trans h584_))]; exact (la_unary_79 h48_ h563_ h579_ (sm_dl_17 : sm_dl 17 0 = (-1)) h600_ h602_)) (sm_HB_0 (la_unary_53 h489_ h547_)))))), ?_⟩
        refine ⟨(la_unary_80 h563_ h579_ h610_), ?_⟩
        exact trivial
      intro h642_
      refine ⟨?_, ?_⟩
      · skip
        refine ⟨h404_, ?_⟩
        refine ⟨h405_, ?_⟩
        refine ⟨h406_, ?_⟩
        refine ⟨h407_, ?_⟩
        intro h643_
        obtain ⟨h644_, ⟨h645_, ⟨h646_, ⟨h647_, ⟨h648_, ⟨h649_, ⟨h650_, ⟨h651_, ⟨h652_, ⟨h653_, ⟨h654_, ⟨h655_, ⟨h656_, ⟨h657_, ⟨h658_, ⟨h659_, -⟩⟩⟩⟩⟩⟩⟩⟩⟩⟩⟩⟩⟩⟩⟩⟩ := (h431_ h643_)
        refine ⟨h645_, ?_⟩
        refine ⟨la_unary_83, ?_⟩
        refine ⟨la_unary_84, ?_⟩
        refine ⟨(sm_ci_13 (la_unary_114 (sm_KC_n h29_).2.1.1 h33_ h34_ h396_ h642_ h651_ h652_ h654_ h655_ h656_ (sm_dl_13 : sm_dl 13 p1 = 0) (sm_nt_13 : sm_nt 13 (g35 1046 0) (g35 1100023 (g35 1046 0)) (g35 1100023 (g35 1100023 (g35 1046 0))) = g35 1100023 (g35 1046 0)) (sm_nl_13 : sm_nl 13 (g35 1046 0) (g35 1100007 (g35 1046 0)) (g35 1100025 (g35 1046 0)) (g35 1100007 (g35 1100025 (g35 1046 0))) (g35 1100025 (g35 1100025 (g35 1046 0))) = g35 1100025 (g35 1046 0)))), ?_⟩
        refine ⟨la_unary_86, ?_⟩
        intro h660_
        have h661_ := (h660_.resolve_left la_unary_87)
        have h662_ := (h33_ (la_unary_89 h661_))
        have h663_ := (h34_ (la_unary_89 h661_))
        have h664_ := (h46_ (la_unary_90 h661_))
        have h665_ := (h47_ (la_unary_91 h661_))
        have e666_ : S 1100007 (S 1100023 (S 1046 0)) = S 1100007 (S 1046 0) := congrArg ((S 1100007)) (la_unary_92 h661_)
        have e667_ : S 1100007 (S 1100025 (S 1046 0)) = S 1100007 (S 1046 0) := congrArg ((S 1100007)) (la_unary_92 h661_)
        have e668_ : S 1100007 (S 1100025 (S 1046 0)) = S 1100007 (S 1100023 (S 1046 0)) := congrArg ((S 1100007)) (la_unary_92 h661_)
        have e669_ : S 1100007 (g35 1046 0) = S 1100007 (S 1046 0) := congrArg ((S 1100007)) (la_unary_92 h661_)
        have e670_ : S 1100007 (g35 1046 0) = S 1100007 (S 1100023 (S 1046 0)) := congrArg ((S 1100007)) (la_unary_92 h661_)
        have e671_ : S 1100007 (g35 1046 0) = S 1100007 (S 1100025 (S 1046 0)) := congrArg ((S 1100007)) (la_unary_92 h661_)
        have e672_ : S 1100007 (g35 1100023 (g35 1046 0)) = S 1100007 (S 1046 0) := congrArg ((S 1100007)) (la_unary_92 h661_)
        have e673_ : S 1100007 (g35 1100023 (g35 1046 0)) = S 1100007 (S 1100023 (S 1046 0)) := congrArg ((S 1100007)) h652_
        have e674_ : S 1100007 (g35 1100023 (g35 1046 0)) = S 1100007 (S 1100025 (S 1046 0)) := congrArg ((S 1100007)) (la_unary_92 h661_)
        have e675_ : S 1100007 (g35 1100023 (g35 1046 0)) = S 1100007 (g35 1046 0) := congrArg ((S 1100007)) (la_unary_92 h661_)
        have e676_ : S 1100007 (g35 1100025 (g35 1046 0)) = S 1100007 (S 1046 0) := congrArg ((S 1100007)) (la_unary_92 h661_)
        have e677_ : S 1100007 (g35 1100025 (g35 1046 0)) = S 1100007 (S 1100023 (S 1046 0)) := congrArg ((S 1100007)) (la_unary_92 h661_)
        have e678_ : S 1100007 (g35 1100025 (g35 1046 0)) = S 1100007 (S 1100025 (S 1046 0)) := congrArg ((S 1100007)) h654_
        have e679_ : S 1100007 (g35 1100025 (g35 1046 0)) = S 1100007 (g35 1046 0) := congrArg ((S 1100007)) (la_unary_92 h661_)
        have e680_ : S 1100007 (g35 1100025 (g35 1046 0)) = S 1100007 (g35 1100023 (g35 1046 0)) := congrArg ((S 1100007)) (la_unary_92 h661_)
        have e681_ : S 1100023 (g35 1046 0) = S 1100023 (S 1046 0) := congrArg ((S 1100023)) (la_unary_92 h661_)
        have e682_ : S 1100024 (g35 1046 0) = S 1100024 (S 1046 0) := congrArg ((S 1100024)) (la_unary_92 h661_)
        have e683_ : S 1100025 (g35 1046 0) = S 1100025 (S 1046 0) := congrArg ((S 1100025)) (la_unary_92 h661_)
        have e684_ : g35 1100007 (g35 1100023 (g35 1046 0)) = g35 1100007 (g35 1046 0) := congrArg ((g35 1100007)) (la_unary_92 h661_)
        have e685_ : g35 1100007 (g35 1100025 (g35 1046 0)) = g35 1100007 (g35 1046 0) := congrArg ((g35 1100007)) (la_unary_92 h661_)
        have e686_ : g35 1100007 (g35 1100025 (g35 1046 0)) = g35 1100007 (g35 1100023 (g35 1046 0)) := congrArg ((g35 1100007)) (la_unary_92 h661_)
        have e687_ : g35 1100023 (g35 1100023 (g35 1046 0)) = g35 1100023 (g35 1046 0) := congrArg ((g35 1100023)) (la_unary_92 h661_)
        have e688_ : g35 1100025 (g35 1100025 (g35 1046 0)) = g35 1100025 (g35 1046 0) := congrArg ((g35 1100025)) (la_unary_92 h661_)
        have e689_ : S 1100023 (g35 1100023 (g35 1046 0)) = S 1100023 (S 1046 0) := congrArg ((S 1100023)) (la_unary_92 h661_)
        have e690_ : S 1100023 (g35 1100023 (g35 1046 0)) = S 1100023 (g35 1046 0) := congrArg ((S 1100023)) (la_unary_92 h661_)
        have e691_ : S 1100025 (g35 1100025 (g35 1046 0)) = S 1100025 (S 1046 0) := congrArg ((S 1100025)) (la_unary_92 h661_)
        have e692_ : S 1100025 (g35 1100025 (g35 1046 0)) = S 1100025 (g35 1046 0) := congrArg ((S 1100025)) (la_unary_92 h661_)
        exact ((la_unary_93 h661_)).elim
      refine ⟨(la_unary_115 h45_ h426_ h432_), ?_⟩
      intro g55
      rintro ⟨h693_, ⟨h694_, ⟨h695_, ⟨h696_, ⟨h697_, ⟨h698_, ⟨h699_, ⟨h700_, ⟨h701_, ⟨h702_, ⟨h703_, ⟨h704_, ⟨h705_, ⟨h706_, ⟨h707_, ⟨h708_, h709_⟩⟩⟩⟩⟩⟩⟩⟩⟩⟩⟩⟩⟩⟩⟩⟩
      refine ⟨(la_unary_23 h695_), ?_⟩
      refine ⟨h698_, ?_⟩
      refine ⟨h693_, ?_⟩
      refine ⟨h694_, ?_⟩
      refine ⟨h408_, ?_⟩
      refine ⟨h409_, ?_⟩
      refine ⟨(la_unary_41 h410_ h696_), ?_⟩
      refine ⟨(la_unary_40 h28_ h694_), ?_⟩
      refine ⟨(sm_F1_tr (sm_F1_le h412_ (Int.le_refl _)) h701_ h410_), ?_⟩
      refine ⟨(sm_F1_tr (sm_F1_le h413_ (Int.le_refl _)) h702_ h410_), ?_⟩
      refine ⟨(sm_F1_tr (sm_F1_le h414_ (Int.le_refl _)) h703_ h410_), ?_⟩
      refine ⟨(sm_F1_tr (sm_F1_le h415_ (Int.le_refl _)) h704_ h410_), ?_⟩
      refine ⟨(sm_F1_tr (sm_F1_le h416_ (Int.le_refl _)) h705_ (la_unary_43 h410_)), ?_⟩
      refine ⟨(sm_F1_tr (sm_F1_le h417_ (Int.le_refl _)) h706_ (la_unary_43 h410_)), ?_⟩
      refine ⟨(sm_F1_tr (sm_F1_le h418_ (Int.le_refl _)) h707_ (la_unary_43 h410_)), ?_⟩
      refine ⟨(sm_F1_tr (sm_F1_le h419_ (Int.le_refl _)) h708_ (la_unary_43 h410_)), ?_⟩
      refine ⟨h420_, ?_⟩
      refine ⟨h421_, ?_⟩
      refine ⟨h422_, ?_⟩
      refine ⟨h423_, ?_⟩
      refine ⟨h424_, ?_⟩
      refine ⟨h425_, ?_⟩
      refine ⟨h426_, ?_⟩
      refine ⟨h427_, ?_⟩
      refine ⟨h428_, ?_⟩
      refine ⟨h429_, ?_⟩
      refine ⟨h430_, ?_⟩
      intro h710_
      have h711_ : ¬ (g35 1047 0 = 1) := fun q_ => (la_unary_7 h710_) (h699_ q_)
      obtain ⟨h712_, ⟨h713_, ⟨h714_, ⟨h715_, ⟨h716_, ⟨h717_, ⟨h718_, ⟨h719_, ⟨h720_, ⟨h721_, ⟨h722_, ⟨h723_, ⟨h724_, h725_⟩⟩⟩⟩⟩⟩⟩⟩⟩⟩⟩⟩⟩ := (h709_ h710_)
      have h726_ := (h725_ la_unary_95)
      obtain ⟨h727_, ⟨h728_, ⟨h729_, ⟨h730_, ⟨h731_, ⟨h732_, ⟨h733_, ⟨h734_, ⟨h735_, ⟨h736_, ⟨h737_, ⟨h738_, ⟨h739_, ⟨h740_, ⟨h741_, ⟨h742_, -⟩⟩⟩⟩⟩⟩⟩⟩⟩⟩⟩⟩⟩⟩⟩⟩ := (h431_ h712_)
      have h743_ := (h726_ la_unary_97)
      refine ⟨h28_, ?_⟩
      refine ⟨h714_, ?_⟩
      refine ⟨h729_, ?_⟩
      refine ⟨h730_, ?_⟩
      refine ⟨(la_unary_98 h713_ h731_), ?_⟩
      refine ⟨(la_unary_99 h713_ h732_), ?_⟩
      refine ⟨(sm_FC_s (sm_FC_F h733_ (sm_F1_le h704_ (Int.le_refl _)) (Int.le_refl _) (Int.le_refl _) (Int.le_refl _) rfl) (sm_FC_1 h717_ (sm_FC_0 h697_))), ?_⟩
      refine ⟨(la_unary_100 h718_ (sm_dl_13 : sm_dl 13 p1 = 0) h734_), ?_⟩
      refine ⟨(la_unary_35 h719_ (sm_nt_13 : sm_nt 13 (g35 1046 0) (g35 1100023 (g35 1046 0)) (g35 1100023 (g35 1100023 (g35 1046 0))) = g35 1100023 (g35 1046 0)) h735_), ?_⟩
      refine ⟨(la_unary_35 h720_ (sm_nd_13 : sm_nd 13 (g35 1100024 (g35 1046 0)) = g35 1100024 (g35 1046 0)) h736_), ?_⟩
      refine ⟨(la_unary_35 h721_ (sm_nl_13 : sm_nl 13 (g35 1046 0) (g35 1100007 (g35 1046 0)) (g35 1100025 (g35 1046 0)) (g35 1100007 (g35 1100025 (g35 1046 0))) (g35 1100025 (g35 1100025 (g35 1046 0))) = g35 1100025 (g35 1046 0)) h737_), ?_⟩
      refine ⟨(la_unary_35 h722_ (sm_nt_13 : sm_nt 13 (g35 1100007 (g35 1046 0)) (g35 1100007 (g35 1100023 (g35 1046 0))) (g35 1100007 (g35 1100023 (g35 1100023 (g35 1046 0)))) = g35 1100007 (g35 1100023 (g35 1046 0))) h738_), ?_⟩
      refine ⟨(la_unary_101 h739_ h743_), ?_⟩
      refine ⟨h740_, ?_⟩
      refine ⟨(sm_HB_1 (by rw [((sm_F1_at h705_ (S 1046 0) (la_unary_68 h732_)).trans ((sm_F1_at h416_ (S 1046 0) la_unary_69).trans rfl))]; exact (la_unary_102 h48_ h713_ h732_)) (sm_HB_s (sm_HB_F h741_ (sm_F1_le h705_ la_unary_73) (Int.le_refl _) la_unary_73 (Int.le_refl _) (la_unary_103 h713_)) (sm_HB_1 (by rw [((sm_F1_at h705_ (g35 1046 0) la_unary_69).trans rfl)]; exact (la_unary_104 h48_ h713_ h732_ h734_)) (sm_HB_0 h697_)))), ?_⟩
      refine ⟨(la_unary_105 h713_ h742_), ?_⟩
      exact trivial
    intro h744_
    rintro ⟨h745_, h746_⟩
    refine ⟨?_, ?_⟩
    · skip
      intro h747_
      refine ⟨?_, ?_⟩
      · skip
        refine ⟨h4_, ?_⟩
        refine ⟨h5_, ?_⟩
        refine ⟨h6_, ?_⟩
        refine ⟨h7_, ?_⟩
        refine ⟨h8_, ?_⟩
        refine ⟨h9_, ?_⟩
        refine ⟨h10_, ?_⟩
        refine ⟨h11_, ?_⟩
        refine ⟨h12_, ?_⟩
        refine ⟨h13_, ?_⟩
        refine ⟨h14_, ?_⟩
        refine ⟨h15_, ?_⟩
        refine ⟨h16_, ?_⟩
        refine ⟨h17_, ?_⟩
        refine ⟨h18_, ?_⟩
        refine ⟨h19_, ?_⟩
        refine ⟨h20_, ?_⟩
        refine ⟨h23_, ?_⟩
        refine ⟨h24_, ?_⟩
        refine ⟨h25_, ?_⟩
        refine ⟨h27_, ?_⟩
        intro h748_
        refine ⟨h29_, ?_⟩
        refine ⟨h30_, ?_⟩
        refine ⟨h31_, ?_⟩
        refine ⟨h32_, ?_⟩
        refine ⟨h33_, ?_⟩
        refine ⟨h34_, ?_⟩
        refine ⟨h35_, ?_⟩
        exact h36_
      refine ⟨?_, ?_⟩
      · skip
        refine ⟨?_, ?_⟩
        · skip
          have e749_ : (if S 1047 0 = 0 then S 1100002 p2 + (600 - S 1046 0) + 8 else 4 : Int) = S 1100002 p2 + (600 - S 1046 0) + 8 := if_pos h28_
          exact (la_unary_4 h16_ h45_ e749_)
        have e750_ : (if S 1047 0 = 0 then S 1100002 p2 + (600 - S 1046 0) + 8 else 4 : Int) = S 1100002 p2 + (600 - S 1046 0) + 8 := if_pos h28_
        exact (la_unary_5 h37_ e750_)
      refine ⟨?_, ?_⟩
      · skip
        refine ⟨?_, ?_⟩
        · skip
          have e751_ : (if S 1047 0 = 0 then S 1100002 p2 + (600 - S 1046 0) + 8 else 4 : Int) = S 1100002 p2 + (600 - S 1046 0) + 8 := if_pos h28_
          exact (la_unary_4 h16_ h45_ e751_)
        have e752_ : (if S 1047 0 = 0 then S 1100002 p2 + (600 - S 1046 0) + 8 else 4 : Int) = S 1100002 p2 + (600 - S 1046 0) + 8 := if_pos h28_
        exact (la_unary_6 e752_)
      intro g64
      rintro ⟨h753_, ⟨h754_, ⟨h755_, ⟨h756_, ⟨h757_, ⟨h758_, ⟨h759_, ⟨h760_, ⟨h761_, ⟨h762_, ⟨h763_, ⟨h764_, ⟨h765_, ⟨h766_, ⟨h767_, ⟨h768_, ⟨h769_, ⟨h770_, ⟨h771_, ⟨h772_, ⟨h773_, ⟨h774_, ⟨h775_, ⟨h776_, ⟨h777_, ⟨h778_, ⟨h779_, h780_⟩⟩⟩⟩⟩⟩⟩⟩⟩⟩⟩⟩⟩⟩⟩⟩⟩⟩⟩⟩⟩⟩⟩⟩⟩⟩⟩
      have h781_ := (h779_ h28_)
      refine ⟨?_, ?_⟩
      · skip
        intro h782_
        refine ⟨?_, ?_⟩
        · skip
          refine ⟨h753_, ?_⟩
          refine ⟨h754_, ?_⟩
          refine ⟨h755_, ?_⟩
          refine ⟨h756_, ?_⟩
          intro h783_
          obtain ⟨h784_, ⟨h785_, ⟨h786_, ⟨h787_, ⟨h788_, ⟨h789_, ⟨h790_, ⟨h791_, ⟨h792_, ⟨h793_, ⟨h794_, ⟨h795_, ⟨h796_, ⟨h797_, ⟨h798_, ⟨h799_, -⟩⟩⟩⟩⟩⟩⟩⟩⟩⟩⟩⟩⟩⟩⟩⟩ := (h780_ h783_)
          refine ⟨h785_, ?_⟩
          refine ⟨la_unary_10, ?_⟩
          refine ⟨la_unary_11, ?_⟩
          refine ⟨(sm_ci_17 (la_unary_12 (sm_KC_n h29_).2.1.1 h33_ h34_ h791_ h792_ h794_ h795_ h796_ (sm_dl_17 : sm_dl 17 0 = (-1)) (sm_nt_17 : sm_nt 17 (g64 1046 0) (g64 1100023 (g64 1046 0)) (g64 1100023 (g64 1100023 (g64 1046 0))) = g64 1100023 (g64 1046 0)) (sm_nl_17b : (0 ≤ g64 1100025 (g64 1046 0) → g64 1100007 (g64 1100025 (g64 1046 0)) < g64 1100007 (g64 1046 0)) → sm_nl 17 (g64 1046 0) (g64 1100007 (g64 1046 0)) (g64 1100025 (g64 1046 0)) (g64 1100007 (g64 1100025 (g64 1046 0))) (g64 1100025 (g64 1100025 (g64 1046 0))) = g64 1100025 (g64 1046 0)))), ?_⟩
          refine ⟨la_unary_13, ?_⟩
          intro h800_
          have h801_ := (h800_.resolve_left la_unary_14)
          have h802_ := (h33_ (la_unary_16 h801_))
          have h803_ := (h34_ (la_unary_16 h801_))
          have h804_ := ((sm_nl_17b : (0 ≤ g64 1100025 (g64 1046 0) → g64 1100007 (g64 1100025 (g64 1046 0)) < g64 1100007 (g64 1046 0)) → sm_nl 17 (g64 1046 0) (g64 1100007 (g64 1046 0)) (g64 1100025 (g64 1046 0)) (g64 1100007 (g64 1100025 (g64 1046 0))) (g64 1100025 (g64 1100025 (g64 1046 0))) = g64 1100025 (g64 1046 0)) (la_unary_19 h801_))
          have e805_ : S 1100007 (S 1100023 (S 1046 0)) = S 1100007 (S 1046 0) := congrArg ((S 1100007)) (la_unary_20 h801_)
          have e806_ : S 1100007 (S 1100025 (S 1046 0)) = S 1100007 (S 1046 0) := congrArg ((S 1100007)) (la_unary_20 h801_)
          have e807_ : S 1100007 (S 1100025 (S 1046 0)) = S 1100007 (S 1100023 (S 1046 0)) := congrArg ((S 1100007)) (la_unary_20 h801_)
          have e808_ : S 1100007 (g64 1046 0) = S 1100007 (S 1046 0) := congrArg ((S 1100007)) (la_unary_20 h801_)
          have e809_ : S 1100007 (g64 1046 0) = S 1100007 (S 1100023 (S 1046 0)) := congrArg ((S 1100007)) (la_unary_20 h801_)
          have e810_ : S 1100007 (g64 1046 0) = S 1100007 (S 1100025 (S 1046 0)) := congrArg ((S 1100007)) (la_unary_20 h801_)
          have e811_ : S 1100007 (g64 1100023 (g64 1046 0)) = S 1100007 (S 1046 0) := congrArg ((S 1100007)) (la_unary_20 h801_)
          have e812_ : S 1100007 (g64 1100023 (g64 1046 0)) = S 1100007 (S 1100023 (S 1046 0)) := congrArg ((S 1100007)) h792_
          have e813_ : S 1100007 (g64 1100023 (g64 1046 0)) = S 1100007 (S 1100025 (S 1046 0)) := congrArg ((S 1100007)) (la_unary_20 h801_)
          have e814_ : S 1100007 (g64 1100023 (g64 1046 0)) = S 1100007 (g64 1046 0) := congrArg ((S 1100007)) (la_unary_20 h801_)
          have e815_ : S 1100007 (g64 1100025 (g64 1046 0)) = S 1100007 (S 1046 0) := congrArg ((S 1100007)) (la_unary_20 h801_)
          have e816_ : S 1100007 (g64 1100025 (g64 1046 0)) = S 1100007 (S 1100023 (S 1046 0)) := congrArg ((S 1100007)) (la_unary_20 h801_)
          have e817_ : S 1100007 (g64 1100025 (g64 1046 0)) = S 1100007 (S 1100025 (S 1046 0)) := congrArg ((S 1100007)) h794_
          have e818_ : S 1100007 (g64 1100025 (g64 1046 0)) = S 1100007 (g64 1046 0) := congrArg ((S 1100007)) (la_unary_20 h801_)
          have e819_ : S 1100007 (g64 1100025 (g64 1046 0)) = S 1100007 (g64 1100023 (g64 1046 0)) := congrArg ((S 1100007)) (la_unary_20 h801_)
          have e820_ : S 1100023 (g64 1046 0) = S 1100023 (S 1046 0) := congrArg ((S 1100023)) (la_unary_20 h801_)
          have e821_ : S 1100024 (g64 1046 0) = S 1100024 (S 1046 0) := congrArg ((S 1100024)) (la_unary_20 h801_)
          have e822_ : S 1100025 (g64 1046 0) = S 1100025 (S 1046 0) := congrArg ((S 1100025)) (la_unary_20 h801_)
          have e823_ : g64 1100007 (g64 1100023 (g64 1046 0)) = g64 1100007 (g64 1046 0) := congrArg ((g64 1100007)) (la_unary_20 h801_)
          have e824_ : g64 1100007 (g64 1100025 (g64 1046 0)) = g64 1100007 (g64 1046 0) := congrArg ((g64 1100007)) (la_unary_20 h801_)
          have e825_ : g64 1100007 (g64 1100025 (g64 1046 0)) = g64 1100007 (g64 1100023 (g64 1046 0)) := congrArg ((g64 1100007)) (la_unary_20 h801_)
          have e826_ : g64 1100023 (g64 1100023 (g64 1046 0)) = g64 1100023 (g64 1046 0) := congrArg ((g64 1100023)) (la_unary_20 h801_)
          have e827_ : g64 1100025 (g64 1100025 (g64 1046 0)) = g64 1100025 (g64 1046 0) := congrArg ((g64 1100025)) (la_unary_20 h801_)
          have e828_ : S 1100023 (g64 1100023 (g64 1046 0)) = S 1100023 (S 1046 0) := congrArg ((S 1100023)) (la_unary_20 h801_)
          have e829_ : S 1100023 (g64 1100023 (g64 1046 0)) = S 1100023 (g64 1046 0) := congrArg ((S 1100023)) (la_unary_20 h801_)
          have e830_ : S 1100025 (g64 1100025 (g64 1046 0)) = S 1100025 (S 1046 0) := congrArg ((S 1100025)) (la_unary_20 h801_)
          have e831_ : S 1100025 (g64 1100025 (g64 1046 0)) = S 1100025 (g64 1046 0) := congrArg ((S 1100025)) (la_unary_20 h801_)
          exact ((la_unary_21 h801_)).elim
        refine ⟨(la_unary_22 h16_ h45_), ?_⟩
        intro g71
        rintro ⟨h832_, ⟨h833_, ⟨h834_, ⟨h835_, ⟨h836_, ⟨h837_, ⟨h838_, ⟨h839_, ⟨h840_, ⟨h841_, ⟨h842_, ⟨h843_, ⟨h844_, ⟨h845_, ⟨h846_, ⟨h847_, h848_⟩⟩⟩⟩⟩⟩⟩⟩⟩⟩⟩⟩⟩⟩⟩⟩
        refine ⟨?_, ?_⟩
        · skip
          refine ⟨(la_unary_23 h834_), ?_⟩
          refine ⟨h837_, ?_⟩
          refine ⟨h832_, ?_⟩
          refine ⟨h833_, ?_⟩
          intro h849_
          have h850_ : ¬ (g64 1047 0 = 1) := fun q_ => (la_unary_7 h849_) (h838_ q_)
          obtain ⟨h851_, ⟨h852_, ⟨h853_, ⟨h854_, ⟨h855_, ⟨h856_, ⟨h857_, ⟨h858_, ⟨h859_, ⟨h860_, ⟨h861_, ⟨h862_, ⟨h863_, h864_⟩⟩⟩⟩⟩⟩⟩⟩⟩⟩⟩⟩⟩ := (h848_ h849_)
          have h865_ := (h863_ la_unary_26)
          have h866_ := (h864_ la_unary_25)
          obtain ⟨h867_, ⟨h868_, ⟨h869_, ⟨h870_, ⟨h871_, ⟨h872_, ⟨h873_, ⟨h874_, ⟨h875_, ⟨h876_, ⟨h877_, ⟨h878_, ⟨h879_, ⟨h880_, ⟨h881_, ⟨h882_, -⟩⟩⟩⟩⟩⟩⟩⟩⟩⟩⟩⟩⟩⟩⟩⟩ := (h780_ h851_)
          refine ⟨h853_, ?_⟩
          refine ⟨la_unary_27, ?_⟩
          refine ⟨la_unary_28, ?_⟩
          refine ⟨la_unary_29, ?_⟩
          refine ⟨(la_unary_30 h33_ h857_ (sm_dl_17 : sm_dl 17 0 = (-1)) h858_ (sm_nt_17 : sm_nt 17 (g64 1046 0) (g64 1100023 (g64 1046 0)) (g64 1100023 (g64 1100023 (g64 1046 0))) = g64 1100023 (g64 1046 0)) h861_ (sm_nt_17 : sm_nt 17 (g64 1100007 (g64 1046 0)) (g64 1100007 (g64 1100023 (g64 1046 0))) (g64 1100007 (g64 1100023 (g64 1100023 (g64 1046 0)))) = g64 1100007 (g64 1100023 (g64 1046 0))) h874_ h875_ h878_), ?_⟩
          intro h883_
          have e884_ : S 1100007 (g64 1100023 (g64 1046 0)) = S 1100007 (S 1100023 (S 1046 0)) := congrArg ((S 1100007)) h875_
          have e885_ : S 1100007 (g64 1100025 (g64 1046 0)) = S 1100007 (S 1100025 (S 1046 0)) := congrArg ((S 1100007)) h877_
          have e886_ : S 1100007 (g71 1100023 (g71 1046 0)) = S 1100007 (S 1100023 (S 1046 0)) := congrArg ((S 1100007)) (la_unary_35 h858_ (sm_nt_17 : sm_nt 17 (g64 1046 0) (g64 1100023 (g64 1046 0)) (g64 1100023 (g64 1100023 (g64 1046 0))) = g64 1100023 (g64 1046 0)) h875_)
          have e887_ : S 1100007 (g71 1100023 (g71 1046 0)) = S 1100007 (g64 1100023 (g64 1046 0)) := congrArg ((S 1100007)) (la_unary_61 h858_ (sm_nt_17 : sm_nt 17 (g64 1046 0) (g64 1100023 (g64 1046 0)) (g64 1100023 (g64 1100023 (g64 1046 0))) = g64 1100023 (g64 1046 0)))
          have e888_ : g64 1100007 (g71 1100023 (g71 1046 0)) = g64 1100007 (g64 1100023 (g64 1046 0)) := congrArg ((g64 1100007)) (la_unary_61 h858_ (sm_nt_17 : sm_nt 17 (g64 1046 0) (g64 1100023 (g64 1046 0)) (g64 1100023 (g64 1100023 (g64 1046 0))) = g64 1100023 (g64 1046 0)))
          have e889_ : g64 1100007 (g71 1100025 (g71 1046 0)) = g64 1100007 (g64 1100025 (g64 1046 0)) := congrArg ((g64 1100007)) (la_unary_108 h34_ h860_ (sm_nl_17b : (0 ≤ g64 1100025 (g64 1046 0) → g64 1100007 (g64 1100025 (g64 1046 0)) < g64 1100007 (g64 1046 0)) → sm_nl 17 (g64 1046 0) (g64 1100007 (g64 1046 0)) (g64 1100025 (g64 1046 0)) (g64 1100007 (g64 1100025 (g64 1046 0))) (g64 1100025 (g64 1100025 (g64 1046 0))) = g64 1100025 (g64 1046 0)) h874_ h877_ h879_ h883_)
          exact (la_unary_109 h34_ h857_ (sm_dl_17 : sm_dl 17 0 = (-1)) h860_ (sm_nl_17b : (0 ≤ g64 1100025 (g64 1046 0) → g64 1100007 (g64 1100025 (g64 1046 0)) < g64 1100007 (g64 1046 0)) → sm_nl 17 (g64 1046 0) (g64 1100007 (g64 1046 0)) (g64 1100025 (g64 1046 0)) (g64 1100007 (g64 1100025 (g64 1046 0))) (g64 1100025 (g64 1100025 (g64 1046 0))) = g64 1100025 (g64 1046 0)) h874_ h877_ h879_ h883_ (sm_F1_at h844_ (g71 1100025 (g71 1046 0)) (la_unary_32 h836_ (sm_KC_n h853_).2.1.2.2.2.2.2.2.2)) e889_)
        intro g77
        rintro ⟨h890_, ⟨h891_, ⟨h892_, ⟨h893_, ⟨h894_, ⟨h895_, ⟨h896_, ⟨h897_, ⟨h898_, ⟨h899_, ⟨h900_, ⟨h901_, ⟨h902_, ⟨h903_, ⟨h904_, ⟨h905_, h906_⟩⟩⟩⟩⟩⟩⟩⟩⟩⟩⟩⟩⟩⟩⟩⟩
        refine ⟨(la_unary_23 h892_), ?_⟩
        refine ⟨h895_, ?_⟩
        refine ⟨h890_, ?_⟩
        refine ⟨h891_, ?_⟩
        refine ⟨h757_, ?_⟩
        refine ⟨h758_, ?_⟩
        refine ⟨(la_unary_39 h759_ h835_ h893_), ?_⟩
        refine ⟨(la_unary_40 h28_ h891_), ?_⟩
        refine ⟨(sm_F1_tr (sm_F1_tr (sm_F1_le h761_ (Int.le_refl _)) h840_ h759_) h898_ (la_unary_41 h759_ h835_)), ?_⟩
        refine ⟨(sm_F1_tr (sm_F1_tr (sm_F1_le h762_ (Int.le_refl _)) h841_ h759_) h899_ (la_unary_41 h759_ h835_)), ?_⟩
        refine ⟨(sm_F1_tr (sm_F1_tr (sm_F1_le h763_ (Int.le_refl _)) h842_ h759_) h900_ (la_unary_41 h759_ h835_)), ?_⟩
        refine ⟨(sm_F1_tr (sm_F1_tr (sm_F1_le h764_ (Int.le_refl _)) h843_ h759_) h901_ (la_unary_41 h759_ h835_)), ?_⟩
        refine ⟨(sm_F1_tr (sm_F1_tr (sm_F1_le h765_ (Int.le_refl _)) h844_ (la_unary_43 h759_)) h902_ (la_unary_42 h759_ h835_)), ?_⟩
        refine ⟨(sm_F1_tr (sm_F1_tr (sm_F1_le h766_ (Int.le_refl _)) h845_ (la_unary_43 h759_)) h903_ (la_unary_42 h759_ h835_)), ?_⟩
        refine ⟨(sm_F1_tr (sm_F1_tr (sm_F1_le h767_ (Int.le_refl _)) h846_ (la_unary_43 h759_)) h904_ (la_unary_42 h759_ h835_)), ?_⟩
        refine ⟨(sm_F1_tr (sm_F1_tr (sm_F1_le h768_ (Int.le_refl _)) h847_ (la_unary_43 h759_)) h905_ (la_unary_42 h759_ h835_)), ?_⟩
        refine ⟨h769_, ?_⟩
        refine ⟨h770_, ?_⟩
        refine ⟨h771_, ?_⟩
        refine ⟨h772_, ?_⟩
        refine ⟨h773_, ?_⟩
        refine ⟨h774_, ?_⟩
        refine ⟨h775_, ?_⟩
        refine ⟨h776_, ?_⟩
        refine ⟨h777_, ?_⟩
        refine ⟨h778_, ?_⟩
        refine ⟨h779_, ?_⟩
        intro h907_
        have h908_ : ¬ (g71 1047 0 = 1) := fun q_ => (la_unary_7 h907_) (h896_ q_)
        obtain ⟨h909_, ⟨h910_, ⟨h911_, ⟨h912_, ⟨h913_, ⟨h914_, ⟨h915_, ⟨h916_, ⟨h917_, ⟨h918_, ⟨h919_, ⟨h920_, ⟨h921_, h922_⟩⟩⟩⟩⟩⟩⟩⟩⟩⟩⟩⟩⟩ := (h906_ h907_)
        have h923_ : ¬ (g64 1047 0 = 1) := fun q_ => h908_ (h838_ q_)
        have h924_ := (h922_ la_unary_44)
        obtain ⟨h925_, ⟨h926_, ⟨h927_, ⟨h928_, ⟨h929_, ⟨h930_, ⟨h931_, ⟨h932_, ⟨h933_, ⟨h934_, ⟨h935_, ⟨h936_, ⟨h937_, h938_⟩⟩⟩⟩⟩⟩⟩⟩⟩⟩⟩⟩⟩ := (h848_ h909_)
        have h939_ := (h924_ la_unary_46)
        have h940_ := (h937_ la_unary_26)
        have h941_ := (h938_ la_unary_25)
        obtain ⟨h942_, ⟨h943_, ⟨h944_, ⟨h945_, ⟨h946_, ⟨h947_, ⟨h948_, ⟨h949_, ⟨h950_, ⟨h951_, ⟨h952_, ⟨h953_, ⟨h954_, ⟨h955_, ⟨h956_, ⟨h957_, -⟩⟩⟩⟩⟩⟩⟩⟩⟩⟩⟩⟩⟩⟩⟩⟩ := (h780_ h925_)
        refine ⟨h28_, ?_⟩
        refine ⟨h911_, ?_⟩
        refine ⟨h944_, ?_⟩
        refine ⟨h945_, ?_⟩
        refine ⟨(la_unary_47 h910_ h926_ h946_), ?_⟩
        refine ⟨(la_unary_48 h910_ h926_ h947_), ?_⟩
        refine ⟨(sm_FC_s (sm_FC_F h948_ (sm_F1_tr (sm_F1_le h843_ (Int.le_refl _)) h901_ h835_) (Int.le_refl _) (Int.le_refl _) (Int.le_refl _) rfl) (sm_FC_1 (((sm_F1_at h901_ (g64 1046 0) (la_unary_51 h926_)).trans rfl).trans h930_) (sm_FC_1 (((congrArg (g77 29) (la_unary_52 h836_ h926_)).trans h914_).trans rfl) (sm_FC_0 (la_unary_53 h836_ h894_))))), ?_⟩
        refine ⟨(la_unary_54 h915_ (sm_dl_0 : sm_dl 0 0 = 1) h931_ (sm_dl_17 : sm_dl 17 0 = (-1)) h949_), ?_⟩
        refine ⟨(la_unary_55 h916_ (sm_nt_0 : sm_nt 0 (g71 1046 0) (g71 1100023 (g71 1046 0)) (g71 1100023 (g71 1100023 (g71 1046 0))) = g71 1100023 (g71 1046 0)) h932_ (sm_nt_17 : sm_nt 17 (g64 1046 0) (g64 1100023 (g64 1046 0)) (g64 1100023 (g64 1100023 (g64 1046 0))) = g64 1100023 (g64 1046 0)) h950_), ?_⟩
        refine ⟨(la_unary_55 h917_ (sm_nd_0 : sm_nd 0 (g71 1100024 (g71 1046 0)) = g71 1100024 (g71 1046 0)) h933_ (sm_nd_17 : sm_nd 17 (g64 1100024 (g64 1046 0)) = g64 1100024 (g64 1046 0)) h951_), ?_⟩
        refine ⟨?_, ?_⟩
        · skip
          have e958_ : S 1100007 (g64 1100023 (g64 1046 0)) = S 1100007 (S 1100023 (S 1046 0)) := congrArg ((S 1100007)) h950_
          have e959_ : S 1100007 (g64 1100025 (g64 1046 0)) = S 1100007 (S 1100025 (S 1046 0)) := congrArg ((S 1100007)) h952_
          have e960_ : S 1100007 (g71 1100023 (g71 1046 0)) = S 1100007 (S 1100023 (S 1046 0)) := congrArg ((S 1100007)) (la_unary_35 h932_ (sm_nt_17 : sm_nt 17 (g64 1046 0) (g64 1100023 (g64 1046 0)) (g64 1100023 (g64 1100023 (g64 1046 0))) = g64 1100023 (g64 1046 0)) h950_)
          have e961_ : S 1100007 (g71 1100023 (g71 1046 0)) = S 1100007 (g64 1100023 (g64 1046 0)) := congrArg ((S 1100007)) (la_unary_61 h932_ (sm_nt_17 : sm_nt 17 (g64 1046 0) (g64 1100023 (g64 1046 0)) (g64 1100023 (g64 1100023 (g64 1046 0))) = g64 1100023 (g64 1046 0)))
          have e962_ : S 1100007 (g77 1100023 (g77 1046 0)) = S 1100007 (S 1100023 (S 1046 0)) := congrArg ((S 1100007)) (la_unary_55 h916_ (sm_nt_0 : sm_nt 0 (g71 1046 0) (g71 1100023 (g71 1046 0)) (g71 1100023 (g71 1100023 (g71 1046 0))) = g71 1100023 (g71 1046 0)) h932_ (sm_nt_17 : sm_nt 17 (g64 1046 0) (g64 1100023 (g64 1046 0)) (g64 1100023 (g64 1100023 (g64 1046 0))) = g64 1100023 (g64 1046 0)) h950_)
          have e963_ : S 1100007 (g77 1100023 (g77 1046 0)) = S 1100007 (g64 1100023 (g64 1046 0)) := congrArg ((S 1100007)) (la_unary_110 h916_ (sm_nt_0 : sm_nt 0 (g71 1046 0) (g71 1100023 (g71 1046 0)) (g71 1100023 (g71 1100023 (g71 1046 0))) = g71 1100023 (g71 1046 0)) h932_ (sm_nt_17 : sm_nt 17 (g64 1046 0) (g64 1100023 (g64 1046 0)) (g64 1100023 (g64 1100023 (g64 1046 0))) = g64 1100023 (g64 1046 0)))
          have e964_ : S 1100007 (g77 1100023 (g77 1046 0)) = S 1100007 (g71 1100023 (g71 1046 0)) := congrArg ((S 1100007)) (la_unary_61 h916_ (sm_nt_0 : sm_nt 0 (g71 1046 0) (g71 1100023 (g71 1046 0)) (g71 1100023 (g71 1100023 (g71 1046 0))) = g71 1100023 (g71 1046 0)))
          have e965_ : g64 1100007 (g71 1100023 (g71 1046 0)) = g64 1100007 (g64 1100023 (g64 1046 0)) := congrArg ((g64 1100007)) (la_unary_61 h932_ (sm_nt_17 : sm_nt 17 (g64 1046 0) (g64 1100023 (g64 1046 0)) (g64 1100023 (g64 1100023 (g64 1046 0))) = g64 1100023 (g64 1046 0)))
          have e966_ : g64 1100007 (g71 1100025 (g71 1046 0)) = g64 1100007 (g64 1100025 (g64 1046 0)) := congrArg ((g64 1100007)) (la_unary_111 h34_ (sm_KC_n h927_).2.1.2.2.2.2.2.2.1 h934_ (sm_nl_17b : (0 ≤ g64 1100025 (g64 1046 0) → g64 1100007 (g64 1100025 (g64 1046 0)) < g64 1100007 (g64 1046 0)) → sm_nl 17 (g64 1046 0) (g64 1100007 (g64 1046 0)) (g64 1100025 (g64 1046 0)) (g64 1100007 (g64 1100025 (g64 1046 0))) (g64 1100025 (g64 1100025 (g64 1046 0))) = g64 1100025 (g64 1046 0)) h949_ h952_ h954_)
          have e967_ : g64 1100007 (g77 1100023 (g77 1046 0)) = g64 1100007 (g64 1100023 (g64 1046 0)) := congrArg ((g64 1100007)) (la_unary_110 h916_ (sm_nt_0 : sm_nt 0 (g71 1046 0) (g71 1100023 (g71 1046 0)) (g71 1100023 (g71 1100023 (g71 1046 0))) = g71 1100023 (g71 1046 0)) h932_ (sm_nt_17 : sm_nt 17 (g64 1046 0) (g64 1100023 (g64 1046 0)) (g64 1100023 (g64 1100023 (g64 1046 0))) = g64 1100023 (g64 1046 0)))
          have e968_ : g64 1100007 (g77 1100023 (g77 1046 0)) = g64 1100007 (g71 1100023 (g71 1046 0)) := congrArg ((g64 1100007)) (la_unary_61 h916_ (sm_nt_0 : sm_nt 0 (g71 1046 0) (g71 1100023 (g71 1046 0)) (g71 1100023 (g71 1100023 (g71 1046 0))) = g71 1100023 (g71 1046 0)))
          have e969_ : g64 1100007 (g77 1100025 (g77 1046 0)) = g64 1100007 (g64 1100025 (g64 1046 0)) := congrArg ((g64 1100007)) (la_unary_112 h34_ (sm_KC_n h911_).2.1.2.2.2.2.2.2.1 h918_ (sm_nl_0 : sm_nl 0 (g71 1046 0) (g71 1100007 (g71 1046 0)) (g71 1100025 (g71 1046 0)) (g71 1100007 (g71 1100025 (g71 1046 0))) (g71 1100025 (g71 1100025 (g71 1046 0))) = g71 1100025 (g71 1046 0)) h934_ (sm_nl_17b : (0 ≤ g64 1100025 (g64 1046 0) → g64 1100007 (g64 1100025 (g64 1046 0)) < g64 1100007 (g64 1046 0)) → sm_nl 17 (g64 1046 0) (g64 1100007 (g64 1046 0)) (g64 1100025 (g64 1046 0)) (g64 1100007 (g64 1100025 (g64 1046 0))) (g64 1100025 (g64 1100025 (g64 1046 0))) = g64 1100025 (g64 1046 0)) h949_ h952_ h954_)
          have e970_ : g64 1100007 (g77 1100025 (g77 1046 0)) = g64 1100007 (g71 1100025 (g71 1046 0)) := congrArg ((g64 1100007)) (la_unary_61 h918_ (sm_nl_0 : sm_nl 0 (g71 1046 0) (g71 1100007 (g71 1046 0)) (g71 1100025 (g71 1046 0)) (g71 1100007 (g71 1100025 (g71 1046 0))) (g71 1100025 (g71 1100025 (g71 1046 0))) = g71 1100025 (g71 1046 0)))
          have e971_ : g64 1100025 (g71 1100025 (g71 1046 0)) = g64 1100025 (g64 1100025 (g64 1046 0)) := congrArg ((g64 1100025)) (la_unary_111 h34_ (sm_KC_n h927_).2.1.2.2.2.2.2.2.1 h934_ (sm_nl_17b : (0 ≤ g64 1100025 (g64 1046 0) → g64 1100007 (g64 1100025 (g64 1046 0)) < g64 1100007 (g64 1046 0)) → sm_nl 17 (g64 1046 0) (g64 1100007 (g64 1046 0)) (g64 1100025 (g64 1046 0)) (g64 1100007 (g64 1100025 (g64 1046 0))) (g64 1100025 (g64 1100025 (g64 1046 0))) = g64 1100025 (g64 1046 0)) h949_ h952_ h954_)
          have e972_ : g71 1100007 (g77 1100023 (g77 1046 0)) = g71 1100007 (g71 1100023 (g71 1046 0)) := congrArg ((g71 1100007)) (la_unary_61 h916_ (sm_nt_0 : sm_nt 0 (g71 1046 0) (g71 1100023 (g71 1046 0)) (g71 1100023 (g71 1100023 (g71 1046 0))) = g71 1100023 (g71 1046 0)))
          have e973_ : g71 1100007 (g77 1100025 (g77 1046 0)) = g71 1100007 (g71 1100025 (g71 1046 0)) := congrArg ((g71 1100007)) (la_unary_61 h918_ (sm_nl_0 : sm_nl 0 (g71 1046 0) (g71 1100007 (g71 1046 0)) (g71 1100025 (g71 1046 0)) (g71 1100007 (g71 1100025 (g71 1046 0))) (g71 1100025 (g71 1100025 (g71 1046 0))) = g71 1100025 (g71 1046 0)))
          exact (la_unary_65 h34_ (sm_KC_n h911_).2.1.2.2.2.2.2.2.1 h918_ (sm_nl_0 : sm_nl 0 (g71 1046 0) (g71 1100007 (g71 1046 0)) (g71 1100025 (g71 1046 0)) (g71 1100007 (g71 1100025 (g71 1046 0))) (g71 1100025 (g71 1100025 (g71 1046 0))) = g71 1100025 (g71 1046 0)) h934_ (sm_nl_17b : (0 ≤ g64 1100025 (g64 1046 0) → g64 1100007 (g64 1100025 (g64 1046 0)) < g64 1100007 (g64 1046 0)) → sm_nl 17 (g64 1046 0) (g64 1100007 (g64 1046 0)) (g64 1100025 (g64 1046 0)) (g64 1100007 (g64 1100025 (g64 1046 0))) (g64 1100025 (g64 1100025 (g64 1046 0))) = g64 1100025 (g64 1046 0)) h949_ h952_ h954_)
        refine ⟨(la_unary_55 h919_ (sm_nt_0 : sm_nt 0 (g71 1100007 (g71 1046 0)) (g71 1100007 (g71 1100023 (g71 1046 0))) (g71 1100007 (g71 1100023 (g71 1100023 (g71 1046 0)))) = g71 1100007 (g71 1100023 (g71 1046 0))) h935_ (sm_nt_17 : sm_nt 17 (g64 1100007 (g64 1046 0)) (g64 1100007 (g64 1100023 (g64 1046 0))) (g64 1100007 (g64 1100023 (g64 1100023 (g64 1046 0)))) = g64 1100007 (g64 1100023 (g64 1046 0))) h953_), ?_⟩
        refine ⟨?_, ?_⟩
        · skip
          have e974_ : S 1100007 (g64 1100023 (g64 1046 0)) = S 1100007 (S 1100023 (S 1046 0)) := congrArg ((S 1100007)) h950_
          have e975_ : S 1100007 (g64 1100025 (g64 1046 0)) = S 1100007 (S 1100025 (S 1046 0)) := congrArg ((S 1100007)) h952_
          have e976_ : S 1100007 (g71 1100023 (g71 1046 0)) = S 1100007 (S 1100023 (S 1046 0)) := congrArg ((S 1100007)) (la_unary_35 h932_ (sm_nt_17 : sm_nt 17 (g64 1046 0) (g64 1100023 (g64 1046 0)) (g64 1100023 (g64 1100023 (g64 1046 0))) = g64 1100023 (g64 1046 0)) h950_)
          have e977_ : S 1100007 (g71 1100023 (g71 1046 0)) = S 1100007 (g64 1100023 (g64 1046 0)) := congrArg ((S 1100007)) (la_unary_61 h932_ (sm_nt_17 : sm_nt 17 (g64 1046 0) (g64 1100023 (g64 1046 0)) (g64 1100023 (g64 1100023 (g64 1046 0))) = g64 1100023 (g64 1046 0)))
          have e978_ : S 1100007 (g77 1100023 (g77 1046 0)) = S 1100007 (S 1100023 (S 1046 0)) := congrArg ((S 1100007)) (la_unary_55 h916_ (sm_nt_0 : sm_nt 0 (g71 1046 0) (g71 1100023 (g71 1046 0)) (g71 1100023 (g71 1100023 (g71 1046 0))) = g71 1100023 (g71 1046 0)) h932_ (sm_nt_17 : sm_nt 17 (g64 1046 0) (g64 1100023 (g64 1046 0)) (g64 1100023 (g64 1100023 (g64 1046 0))) = g64 1100023 (g64 1046 0)) h950_)
          have e979_ : S 1100007 (g77 1100023 (g77 1046 0)) = S 1100007 (g64 1100023 (g64 1046 0)) := congrArg ((S 1100007)) (la_unary_110 h916_ (sm_nt_0 : sm_nt 0 (g71 1046 0) (g71 1100023 (g71 1046 0)) (g71 1100023 (g71 1100023 (g71 1046 0))) = g71 1100023 (g71 1046 0)) h932_ (sm_nt_17 : sm_nt 17 (g64 1046 0) (g64 1100023 (g64 1046 0)) (g64 1100023 (g64 1100023 (g64 1046 0))) = g64 1100023 (g64 1046 0)))
          have e980_ : S 1100007 (g77 1100023 (g77 1046 0)) = S 1100007 (g71 1100023 (g71 1046 0)) := congrArg ((S 1100007)) (la_unary_61 h916_ (sm_nt_0 : sm_nt 0 (g71 1046 0) (g71 1100023 (g71 1046 0)) (g71 1100023 (g71 1100023 (g71 1046 0))) = g71 1100023 (g71 1046 0)))
          have e981_ : g64 1100007 (g71 1100023 (g71 1046 0)) = g64 1100007 (g64 1100023 (g64 1046 0)) := congrArg ((g64 1100007)) (la_unary_61 h932_ (sm_nt_17 : sm_nt 17 (g64 1046 0) (g64 1100023 (g64 1046 0)) (g64 1100023 (g64 1100023 (g64 1046 0))) = g64 1100023 (g64 1046 0)))
          have e982_ : g64 1100007 (g71 1100025 (g71 1046 0)) = g64 1100007 (g64 1100025 (g64 1046 0)) := congrArg ((g64 1100007)) (la_unary_111 h34_ (sm_KC_n h927_).2.1.2.2.2.2.2.2.1 h934_ (sm_nl_17b : (0 ≤ g64 1100025 (g64 1046 0) → g64 1100007 (g64 1100025 (g64 1046 0)) < g64 1100007 (g64 1046 0)) → sm_nl 17 (g64 1046 0) (g64 1100007 (g64 1046 0)) (g64 1100025 (g64 1046 0)) (g64 1100007 (g64 1100025 (g64 1046 0))) (g64 1100025 (g64 1100025 (g64 1046 0))) = g64 1100025 (g64 1046 0)) h949_ h952_ h954_)
          have e983_ : g64 1100007 (g77 1100023 (g77 1046 0)) = g64 1100007 (g64 1100023 (g64 1046 0)) := congrArg ((g64 1100007)) (la_unary_110 h916_ (sm_nt_0 : sm_nt 0 (g71 1046 0) (g71 1100023 (g71 1046 0)) (g71 1100023 (g71 1100023 (g71 1046 0))) = g71 1100023 (g71 1046 0)) h932_ (sm_nt_17 : sm_nt 17 (g64 1046 0) (g64 1100023 (g64 1046 0)) (g64 1100023 (g64 1100023 (g64 1046 0))) = g64 1100023 (g64 1046 0)))
          have e984_ : g64 1100007 (g77 1100023 (g77 1046 0)) = g64 1100007 (g71 1100023 (g71 1046 0)) := congrArg ((g64 1100007)) (la_unary_61 h916_ (sm_nt_0 : sm_nt 0 (g71 1046 0) (g71 1100023 (g71 1046 0)) (g71 1100023 (g71 1100023 (g71 1046 0))) = g71 1100023 (g71 1046 0)))
          have e985_ : g64 1100007 (g77 1100025 (g77 1046 0)) = g64 1100007 (g64 1100025 (g64 1046 0)) := congrArg ((g64 1100007)) (la_unary_112 h34_ (sm_KC_n h911_).2.1.2.2.2.2.2.2.1 h918_ (sm_nl_0 : sm_nl 0 (g71 1046 0) (g71 1100007 (g71 1046 0)) (g71 1100025 (g71 1046 0)) (g71 1100007 (g71 1100025 (g71 1046 0))) (g71 1100025 (g71 1100025 (g71 1046 0))) = g71 1100025 (g71 1046 0)) h934_ (sm_nl_17b : (0 ≤ g64 1100025 (g64 1046 0) → g64 1100007 (g64 1100025 (g64 1046 0)) < g64 1100007 (g64 1046 0)) → sm_nl 17 (g64 1046 0) (g64 1100007 (g64 1046 0)) (g64 1100025 (g64 1046 0)) (g64 1100007 (g64 1100025 (g64 1046 0))) (g64 1100025 (g64 1100025 (g64 1046 0))) = g64 1100025 (g64 1046 0)) h949_ h952_ h954_)
          have e986_ : g64 1100007 (g77 1100025 (g77 1046 0)) = g64 1100007 (g71 1100025 (g71 1046 0)) := congrArg ((g64 1100007)) (la_unary_61 h918_ (sm_nl_0 : sm_nl 0 (g71 1046 0) (g71 1100007 (g71 1046 0)) (g71 1100025 (g71 1046 0)) (g71 1100007 (g71 1100025 (g71 1046 0))) (g71 1100025 (g71 1100025 (g71 1046 0))) = g71 1100025 (g71 1046 0)))
          have e987_ : g71 1100007 (g77 1100023 (g77 1046 0)) = g71 1100007 (g71 1100023 (g71 1046 0)) := congrArg ((g71 1100007)) (la_unary_61 h916_ (sm_nt_0 : sm_nt 0 (g71 1046 0) (g71 1100023 (g71 1046 0)) (g71 1100023 (g71 1100023 (g71 1046 0))) = g71 1100023 (g71 1046 0)))
          have e988_ : g71 1100007 (g77 1100025 (g77 1046 0)) = g71 1100007 (g71 1100025 (g71 1046 0)) := congrArg ((g71 1100007)) (la_unary_61 h918_ (sm_nl_0 : sm_nl 0 (g71 1046 0) (g71 1100007 (g71 1046 0)) (g71 1100025 (g71 1046 0)) (g71 1100007 (g71 1100025 (g71 1046 0))) (g71 1100025 (g71 1100025 (g71 1046 0))) = g71 1100025 (g71 1046 0)))
          exact (la_unary_113 h939_ h954_ (sm_F1_at h844_ (g71 1100025 (g71 1046 0)) (la_unary_32 h836_ (sm_KC_n h927_).2.1.2.2.2.2.2.2.2)) e982_)
        refine ⟨h955_, ?_⟩
        refine ⟨(sm_HB_1 (by rw [((sm_F1_at h902_ (S 1046 0) (la_unary_67 h926_ h947_)).trans ((sm_F1_at h844_ (S 1046 0) (la_unary_68 h947_)).trans ((sm_F1_at h765_ (S 1046 0) la_unary_69).trans rfl)))]; exact (la_unary_70 h48_ h910_ h926_ h947_)) (sm_HB_s (sm_HB_F h956_ (sm_F1_tr (sm_F1_le h844_ la_unary_73) h902_ (la_unary_75 h926_)) (Int.le_refl _) la_unary_73 (Int.le_refl _) (la_unary_74 h910_ h926_)) (sm_HB_1 (by rw [((sm_F1_at h902_ (g64 1046 0) (la_unary_76 h926_)).trans ((sm_F1_at h844_ (g64 1046 0) la_unary_69).trans rfl))]; exact (la_unary_77 h48_ h910_ h926_ h947_ h949_)) (sm_HB_1 (by rw [((sm_F1_at h902_ (g64 1046 0 + 1) (la_unary_78 h926_)).trans ((congrArg (g71 1100007) (la_unary_52 h836_ h926_)).trans h931_))]; exact (la_unary_79 h48_ h910_ h926_ (sm_dl_17 : sm_dl 17 0 = (-1)) h947_ h949_)) (sm_HB_0 (la_unary_53 h836_ h894_)))))), ?_⟩
        refine ⟨(la_unary_80 h910_ h926_ h957_), ?_⟩
        exact trivial
      intro h989_
      refine ⟨?_, ?_⟩
      · skip
        refine ⟨h753_, ?_⟩
        refine ⟨h754_, ?_⟩
        refine ⟨h755_, ?_⟩
        refine ⟨h756_, ?_⟩
        intro h990_
        obtain ⟨h991_, ⟨h992_, ⟨h993_, ⟨h994_, ⟨h995_, ⟨h996_, ⟨h997_, ⟨h998_, ⟨h999_, ⟨h1000_, ⟨h1001_, ⟨h1002_, ⟨h1003_, ⟨h1004_, ⟨h1005_, ⟨h1006_, -⟩⟩⟩⟩⟩⟩⟩⟩⟩⟩⟩⟩⟩⟩⟩⟩ := (h780_ h990_)
        refine ⟨h992_, ?_⟩
        refine ⟨la_unary_83, ?_⟩
        refine ⟨la_unary_84, ?_⟩
        refine ⟨(sm_ci_13 (la_unary_114 (sm_KC_n h29_).2.1.1 h33_ h34_ h396_ h989_ h998_ h999_ h1001_ h1002_ h1003_ (sm_dl_13 : sm_dl 13 p1 = 0) (sm_nt_13 : sm_nt 13 (g64 1046 0) (g64 1100023 (g64 1046 0)) (g64 1100023 (g64 1100023 (g64 1046 0))) = g64 1100023 (g64 1046 0)) (sm_nl_13 : sm_nl 13 (g64 1046 0) (g64 1100007 (g64 1046 0)) (g64 1100025 (g64 1046 0)) (g64 1100007 (g64 1100025 (g64 1046 0))) (g64 1100025 (g64 1100025 (g64 1046 0))) = g64 1100025 (g64 1046 0)))), ?_⟩
        refine ⟨la_unary_86, ?_⟩
        intro h1007_
        have h1008_ := (h1007_.resolve_left la_unary_87)
        have h1009_ := (h33_ (la_unary_89 h1008_))
        have h1010_ := (h34_ (la_unary_89 h1008_))
        have e1011_ : S 1100007 (S 1100023 (S 1046 0)) = S 1100007 (S 1046 0) := congrArg ((S 1100007)) (la_unary_92 h1008_)
        have e1012_ : S 1100007 (S 1100025 (S 1046 0)) = S 1100007 (S 1046 0) := congrArg ((S 1100007)) (la_unary_92 h1008_)
        have e1013_ : S 1100007 (S 1100025 (S 1046 0)) = S 1100007 (S 1100023 (S 1046 0)) := congrArg ((S 1100007)) (la_unary_92 h1008_)
        have e1014_ : S 1100007 (g64 1046 0) = S 1100007 (S 1046 0) := congrArg ((S 1100007)) (la_unary_92 h1008_)
        have e1015_ : S 1100007 (g64 1046 0) = S 1100007 (S 1100023 (S 1046 0)) := congrArg ((S 1100007)) (la_unary_92 h1008_)
        have e1016_ : S 1100007 (g64 1046 0) = S 1100007 (S 1100025 (S 1046 0)) := congrArg ((S 1100007)) (la_unary_92 h1008_)
        have e1017_ : S 1100007 (g64 1100023 (g64 1046 0)) = S 1100007 (S 1046 0) := congrArg ((S 1100007)) (la_unary_92 h1008_)
        have e1018_ : S 1100007 (g64 1100023 (g64 1046 0)) = S 1100007 (S 1100023 (S 1046 0)) := congrArg ((S 1100007)) h999_
        have e1019_ : S 1100007 (g64 1100023 (g64 1046 0)) = S 1100007 (S 1100025 (S 1046 0)) := congrArg ((S 1100007)) (la_unary_92 h1008_)
        have e1020_ : S 1100007 (g64 1100023 (g64 1046 0)) = S 1100007 (g64 1046 0) := congrArg ((S 1100007)) (la_unary_92 h1008_)
        have e1021_ : S 1100007 (g64 1100025 (g64 1046 0)) = S 1100007 (S 1046 0) := congrArg ((S 1100007)) (la_unary_92 h1008_)
        have e1022_ : S 1100007 (g64 1100025 (g64 1046 0)) = S 1100007 (S 1100023 (S 1046 0)) := congrArg ((S 1100007)) (la_unary_92 h1008_)
        have e1023_ : S 1100007 (g64 1100025 (g64 1046 0)) = S 1100007 (S 1100025 (S 1046 0)) := congrArg ((S 1100007)) h1001_
        have e1024_ : S 1100007 (g64 1100025 (g64 1046 0)) = S 1100007 (g64 1046 0) := congrArg ((S 1100007)) (la_unary_92 h1008_)
        have e1025_ : S 1100007 (g64 1100025 (g64 1046 0)) = S 1100007 (g64 1100023 (g64 1046 0)) := congrArg ((S 1100007)) (la_unary_92 h1008_)
        have e1026_ : S 1100023 (g64 1046 0) = S 1100023 (S 1046 0) := congrArg ((S 1100023)) (la_unary_92 h1008_)
        have e1027_ : S 1100024 (g64 1046 0) = S 1100024 (S 1046 0) := congrArg ((S 1100024)) (la_unary_92 h1008_)
        have e1028_ : S 1100025 (g64 1046 0) = S 1100025 (S 1046 0) := congrArg ((S 1100025)) (la_unary_92 h1008_)
        have e1029_ : g64 1100007 (g64 1100023 (g64 1046 0)) = g64 1100007 (g64 1046 0) := congrArg ((g64 1100007)) (la_unary_92 h1008_)
        have e1030_ : g64 1100007 (g64 1100025 (g64 1046 0)) = g64 1100007 (g64 1046 0) := congrArg ((g64 1100007)) (la_unary_92 h1008_)
        have e1031_ : g64 1100007 (g64 1100025 (g64 1046 0)) = g64 1100007 (g64 1100023 (g64 1046 0)) := congrArg ((g64 1100007)) (la_unary_92 h1008_)
        have e1032_ : g64 1100023 (g64 1100023 (g64 1046 0)) = g64 1100023 (g64 1046 0) := congrArg ((g64 1100023)) (la_unary_92 h1008_)
        have e1033_ : g64 1100025 (g64 1100025 (g64 1046 0)) = g64 1100025 (g64 1046 0) := congrArg ((g64 1100025)) (la_unary_92 h1008_)
        have e1034_ : S 1100023 (g64 1100023 (g64 1046 0)) = S 1100023 (S 1046 0) := congrArg ((S 1100023)) (la_unary_92 h1008_)
        have e1035_ : S 1100023 (g64 1100023 (g64 1046 0)) = S 1100023 (g64 1046 0) := congrArg ((S 1100023)) (la_unary_92 h1008_)
        have e1036_ : S 1100025 (g64 1100025 (g64 1046 0)) = S 1100025 (S 1046 0) := congrArg ((S 1100025)) (la_unary_92 h1008_)
        have e1037_ : S 1100025 (g64 1100025 (g64 1046 0)) = S 1100025 (g64 1046 0) := congrArg ((S 1100025)) (la_unary_92 h1008_)
        exact ((la_unary_93 h1008_)).elim
      refine ⟨(la_unary_94 h16_ h45_), ?_⟩
      intro g84
      rintro ⟨h1038_, ⟨h1039_, ⟨h1040_, ⟨h1041_, ⟨h1042_, ⟨h1043_, ⟨h1044_, ⟨h1045_, ⟨h1046_, ⟨h1047_, ⟨h1048_, ⟨h1049_, ⟨h1050_, ⟨h1051_, ⟨h1052_, ⟨h1053_, h1054_⟩⟩⟩⟩⟩⟩⟩⟩⟩⟩⟩⟩⟩⟩⟩⟩
      refine ⟨(la_unary_23 h1040_), ?_⟩
      refine ⟨h1043_, ?_⟩
      refine ⟨h1038_, ?_⟩
      refine ⟨h1039_, ?_⟩
      refine ⟨h757_, ?_⟩
      refine ⟨h758_, ?_⟩
      refine ⟨(la_unary_41 h759_ h1041_), ?_⟩
      refine ⟨(la_unary_40 h28_ h1039_), ?_⟩
      refine ⟨(sm_F1_tr (sm_F1_le h761_ (Int.le_refl _)) h1046_ h759_), ?_⟩
      refine ⟨(sm_F1_tr (sm_F1_le h762_ (Int.le_refl _)) h1047_ h759_), ?_⟩
      refine ⟨(sm_F1_tr (sm_F1_le h763_ (Int.le_refl _)) h1048_ h759_), ?_⟩
      refine ⟨(sm_F1_tr (sm_F1_le h764_ (Int.le_refl _)) h1049_ h759_), ?_⟩
      refine ⟨(sm_F1_tr (sm_F1_le h765_ (Int.le_refl _)) h1050_ (la_unary_43 h759_)), ?_⟩
      refine ⟨(sm_F1_tr (sm_F1_le h766_ (Int.le_refl _)) h1051_ (la_unary_43 h759_)), ?_⟩
      refine ⟨(sm_F1_tr (sm_F1_le h767_ (Int.le_refl _)) h1052_ (la_unary_43 h759_)), ?_⟩
      refine ⟨(sm_F1_tr (sm_F1_le h768_ (Int.le_refl _)) h1053_ (la_unary_43 h759_)), ?_⟩
      refine ⟨h769_, ?_⟩
      refine ⟨h770_, ?_⟩
      refine ⟨h771_, ?_⟩
      refine ⟨h772_, ?_⟩
      refine ⟨h773_, ?_⟩
      refine ⟨h774_, ?_⟩
      refine ⟨h775_, ?_⟩
      refine ⟨h776_, ?_⟩
      refine ⟨h777_, ?_⟩
      refine ⟨h778_, ?_⟩
      refine ⟨h779_, ?_⟩
      intro h1055_
      have h1056_ : ¬ (g64 1047 0 = 1) := fun q_ => (la_unary_7 h1055_) (h1044_ q_)
      obtain ⟨h1057_, ⟨h1058_, ⟨h1059_, ⟨h1060_, ⟨h1061_, ⟨h1062_, ⟨h1063_, ⟨h1064_, ⟨h1065_, ⟨h1066_, ⟨h1067_, ⟨h1068_, ⟨h1069_, h1070_⟩⟩⟩⟩⟩⟩⟩⟩⟩⟩⟩⟩⟩ := (h1054_ h1055_)
      have h1071_ := (h1070_ la_unary_95)
      obtain ⟨h1072_, ⟨h1073_, ⟨h1074_, ⟨h1075_, ⟨h1076_, ⟨h1077_, ⟨h1078_, ⟨h1079_, ⟨h1080_, ⟨h1081_, ⟨h1082_, ⟨h1083_, ⟨h1084_, ⟨h1085_, ⟨h1086_, ⟨h1087_, -⟩⟩⟩⟩⟩⟩⟩⟩⟩⟩⟩⟩⟩⟩⟩⟩ := (h780_ h1057_)
      have h1088_ := (h1071_ la_unary_97)
      refine ⟨h28_, ?_⟩
      refine ⟨h1059_, ?_⟩
      refine ⟨h1074_, ?_⟩
      refine ⟨h1075_, ?_⟩
      refine ⟨(la_unary_98 h1058_ h1076_), ?_⟩
      refine ⟨(la_unary_99 h1058_ h1077_), ?_⟩
      refine ⟨(sm_FC_s (sm_FC_F h1078_ (sm_F1_le h1049_ (Int.le_refl _)) (Int.le_refl _) (Int.le_refl _) (Int.le_refl _) rfl) (sm_FC_1 h1062_ (sm_FC_0 h1042_))), ?_⟩
      refine ⟨(la_unary_100 h1063_ (sm_dl_13 : sm_dl 13 p1 = 0) h1079_), ?_⟩
      refine ⟨(la_unary_35 h1064_ (sm_nt_13 : sm_nt 13 (g64 1046 0) (g64 1100023 (g64 1046 0)) (g64 1100023 (g64 1100023 (g64 1046 0))) = g64 1100023 (g64 1046 0)) h1080_), ?_⟩
      refine ⟨(la_unary_35 h1065_ (sm_nd_13 : sm_nd 13 (g64 1100024 (g64 1046 0)) = g64 1100024 (g64 1046 0)) h1081_), ?_⟩
      refine ⟨(la_unary_35 h1066_ (sm_nl_13 : sm_nl 13 (g64 1046 0) (g64 1100007 (g64 1046 0)) (g64 1100025 (g64 1046 0)) (g64 1100007 (g64 1100025 (g64 1046 0))) (g64 1100025 (g64 1100025 (g64 1046 0))) = g64 1100025 (g64 1046 0)) h1082_), ?_⟩
      refine ⟨(la_unary_35 h1067_ (sm_nt_13 : sm_nt 13 (g64 1100007 (g64 1046 0)) (g64 1100007 (g64 1100023 (g64 1046 0))) (g64 1100007 (g64 1100023 (g64 1100023 (g64 1046 0)))) = g64 1100007 (g64 1100023 (g64 1046 0))) h1083_), ?_⟩
      refine ⟨(la_unary_101 h1084_ h1088_), ?_⟩
      refine ⟨h1085_, ?_⟩
      refine ⟨(sm_HB_1 (by rw [((sm_F1_at h1050_ (S 1046 0) (la_unary_68 h1077_)).trans ((sm_F1_at h765_ (S 1046 0) la_unary_69).trans rfl))]; exact (la_unary_102 h48_ h1058_ h1077_)) (sm_HB_s (sm_HB_F h1086_ (sm_F1_le h1050_ la_unary_73) (Int.le_refl _) la_unary_73 (Int.le_refl _) (la_unary_103 h1058_)) (sm_HB_1 (by rw [((sm_F1_at h1050_ (g64 1046 0) la_unary_69).trans rfl)]; exact (la_unary_104 h48_ h1058_ h1077_ h1079_)) (sm_HB_0 h1042_)))), ?_⟩
      refine ⟨(la_unary_105 h1058_ h1087_), ?_⟩
      exact trivial
    intro h1089_
    intro h1090_
    have h1091_ := (h1090_ h4_)
    have h1092_ := (h1091_ h23_)
    have h1093_ := (h1092_ h24_)
    have h1094_ := (h1093_ h25_)
    have h1095_ := (h1094_ (la_unary_119 h744_))
    intro h1096_
    have h1097_ := (h1096_ h1095_)
    obtain ⟨h1098_, h1099_⟩ := (h1097_ h5_)
    refine ⟨(la_unary_120 h9_ h23_ h24_), ?_⟩
    refine ⟨(la_unary_94 h16_ h45_), ?_⟩
    refine ⟨?_, ?_⟩
    · skip
      refine ⟨h15_, ?_⟩
      refine ⟨h16_, ?_⟩
      refine ⟨h17_, ?_⟩
      refine ⟨h18_, ?_⟩
      refine ⟨h12_, ?_⟩
      refine ⟨h13_, ?_⟩
      refine ⟨h11_, ?_⟩
      refine ⟨h14_, ?_⟩
      refine ⟨la_unary_121, ?_⟩
      intro h1100_
      refine ⟨h29_, ?_⟩
      refine ⟨?_, ?_⟩
      · skip
        have e1101_ : S 12 (5 * p2 + 0) = S 12 (5 * p2) := congrArg ((S 12)) la_unary_122
        exact (la_unary_123 h1098_ e1101_)
      refine ⟨?_, ?_⟩
      · skip
        have e1102_ : S 12 (5 * p2 + 0) = S 12 (5 * p2) := congrArg ((S 12)) la_unary_122
        exact (la_unary_124 h1099_ e1102_)
      refine ⟨(la_unary_125 h33_ h34_), ?_⟩
      intro h1103_
      refine ⟨(la_unary_126 h1103_), ?_⟩
      refine ⟨(la_unary_127 h1103_), ?_⟩
      intro h1104_
      have h1105_ := (h33_ (la_unary_128 h1103_))
      have h1106_ := (h34_ h1104_)
      exact (la_unary_129 h1103_)
    refine ⟨(la_unary_22 h16_ h45_), ?_⟩
    intro g95
    rintro ⟨h1107_, ⟨h1108_, ⟨h1109_, ⟨h1110_, ⟨h1111_, ⟨h1112_, ⟨h1113_, ⟨h1114_, ⟨h1115_, ⟨h1116_, ⟨h1117_, ⟨h1118_, ⟨h1119_, ⟨h1120_, ⟨h1121_, ⟨h1122_, h1123_⟩⟩⟩⟩⟩⟩⟩⟩⟩⟩⟩⟩⟩⟩⟩⟩
    have e1124_ : (if (1 : Int) = 1 then 1 else 0 : Int) = 1 := if_pos la_unary_130
    intro h1125_
    refine ⟨(la_unary_131 h1109_ h1112_), ?_⟩
    intro h1126_
    refine ⟨?_, ?_⟩
    · skip
      intro h1127_
      refine ⟨(la_unary_23 h1109_), ?_⟩
      refine ⟨h1112_, ?_⟩
      refine ⟨h1107_, ?_⟩
      refine ⟨h1108_, ?_⟩
      refine ⟨h19_, ?_⟩
      refine ⟨h20_, ?_⟩
      refine ⟨h1110_, ?_⟩
      refine ⟨h1113_, ?_⟩
      refine ⟨h1115_, ?_⟩
      refine ⟨h1116_, ?_⟩
      refine ⟨h1117_, ?_⟩
      refine ⟨h1118_, ?_⟩
      refine ⟨h1119_, ?_⟩
      refine ⟨h1120_, ?_⟩
      refine ⟨h1121_, ?_⟩
      refine ⟨h1122_, ?_⟩
      refine ⟨sm_F1_rf, ?_⟩
      refine ⟨sm_F1_rf, ?_⟩
      refine ⟨sm_F1_rf, ?_⟩
      refine ⟨sm_F1_rf, ?_⟩
      refine ⟨sm_F1_rf, ?_⟩
      refine ⟨sm_F1_rf, ?_⟩
      refine ⟨la_unary_132, ?_⟩
      refine ⟨la_unary_133, ?_⟩
      refine ⟨sm_F1_rf, ?_⟩
      refine ⟨la_unary_134, ?_⟩
      refine ⟨(la_unary_135 h16_ h45_), ?_⟩
      intro h1128_
      obtain ⟨h1129_, ⟨h1130_, ⟨h1131_, ⟨h1132_, ⟨h1133_, ⟨h1134_, ⟨h1135_, ⟨h1136_, ⟨h1137_, ⟨h1138_, ⟨h1139_, h1140_⟩⟩⟩⟩⟩⟩⟩⟩⟩⟩⟩ := (h1123_ h1128_)
      refine ⟨h28_, ?_⟩
      refine ⟨h1131_, ?_⟩
      refine ⟨h30_, ?_⟩
      refine ⟨h31_, ?_⟩
      refine ⟨(la_unary_136 h32_ h1130_), ?_⟩
      refine ⟨(la_unary_137 h1130_), ?_⟩
      refine ⟨(sm_FC_1 h1134_ (sm_FC_0 h1111_)), ?_⟩
      refine ⟨(la_unary_138 (sv_i01 (p := (1 : Int) = 1)).2 e1124_ h1135_), ?_⟩
      refine ⟨h1136_, ?_⟩
      refine ⟨h1137_, ?_⟩
      refine ⟨h1138_, ?_⟩
      refine ⟨h1139_, ?_⟩
      refine ⟨h1140_, ?_⟩
      refine ⟨(sm_AP_0 la_unary_132), ?_⟩
      refine ⟨(sm_HB_1 (by rw [((sm_F1_at h1119_ (S 1046 0) la_unary_69).trans rfl)]; exact (la_unary_139 h48_ h1130_)) (sm_HB_0 h1111_)), ?_⟩
      refine ⟨(la_unary_140 h1130_), ?_⟩
      exact trivial
    intro h1141_
    refine ⟨?_, ?_⟩
    · skip
      refine ⟨(la_unary_23 h1109_), ?_⟩
      refine ⟨h1112_, ?_⟩
      refine ⟨h1107_, ?_⟩
      refine ⟨h1108_, ?_⟩
      intro h1142_
      obtain ⟨h1143_, ⟨h1144_, ⟨h1145_, ⟨h1146_, ⟨h1147_, ⟨h1148_, ⟨h1149_, ⟨h1150_, ⟨h1151_, ⟨h1152_, ⟨h1153_, h1154_⟩⟩⟩⟩⟩⟩⟩⟩⟩⟩⟩ := (h1123_ h1142_)
      refine ⟨h1145_, ?_⟩
      refine ⟨la_unary_83, ?_⟩
      refine ⟨la_unary_84, ?_⟩
      refine ⟨(sm_ci_13 (la_unary_141 (sm_KC_n h29_).2.1.1 h33_ h34_ e1124_ h1149_ h1150_ h1152_ h1153_ h1154_ (sm_dl_13 : sm_dl 13 4 = 0) (sm_nt_13 : sm_nt 13 (g95 1046 0) (g95 1100023 (g95 1046 0)) (g95 1100023 (g95 1100023 (g95 1046 0))) = g95 1100023 (g95 1046 0)) (sm_nl_13 : sm_nl 13 (g95 1046 0) (g95 1100007 (g95 1046 0)) (g95 1100025 (g95 1046 0)) (g95 1100007 (g95 1100025 (g95 1046 0))) (g95 1100025 (g95 1100025 (g95 1046 0))) = g95 1100025 (g95 1046 0)))), ?_⟩
      refine ⟨la_unary_142, ?_⟩
      intro h1155_
      have h1156_ := (h1155_.resolve_left la_unary_87)
      have h1157_ := (h33_ (la_unary_89 h1156_))
      have h1158_ := (h34_ (la_unary_89 h1156_))
      have h1159_ := (h1147_.resolve_left (la_unary_145 h1156_))
      have e1160_ : S 1100007 (S 1100023 (S 1046 0)) = S 1100007 (S 1046 0) := congrArg ((S 1100007)) (la_unary_92 h1156_)
      have e1161_ : S 1100007 (S 1100025 (S 1046 0)) = S 1100007 (S 1046 0) := congrArg ((S 1100007)) (la_unary_92 h1156_)
      have e1162_ : S 1100007 (S 1100025 (S 1046 0)) = S 1100007 (S 1100023 (S 1046 0)) := congrArg ((S 1100007)) (la_unary_92 h1156_)
      have e1163_ : S 1100007 (g95 1046 0) = S 1100007 (S 1046 0) := congrArg ((S 1100007)) (la_unary_92 h1156_)
      have e1164_ : S 1100007 (g95 1046 0) = S 1100007 (S 1100023 (S 1046 0)) := congrArg ((S 1100007)) (la_unary_92 h1156_)
      have e1165_ : S 1100007 (g95 1046 0) = S 1100007 (S 1100025 (S 1046 0)) := congrArg ((S 1100007)) (la_unary_92 h1156_)
      have e1166_ : S 1100007 (g95 1100023 (g95 1046 0)) = S 1100007 (S 1046 0) := congrArg ((S 1100007)) (la_unary_92 h1156_)
      have e1167_ : S 1100007 (g95 1100023 (g95 1046 0)) = S 1100007 (S 1100023 (S 1046 0)) := congrArg ((S 1100007)) h1150_
      have e1168_ : S 1100007 (g95 1100023 (g95 1046 0)) = S 1100007 (S 1100025 (S 1046 0)) := congrArg ((S 1100007)) (la_unary_92 h1156_)
      have e1169_ : S 1100007 (g95 1100023 (g95 1046 0)) = S 1100007 (g95 1046 0) := congrArg ((S 1100007)) (la_unary_92 h1156_)
      have e1170_ : S 1100007 (g95 1100025 (g95 1046 0)) = S 1100007 (S 1046 0) := congrArg ((S 1100007)) (la_unary_92 h1156_)
      have e1171_ : S 1100007 (g95 1100025 (g95 1046 0)) = S 1100007 (S 1100023 (S 1046 0)) := congrArg ((S 1100007)) (la_unary_92 h1156_)
      have e1172_ : S 1100007 (g95 1100025 (g95 1046 0)) = S 1100007 (S 1100025 (S 1046 0)) := congrArg ((S 1100007)) h1152_
      have e1173_ : S 1100007 (g95 1100025 (g95 1046 0)) = S 1100007 (g95 1046 0) := congrArg ((S 1100007)) (la_unary_92 h1156_)
      have e1174_ : S 1100007 (g95 1100025 (g95 1046 0)) = S 1100007 (g95 1100023 (g95 1046 0)) := congrArg ((S 1100007)) (la_unary_92 h1156_)
      have e1175_ : S 1100023 (g95 1046 0) = S 1100023 (S 1046 0) := congrArg ((S 1100023)) (la_unary_92 h1156_)
      have e1176_ : S 1100024 (g95 1046 0) = S 1100024 (S 1046 0) := congrArg ((S 1100024)) (la_unary_92 h1156_)
      have e1177_ : S 1100025 (g95 1046 0) = S 1100025 (S 1046 0) := congrArg ((S 1100025)) (la_unary_92 h1156_)
      have e1178_ : S 26 (S 1046 0) = S 26 (g95 1046 0 - 1) := congrArg ((S 26)) (la_unary_146 h1156_)
      have e1179_ : g95 1100007 (g95 1100023 (g95 1046 0)) = g95 1100007 (g95 1046 0) := congrArg ((g95 1100007)) (la_unary_92 h1156_)
      have e1180_ : g95 1100007 (g95 1100025 (g95 1046 0)) = g95 1100007 (g95 1046 0) := congrArg ((g95 1100007)) (la_unary_92 h1156_)
      have e1181_ : g95 1100007 (g95 1100025 (g95 1046 0)) = g95 1100007 (g95 1100023 (g95 1046 0)) := congrArg ((g95 1100007)) (la_unary_92 h1156_)
      have e1182_ : g95 1100023 (g95 1100023 (g95 1046 0)) = g95 1100023 (g95 1046 0) := congrArg ((g95 1100023)) (la_unary_92 h1156_)
      have e1183_ : g95 1100025 (g95 1100025 (g95 1046 0)) = g95 1100025 (g95 1046 0) := congrArg ((g95 1100025)) (la_unary_92 h1156_)
      have e1184_ : g95 26 (S 1046 0) = g95 26 (g95 1046 0 - 1) := congrArg ((g95 26)) (la_unary_146 h1156_)
      have e1185_ : S 1100023 (g95 1100023 (g95 1046 0)) = S 1100023 (S 1046 0) := congrArg ((S 1100023)) (la_unary_92 h1156_)
      have e1186_ : S 1100023 (g95 1100023 (g95 1046 0)) = S 1100023 (g95 1046 0) := congrArg ((S 1100023)) (la_unary_92 h1156_)
      have e1187_ : S 1100025 (g95 1100025 (g95 1046 0)) = S 1100025 (S 1046 0) := congrArg ((S 1100025)) (la_unary_92 h1156_)
      have e1188_ : S 1100025 (g95 1100025 (g95 1046 0)) = S 1100025 (g95 1046 0) := congrArg ((S 1100025)) (la_unary_92 h1156_)
      exact ((la_unary_93 h1156_)).elim
    intro g104
    rintro ⟨h1189_, ⟨h1190_, ⟨h1191_, ⟨h1192_, ⟨h1193_, ⟨h1194_, ⟨h1195_, ⟨h1196_, ⟨h1197_, ⟨h1198_, ⟨h1199_, ⟨h1200_, ⟨h1201_, ⟨h1202_, ⟨h1203_, ⟨h1204_, h1205_⟩⟩⟩⟩⟩⟩⟩⟩⟩⟩⟩⟩⟩⟩⟩⟩
    refine ⟨(la_unary_23 h1191_), ?_⟩
    refine ⟨h1194_, ?_⟩
    refine ⟨h1189_, ?_⟩
    refine ⟨h1190_, ?_⟩
    refine ⟨h19_, ?_⟩
    refine ⟨h20_, ?_⟩
    refine ⟨(la_unary_41 h1110_ h1192_), ?_⟩
    refine ⟨(la_unary_40 h28_ h1190_), ?_⟩
    refine ⟨(sm_F1_tr (sm_F1_le h1115_ (Int.le_refl _)) h1197_ h1110_), ?_⟩
    refine ⟨(sm_F1_tr (sm_F1_le h1116_ (Int.le_refl _)) h1198_ h1110_), ?_⟩
    refine ⟨(sm_F1_tr (sm_F1_le h1117_ (Int.le_refl _)) h1199_ h1110_), ?_⟩
    refine ⟨(sm_F1_tr (sm_F1_le h1118_ (Int.le_refl _)) h1200_ h1110_), ?_⟩
    refine ⟨(sm_F1_tr (sm_F1_le h1119_ (Int.le_refl _)) h1201_ (la_unary_43 h1110_)), ?_⟩
    refine ⟨(sm_F1_tr (sm_F1_le h1120_ (Int.le_refl _)) h1202_ (la_unary_43 h1110_)), ?_⟩
    refine ⟨(sm_F1_tr (sm_F1_le h1121_ (Int.le_refl _)) h1203_ (la_unary_43 h1110_)), ?_⟩
    refine ⟨(sm_F1_tr (sm_F1_le h1122_ (Int.le_refl _)) h1204_ (la_unary_43 h1110_)), ?_⟩
    refine ⟨sm_F1_rf, ?_⟩
    refine ⟨sm_F1_rf, ?_⟩
    refine ⟨sm_F1_rf, ?_⟩
    refine ⟨sm_F1_rf, ?_⟩
    refine ⟨sm_F1_rf, ?_⟩
    refine ⟨sm_F1_rf, ?_⟩
    refine ⟨la_unary_132, ?_⟩
    refine ⟨la_unary_133, ?_⟩
    refine ⟨sm_F1_rf, ?_⟩
    refine ⟨la_unary_134, ?_⟩
    refine ⟨(la_unary_135 h16_ h45_), ?_⟩
    intro h1206_
    have h1207_ : ¬ (g95 1047 0 = 1) := fun q_ => (la_unary_7 h1206_) (h1195_ q_)
    obtain ⟨h1208_, ⟨h1209_, ⟨h1210_, ⟨h1211_, ⟨h1212_, ⟨h1213_, ⟨h1214_, ⟨h1215_, ⟨h1216_, ⟨h1217_, ⟨h1218_, ⟨h1219_, ⟨h1220_, h1221_⟩⟩⟩⟩⟩⟩⟩⟩⟩⟩⟩⟩⟩ := (h1205_ h1206_)
    have h1222_ := (h1221_ la_unary_95)
    obtain ⟨h1223_, ⟨h1224_, ⟨h1225_, ⟨h1226_, ⟨h1227_, ⟨h1228_, ⟨h1229_, ⟨h1230_, ⟨h1231_, ⟨h1232_, ⟨h1233_, h1234_⟩⟩⟩⟩⟩⟩⟩⟩⟩⟩⟩ := (h1123_ h1208_)
    have h1235_ := (h1222_ la_unary_97)
    refine ⟨h28_, ?_⟩
    refine ⟨h1210_, ?_⟩
    refine ⟨h30_, ?_⟩
    refine ⟨h31_, ?_⟩
    refine ⟨(la_unary_147 h32_ h1209_ h1224_), ?_⟩
    refine ⟨(la_unary_148 h1209_ h1224_), ?_⟩
    refine ⟨(sm_FC_1 (((sm_F1_at h1200_ (S 1046 0) (la_unary_51 h1224_)).trans rfl).trans h1228_) (sm_FC_1 (((congrArg (g104 29) (la_unary_52 h1111_ h1224_)).trans h1213_).trans rfl) (sm_FC_0 (la_unary_53 h1111_ h1193_)))), ?_⟩
    refine ⟨(la_unary_149 e1124_ h1214_ (sm_dl_13 : sm_dl 13 4 = 0) h1229_), ?_⟩
    refine ⟨(la_unary_35 h1215_ (sm_nt_13 : sm_nt 13 (g95 1046 0) (g95 1100023 (g95 1046 0)) (g95 1100023 (g95 1100023 (g95 1046 0))) = g95 1100023 (g95 1046 0)) h1230_), ?_⟩
    refine ⟨(la_unary_35 h1216_ (sm_nd_13 : sm_nd 13 (g95 1100024 (g95 1046 0)) = g95 1100024 (g95 1046 0)) h1231_), ?_⟩
    refine ⟨(la_unary_35 h1217_ (sm_nl_13 : sm_nl 13 (g95 1046 0) (g95 1100007 (g95 1046 0)) (g95 1100025 (g95 1046 0)) (g95 1100007 (g95 1100025 (g95 1046 0))) (g95 1100025 (g95 1100025 (g95 1046 0))) = g95 1100025 (g95 1046 0)) h1232_), ?_⟩
    refine ⟨(la_unary_35 h1218_ (sm_nt_13 : sm_nt 13 (g95 1100007 (g95 1046 0)) (g95 1100007 (g95 1100023 (g95 1046 0))) (g95 1100007 (g95 1100023 (g95 1100023 (g95 1046 0)))) = g95 1100007 (g95 1100023 (g95 1046 0))) h1233_), ?_⟩
    refine ⟨(la_unary_101 h1234_ h1235_), ?_⟩
    refine ⟨(sm_AP_0 la_unary_132), ?_⟩
    refine ⟨(sm_HB_1 (by rw [((sm_F1_at h1201_ (S 1046 0) (la_unary_76 h1224_)).trans ((sm_F1_at h1119_ (S 1046 0) la_unary_69).trans rfl))]; exact (la_unary_150 h48_ h1209_ h1224_)) (sm_HB_1 (by rw [((sm_F1_at h1201_ (S 1046 0 + 1) (la_unary_78 h1224_)).trans ((congrArg (g95 1100007) (la_unary_52 h1111_ h1224_)).trans h1229_))]; exact (la_unary_151 h48_ (sv_i01 (p := (1 : Int) = 1)).2 h1209_ h1224_)) (sm_HB_0 (la_unary_53 h1111_ h1193_)))), ?_⟩
    refine ⟨(la_unary_152 h1209_ h1224_), ?_⟩
    exact trivial
  intro h1236_
  have h1237_ := (h26_ (la_unary_153 h1236_))
  intro h1238_
  have h1239_ := (h1238_ h4_)
  have h1240_ := (h1239_ h23_)
  have h1241_ := (h1240_ h24_)
  have h1242_ := (h1241_ h25_)
  obtain ⟨h1243_, ⟨h1244_, ⟨h1245_, h1246_⟩⟩⟩ := (h1242_ h1237_)
  intro h1247_
  have h1248_ := (h1247_ h4_)
  have h1249_ := (h1248_ (sm_ex_e h1243_).1)
  obtain ⟨h1250_, ⟨h1251_, ⟨h1252_, h1253_⟩⟩⟩ := (h1249_ (sm_ex_e h1243_).2.1)
  obtain ⟨h1254_, ⟨h1255_, ⟨h1256_, h1257_⟩⟩⟩ := (h1250_ (sm_ex_e h1243_).2.2.1)
  intro h1258_
  have h1259_ := (h1258_ h4_)
  have h1260_ := (h1259_ (sm_ex_e h1245_).1)
  obtain ⟨h1261_, ⟨h1262_, ⟨h1263_, h1264_⟩⟩⟩ := (h1260_ (sm_ex_e h1245_).2.1)
  obtain ⟨h1265_, ⟨h1266_, ⟨h1267_, h1268_⟩⟩⟩ := (h1261_ (sm_ex_e h1245_).2.2.1)
  intro h1269_
  intro h1270_
  refine ⟨(la_unary_156 h9_ h24_ (sm_ex_e h1243_).1 h1244_), ?_⟩
  refine ⟨(la_unary_94 h16_ h45_), ?_⟩
  refine ⟨?_, ?_⟩
  · skip
    refine ⟨h4_, ?_⟩
    refine ⟨h5_, ?_⟩
    refine ⟨h6_, ?_⟩
    refine ⟨h7_, ?_⟩
    refine ⟨h8_, ?_⟩
    refine ⟨h9_, ?_⟩
    refine ⟨h10_, ?_⟩
    refine ⟨h11_, ?_⟩
    refine ⟨h12_, ?_⟩
    refine ⟨h13_, ?_⟩
    refine ⟨h14_, ?_⟩
    refine ⟨h15_, ?_⟩
    refine ⟨h16_, ?_⟩
    refine ⟨h17_, ?_⟩
    refine ⟨h18_, ?_⟩
    refine ⟨h19_, ?_⟩
    refine ⟨h20_, ?_⟩
    refine ⟨?_, ?_⟩
    · skip
      have e1271_ : S 12 (5 * p2 + 0) = S 12 (5 * p2) := congrArg ((S 12)) la_unary_122
      exact (la_unary_123 (sm_ex_e h1243_).1 e1271_)
    refine ⟨?_, ?_⟩
    · skip
      have e1272_ : S 12 (5 * p2 + 0) = S 12 (5 * p2) := congrArg ((S 12)) la_unary_122
      exact (la_unary_157 h24_ h1244_ e1272_)
    refine ⟨?_, ?_⟩
    · skip
      have e1273_ : S 12 (5 * p2 + 0) = S 12 (5 * p2) := congrArg ((S 12)) la_unary_122
      have e1274_ : S 1100001 (S 12 (5 * p2 + 0)) = S 1100001 (S 12 (5 * p2)) := congrArg ((S 1100001)) e1273_
      have e1275_ : S 1100002 (S 12 (5 * p2 + 0)) = S 1100002 (S 12 (5 * p2)) := congrArg ((S 1100002)) e1273_
      have e1276_ : S 1100005 (S 12 (5 * p2 + 0)) = S 1100005 (S 12 (5 * p2)) := congrArg ((S 1100005)) e1273_
      exact (la_unary_158 (sm_ex_e h1243_).2.2.1 e1274_)
    refine ⟨?_, ?_⟩
    · skip
      have e1277_ : S 12 (5 * p2 + 0) = S 12 (5 * p2) := congrArg ((S 12)) la_unary_122
      exact (sm_LF_w h27_ sm_F1_rf (Int.le_refl _) (Int.le_refl _) h20_ (la_unary_159 (sm_ex_e h1243_).2.2.2.1 h1244_ h1270_ e1277_))
    intro h1278_
    refine ⟨h29_, ?_⟩
    refine ⟨h30_, ?_⟩
    refine ⟨h31_, ?_⟩
    refine ⟨h32_, ?_⟩
    refine ⟨h33_, ?_⟩
    refine ⟨h34_, ?_⟩
    refine ⟨h35_, ?_⟩
    exact (la_unary_160 h36_ (sm_ex_e h1243_).2.2.2.1 h1270_)
  refine ⟨?_, ?_⟩
  · skip
    refine ⟨?_, ?_⟩
    · skip
      have e1279_ : (if S 1047 0 = 0 then S 1100002 (S 12 (5 * p2 + 0)) + (600 - S 1046 0) + 8 else 4 : Int) = S 1100002 (S 12 (5 * p2 + 0)) + (600 - S 1046 0) + 8 := if_pos h28_
      have e1280_ : S 12 (5 * p2 + 0) = S 12 (5 * p2) := congrArg ((S 12)) la_unary_122
      exact (la_unary_161 h16_ h1254_ h1270_ e1279_)
    have e1281_ : (if S 1047 0 = 0 then S 1100002 (S 12 (5 * p2 + 0)) + (600 - S 1046 0) + 8 else 4 : Int) = S 1100002 (S 12 (5 * p2 + 0)) + (600 - S 1046 0) + 8 := if_pos h28_
    have e1282_ : S 12 (5 * p2 + 0) = S 12 (5 * p2) := congrArg ((S 12)) la_unary_122
    exact (la_unary_162 h37_ (sm_ex_e h1243_).2.2.2.1 h1270_ e1281_)
  refine ⟨?_, ?_⟩
  · skip
    refine ⟨?_, ?_⟩
    · skip
      have e1283_ : (if S 1047 0 = 0 then S 1100002 (S 12 (5 * p2 + 0)) + (600 - S 1046 0) + 8 else 4 : Int) = S 1100002 (S 12 (5 * p2 + 0)) + (600 - S 1046 0) + 8 := if_pos h28_
      have e1284_ : S 12 (5 * p2 + 0) = S 12 (5 * p2) := congrArg ((S 12)) la_unary_122
      exact (la_unary_161 h16_ h1254_ h1270_ e1283_)
    have e1285_ : (if S 1047 0 = 0 then S 1100002 (S 12 (5 * p2 + 0)) + (600 - S 1046 0) + 8 else 4 : Int) = S 1100002 (S 12 (5 * p2 + 0)) + (600 - S 1046 0) + 8 := if_pos h28_
    have e1286_ : S 12 (5 * p2 + 0) = S 12 (5 * p2) := congrArg ((S 12)) la_unary_122
    exact (la_unary_163 (sm_ex_e h1243_).2.2.2.1 h1270_ e1285_)
  intro g119
  rintro ⟨h1287_, ⟨h1288_, ⟨h1289_, ⟨h1290_, ⟨h1291_, ⟨h1292_, ⟨h1293_, ⟨h1294_, ⟨h1295_, ⟨h1296_, ⟨h1297_, ⟨h1298_, ⟨h1299_, ⟨h1300_, ⟨h1301_, ⟨h1302_, ⟨h1303_, ⟨h1304_, ⟨h1305_, ⟨h1306_, ⟨h1307_, ⟨h1308_, ⟨h1309_, ⟨h1310_, ⟨h1311_, ⟨h1312_, ⟨h1313_, h1314_⟩⟩⟩⟩⟩⟩⟩⟩⟩⟩⟩⟩⟩⟩⟩⟩⟩⟩⟩⟩⟩⟩⟩⟩⟩⟩⟩
  have h1315_ := (h1313_ h28_)
  refine ⟨(la_unary_164 h9_ h24_ (sm_ex_e h1243_).1 h1244_), ?_⟩
  refine ⟨?_, ?_⟩
  · skip
    refine ⟨h4_, ?_⟩
    refine ⟨h5_, ?_⟩
    refine ⟨h6_, ?_⟩
    refine ⟨h7_, ?_⟩
    refine ⟨h8_, ?_⟩
    refine ⟨h9_, ?_⟩
    refine ⟨h10_, ?_⟩
    refine ⟨h11_, ?_⟩
    refine ⟨h12_, ?_⟩
    refine ⟨h13_, ?_⟩
    refine ⟨h14_, ?_⟩
    refine ⟨h1287_, ?_⟩
    refine ⟨h1288_, ?_⟩
    refine ⟨h1289_, ?_⟩
    refine ⟨h1290_, ?_⟩
    refine ⟨h1291_, ?_⟩
    refine ⟨h1292_, ?_⟩
    refine ⟨(sm_ex_e h1245_).1, ?_⟩
    refine ⟨(sm_ex_e h1245_).2.1, ?_⟩
    refine ⟨(sm_ex_e h1245_).2.2.1, ?_⟩
    refine ⟨(sm_LF_w h27_ (sm_F1_le h1311_ (la_unary_165 h1310_)) (Int.le_refl _) (la_unary_165 h1310_) h1292_ (la_unary_166 (sm_ex_e h1245_).2.2.2.1 h1246_)), ?_⟩
    intro h1316_
    obtain ⟨h1317_, ⟨h1318_, ⟨h1319_, ⟨h1320_, ⟨h1321_, ⟨h1322_, ⟨h1323_, ⟨h1324_, ⟨h1325_, ⟨h1326_, ⟨h1327_, ⟨h1328_, ⟨h1329_, ⟨h1330_, ⟨h1331_, ⟨h1332_, -⟩⟩⟩⟩⟩⟩⟩⟩⟩⟩⟩⟩⟩⟩⟩⟩ := (h1314_ h1316_)
    refine ⟨h1318_, ?_⟩
    refine ⟨h1319_, ?_⟩
    refine ⟨h1320_, ?_⟩
    refine ⟨h1321_, ?_⟩
    refine ⟨(la_unary_167 h33_ h1324_ h1325_ h1328_), ?_⟩
    refine ⟨(la_unary_167 h34_ h1324_ h1327_ h1329_), ?_⟩
    refine ⟨(la_unary_168 h35_ h1322_ h1324_), ?_⟩
    exact (la_unary_169 h36_ (sm_ex_e h1245_).2.2.2.1 h1332_)
  refine ⟨?_, ?_⟩
  · skip
    refine ⟨?_, ?_⟩
    · skip
      have e1333_ : S 12 (5 * p2 + 0) = S 12 (5 * p2) := congrArg ((S 12)) la_unary_122
      have e1334_ : S 1100002 (S 12 (5 * p2 + 0)) = S 1100002 (S 12 (5 * p2)) := congrArg ((S 1100002)) e1333_
      have e1335_ : S 1100005 (S 12 (5 * p2 + 0)) = S 1100005 (S 12 (5 * p2)) := congrArg ((S 1100005)) e1333_
      by_cases c1336_ : g119 1047 0 = 0
      · skip
        have e1337_ : (if g119 1047 0 = 0 then S 1100002 (S 12 (5 * p2 + 1)) + (600 - g119 1046 0) + 8 else 4 : Int) = S 1100002 (S 12 (5 * p2 + 1)) + (600 - g119 1046 0) + 8 := if_pos c1336_
        obtain ⟨h1338_, ⟨h1339_, ⟨h1340_, ⟨h1341_, ⟨h1342_, ⟨h1343_, ⟨h1344_, ⟨h1345_, ⟨h1346_, ⟨h1347_, ⟨h1348_, ⟨h1349_, ⟨h1350_, ⟨h1351_, ⟨h1352_, ⟨h1353_, -⟩⟩⟩⟩⟩⟩⟩⟩⟩⟩⟩⟩⟩⟩⟩⟩ := (h1314_ c1336_)
        exact (la_unary_170 h1265_ h1288_ e1337_)
      · skip
        have e1354_ : (if g119 1047 0 = 0 then S 1100002 (S 12 (5 * p2 + 1)) + (600 - g119 1046 0) + 8 else 4 : Int) = 4 := if_neg c1336_
        exact (la_unary_171 e1354_)
    have e1355_ : S 12 (5 * p2 + 0) = S 12 (5 * p2) := congrArg ((S 12)) la_unary_122
    have e1356_ : S 1100002 (S 12 (5 * p2 + 0)) = S 1100002 (S 12 (5 * p2)) := congrArg ((S 1100002)) e1355_
    have e1357_ : S 1100005 (S 12 (5 * p2 + 0)) = S 1100005 (S 12 (5 * p2)) := congrArg ((S 1100005)) e1355_
    by_cases c1358_ : g119 1047 0 = 0
    · skip
      have e1359_ : (if g119 1047 0 = 0 then S 1100002 (S 12 (5 * p2 + 1)) + (600 - g119 1046 0) + 8 else 4 : Int) = S 1100002 (S 12 (5 * p2 + 1)) + (600 - g119 1046 0) + 8 := if_pos c1358_
      obtain ⟨h1360_, ⟨h1361_, ⟨h1362_, ⟨h1363_, ⟨h1364_, ⟨h1365_, ⟨h1366_, ⟨h1367_, ⟨h1368_, ⟨h1369_, ⟨h1370_, ⟨h1371_, ⟨h1372_, ⟨h1373_, ⟨h1374_, ⟨h1375_, -⟩⟩⟩⟩⟩⟩⟩⟩⟩⟩⟩⟩⟩⟩⟩⟩ := (h1314_ c1358_)
      exact (la_unary_172 h37_ (sm_ex_e h1245_).2.2.2.1 e1359_ h1365_)
    · skip
      have e1376_ : (if g119 1047 0 = 0 then S 1100002 (S 12 (5 * p2 + 1)) + (600 - g119 1046 0) + 8 else 4 : Int) = 4 := if_neg c1358_
      exact (la_unary_173 h16_ h37_ (sm_ex_e h1245_).2.2.2.1 h1265_ e1376_)
  refine ⟨?_, ?_⟩
  · skip
    refine ⟨?_, ?_⟩
    · skip
      have e1377_ : S 12 (5 * p2 + 0) = S 12 (5 * p2) := congrArg ((S 12)) la_unary_122
      have e1378_ : S 1100002 (S 12 (5 * p2 + 0)) = S 1100002 (S 12 (5 * p2)) := congrArg ((S 1100002)) e1377_
      have e1379_ : S 1100005 (S 12 (5 * p2 + 0)) = S 1100005 (S 12 (5 * p2)) := congrArg ((S 1100005)) e1377_
      by_cases c1380_ : g119 1047 0 = 0
      · skip
        have e1381_ : (if g119 1047 0 = 0 then S 1100002 (S 12 (5 * p2 + 1)) + (600 - g119 1046 0) + 8 else 4 : Int) = S 1100002 (S 12 (5 * p2 + 1)) + (600 - g119 1046 0) + 8 := if_pos c1380_
        obtain ⟨h1382_, ⟨h1383_, ⟨h1384_, ⟨h1385_, ⟨h1386_, ⟨h1387_, ⟨h1388_, ⟨h1389_, ⟨h1390_, ⟨h1391_, ⟨h1392_, ⟨h1393_, ⟨h1394_, ⟨h1395_, ⟨h1396_, ⟨h1397_, -⟩⟩⟩⟩⟩⟩⟩⟩⟩⟩⟩⟩⟩⟩⟩⟩ := (h1314_ c1380_)
        exact (la_unary_170 h1265_ h1288_ e1381_)
      · skip
        have e1398_ : (if g119 1047 0 = 0 then S 1100002 (S 12 (5 * p2 + 1)) + (600 - g119 1046 0) + 8 else 4 : Int) = 4 := if_neg c1380_
        exact (la_unary_171 e1398_)
    have e1399_ : S 12 (5 * p2 + 0) = S 12 (5 * p2) := congrArg ((S 12)) la_unary_122
    have e1400_ : S 1100002 (S 12 (5 * p2 + 0)) = S 1100002 (S 12 (5 * p2)) := congrArg ((S 1100002)) e1399_
    have e1401_ : S 1100005 (S 12 (5 * p2 + 0)) = S 1100005 (S 12 (5 * p2)) := congrArg ((S 1100005)) e1399_
    by_cases c1402_ : 0 ≤ S 1100023 (S 1046 0)
    · skip
      have h1403_ := (h33_ c1402_)
      by_cases c1406_ : g119 1047 0 = 0
      · skip
        have e1407_ : (if g119 1047 0 = 0 then S 1100002 (S 12 (5 * p2 + 1)) + (600 - g119 1046 0) + 8 else 4 : Int) = S 1100002 (S 12 (5 * p2 + 1)) + (600 - g119 1046 0) + 8 := if_pos c1406_
        obtain ⟨h1408_, ⟨h1409_, ⟨h1410_, ⟨h1411_, ⟨h1412_, ⟨h1413_, ⟨h1414_, ⟨h1415_, ⟨h1416_, ⟨h1417_, ⟨h1418_, ⟨h1419_, ⟨h1420_, ⟨h1421_, ⟨h1422_, ⟨h1423_, -⟩⟩⟩⟩⟩⟩⟩⟩⟩⟩⟩⟩⟩⟩⟩⟩ := (h1314_ c1406_)
        exact (la_unary_174 (sm_ex_e h1245_).2.2.2.1 e1407_ h1413_)
      · skip
        have e1424_ : (if g119 1047 0 = 0 then S 1100002 (S 12 (5 * p2 + 1)) + (600 - g119 1046 0) + 8 else 4 : Int) = 4 := if_neg c1406_
        exact (la_unary_175 h16_ h45_ e1424_)
    · skip
      by_cases c1427_ : g119 1047 0 = 0
      · skip
        have e1428_ : (if g119 1047 0 = 0 then S 1100002 (S 12 (5 * p2 + 1)) + (600 - g119 1046 0) + 8 else 4 : Int) = S 1100002 (S 12 (5 * p2 + 1)) + (600 - g119 1046 0) + 8 := if_pos c1427_
        obtain ⟨h1429_, ⟨h1430_, ⟨h1431_, ⟨h1432_, ⟨h1433_, ⟨h1434_, ⟨h1435_, ⟨h1436_, ⟨h1437_, ⟨h1438_, ⟨h1439_, ⟨h1440_, ⟨h1441_, ⟨h1442_, ⟨h1443_, ⟨h1444_, -⟩⟩⟩⟩⟩⟩⟩⟩⟩⟩⟩⟩⟩⟩⟩⟩ := (h1314_ c1427_)
        exact (la_unary_174 (sm_ex_e h1245_).2.2.2.1 e1428_ h1434_)
      · skip
        have e1445_ : (if g119 1047 0 = 0 then S 1100002 (S 12 (5 * p2 + 1)) + (600 - g119 1046 0) + 8 else 4 : Int) = 4 := if_neg c1427_
        exact (la_unary_175 h16_ h45_ e1445_)
  intro g128
  rintro ⟨h1446_, ⟨h1447_, ⟨h1448_, ⟨h1449_, ⟨h1450_, ⟨h1451_, ⟨h1452_, ⟨h1453_, ⟨h1454_, ⟨h1455_, ⟨h1456_, ⟨h1457_, ⟨h1458_, ⟨h1459_, ⟨h1460_, ⟨h1461_, ⟨h1462_, ⟨h1463_, ⟨h1464_, ⟨h1465_, ⟨h1466_, ⟨h1467_, ⟨h1468_, ⟨h1469_, ⟨h1470_, ⟨h1471_, ⟨h1472_, h1473_⟩⟩⟩⟩⟩⟩⟩⟩⟩⟩⟩⟩⟩⟩⟩⟩⟩⟩⟩⟩⟩⟩⟩⟩⟩⟩⟩
  refine ⟨?_, ?_⟩
  · skip
    refine ⟨h1446_, ?_⟩
    refine ⟨h1447_, ?_⟩
    refine ⟨h1448_, ?_⟩
    refine ⟨h1449_, ?_⟩
    intro h1474_
    have h1475_ : ¬ (g119 1047 0 = 1) := fun q_ => (la_unary_7 h1474_) (h1453_ q_)
    obtain ⟨h1476_, ⟨h1477_, ⟨h1478_, ⟨h1479_, ⟨h1480_, ⟨h1481_, ⟨h1482_, ⟨h1483_, ⟨h1484_, ⟨h1485_, ⟨h1486_, ⟨h1487_, ⟨h1488_, ⟨h1489_, ⟨h1490_, ⟨h1491_, -⟩⟩⟩⟩⟩⟩⟩⟩⟩⟩⟩⟩⟩⟩⟩⟩ := (h1473_ h1474_)
    have h1492_ := (h1472_ h1476_)
    obtain ⟨h1493_, ⟨h1494_, ⟨h1495_, ⟨h1496_, ⟨h1497_, ⟨h1498_, ⟨h1499_, ⟨h1500_, ⟨h1501_, ⟨h1502_, ⟨h1503_, ⟨h1504_, ⟨h1505_, ⟨h1506_, ⟨h1507_, ⟨h1508_, -⟩⟩⟩⟩⟩⟩⟩⟩⟩⟩⟩⟩⟩⟩⟩⟩ := (h1314_ h1476_)
    refine ⟨h1477_, ?_⟩
    refine ⟨la_unary_176, ?_⟩
    refine ⟨la_unary_177, ?_⟩
    refine ⟨(sm_ci_12 (la_unary_178 (sm_KC_n h29_).2.1.1 h33_ h34_ h1483_ h1484_ h1486_ h1487_ h1488_ h1500_ h1501_ h1503_ h1504_ h1505_ (sm_dl_12 : sm_dl 12 0 = (-1)) (sm_nt_12 : sm_nt 12 (g128 1046 0) (g128 1100023 (g128 1046 0)) (g128 1100023 (g128 1100023 (g128 1046 0))) = g128 1100023 (g128 1046 0)) (sm_nl_12 : sm_nl 12 (g128 1046 0) (g128 1100007 (g128 1046 0)) (g128 1100025 (g128 1046 0)) (g128 1100007 (g128 1100025 (g128 1046 0))) (g128 1100025 (g128 1100025 (g128 1046 0))) = g128 1100025 (g128 1046 0)))), ?_⟩
    refine ⟨la_unary_179, ?_⟩
    intro h1509_
    have h1510_ := (h1509_.resolve_left la_unary_180)
    have h1511_ := (h33_ (la_unary_182 h1510_))
    have h1512_ := (h34_ (la_unary_182 h1510_))
    have h1513_ := (h1256_ (la_unary_183 h1510_))
    have h1514_ := (h1266_ (la_unary_184 h1510_))
    have h1515_ := (h1267_ (la_unary_183 h1510_))
    have h1516_ := (h1255_ (la_unary_184 h1510_))
    have e1517_ : S 1100001 (S 12 (5 * p2 + 1)) = S 1100001 (S 12 (5 * p2)) := congrArg ((S 1100001)) (la_unary_185 h1510_)
    have e1518_ : S 1100001 p2 = S 1100001 (S 12 (5 * p2)) := congrArg ((S 1100001)) (la_unary_185 h1510_)
    have e1519_ : S 1100001 p2 = S 1100001 (S 12 (5 * p2 + 1)) := congrArg ((S 1100001)) (la_unary_185 h1510_)
    have e1520_ : S 1100002 (S 12 (5 * p2 + 0)) = S 1100002 (S 12 (5 * p2)) := congrArg ((S 1100002)) (la_unary_185 h1510_)
    have e1521_ : S 1100002 (S 12 (5 * p2 + 1)) = S 1100002 (S 12 (5 * p2)) := congrArg ((S 1100002)) (la_unary_185 h1510_)
    have e1522_ : S 1100002 (S 12 (5 * p2 + 1)) = S 1100002 (S 12 (5 * p2 + 0)) := congrArg ((S 1100002)) (la_unary_185 h1510_)
    have e1523_ : S 1100002 p2 = S 1100002 (S 12 (5 * p2)) := congrArg ((S 1100002)) (la_unary_185 h1510_)
    have e1524_ : S 1100002 p2 = S 1100002 (S 12 (5 * p2 + 0)) := congrArg ((S 1100002)) (la_unary_185 h1510_)
    have e1525_ : S 1100002 p2 = S 1100002 (S 12 (5 * p2 + 1)) := congrArg ((S 1100002)) (la_unary_185 h1510_)
    have e1526_ : S 1100005 (S 12 (5 * p2 + 0)) = S 1100005 (S 12 (5 * p2)) := congrArg ((S 1100005)) (la_unary_185 h1510_)
    have e1527_ : S 1100005 (S 12 (5 * p2 + 1)) = S 1100005 (S 12 (5 * p2)) := congrArg ((S 1100005)) (la_unary_185 h1510_)
    have e1528_ : S 1100005 (S 12 (5 * p2 + 1)) = S 1100005 (S 12 (5 * p2 + 0)) := congrArg ((S 1100005)) (la_unary_185 h1510_)
    have e1529_ : S 1100005 p2 = S 1100005 (S 12 (5 * p2)) := congrArg ((S 1100005)) (la_unary_185 h1510_)
    have e1530_ : S 1100005 p2 = S 1100005 (S 12 (5 * p2 + 0)) := congrArg ((S 1100005)) (la_unary_185 h1510_)
    have e1531_ : S 1100005 p2 = S 1100005 (S 12 (5 * p2 + 1)) := congrArg ((S 1100005)) (la_unary_185 h1510_)
    have e1532_ : S 1100007 (S 1100023 (S 1046 0)) = S 1100007 (S 1046 0) := congrArg ((S 1100007)) (la_unary_185 h1510_)
    have e1533_ : S 1100007 (S 1100025 (S 1046 0)) = S 1100007 (S 1046 0) := congrArg ((S 1100007)) (la_unary_185 h1510_)
    have e1534_ : S 1100007 (S 1100025 (S 1046 0)) = S 1100007 (S 1100023 (S 1046 0)) := congrArg ((S 1100007)) (la_unary_185 h1510_)
    have e1535_ : S 1100007 (g119 1046 0) = S 1100007 (S 1046 0) := congrArg ((S 1100007)) (la_unary_185 h1510_)
    have e1536_ : S 1100007 (g119 1046 0) = S 1100007 (S 1100023 (S 1046 0)) := congrArg ((S 1100007)) (la_unary_185 h1510_)
    have e1537_ : S 1100007 (g119 1046 0) = S 1100007 (S 1100025 (S 1046 0)) := congrArg ((S 1100007)) (la_unary_185 h1510_)
    have e1538_ : S 1100007 (g119 1100023 (g119 1046 0)) = S 1100007 (S 1046 0) := congrArg ((S 1100007)) (la_unary_185 h1510_)
    have e1539_ : S 1100007 (g119 1100023 (g119 1046 0)) = S 1100007 (S 1100023 (S 1046 0)) := congrArg ((S 1100007)) h1501_
    have e1540_ : S 1100007 (g119 1100023 (g119 1046 0)) = S 1100007 (S 1100025 (S 1046 0)) := congrArg ((S 1100007)) (la_unary_185 h1510_)
    have e1541_ : S 1100007 (g119 1100023 (g119 1046 0)) = S 1100007 (g119 1046 0) := congrArg ((S 1100007)) (la_unary_185 h1510_)
    have e1542_ : S 1100007 (g119 1100025 (g119 1046 0)) = S 1100007 (S 1046 0) := congrArg ((S 1100007)) (la_unary_185 h1510_)
    have e1543_ : S 1100007 (g119 1100025 (g119 1046 0)) = S 1100007 (S 1100023 (S 1046 0)) := congrArg ((S 1100007)) (la_unary_185 h1510_)
    have e1544_ : S 1100007 (g119 1100025 (g119 1046 0)) = S 1100007 (S 1100025 (S 1046 0)) := congrArg ((S 1100007)) h1503_
    have e1545_ : S 1100007 (g119 1100025 (g119 1046 0)) = S 1100007 (g119 1046 0) := congrArg ((S 1100007)) (la_unary_185 h1510_)
    have e1546_ : S 1100007 (g119 1100025 (g119 1046 0)) = S 1100007 (g119 1100023 (g119 1046 0)) := congrArg ((S 1100007)) (la_unary_185 h1510_)
    have e1547_ : S 1100007 (g128 1046 0) = S 1100007 (S 1046 0) := congrArg ((S 1100007)) (la_unary_185 h1510_)
    have e1548_ : S 1100007 (g128 1046 0) = S 1100007 (S 1100023 (S 1046 0)) := congrArg ((S 1100007)) (la_unary_185 h1510_)
    have e1549_ : S 1100007 (g128 1046 0) = S 1100007 (S 1100025 (S 1046 0)) := congrArg ((S 1100007)) (la_unary_185 h1510_)
    have e1550_ : S 1100007 (g128 1046 0) = S 1100007 (g119 1046 0) := congrArg ((S 1100007)) (la_unary_185 h1510_)
    have e1551_ : S 1100007 (g128 1046 0) = S 1100007 (g119 1100023 (g119 1046 0)) := congrArg ((S 1100007)) (la_unary_185 h1510_)
    have e1552_ : S 1100007 (g128 1046 0) = S 1100007 (g119 1100025 (g119 1046 0)) := congrArg ((S 1100007)) (la_unary_185 h1510_)
    have e1553_ : S 1100007 (g128 1100023 (g128 1046 0)) = S 1100007 (S 1046 0) := congrArg ((S 1100007)) (la_unary_185 h1510_)
    have e1554_ : S 1100007 (g128 1100023 (g128 1046 0)) = S 1100007 (S 1100023 (S 1046 0)) := congrArg ((S 1100007)) (la_unary_185 h1510_)
    have e1555_ : S 1100007 (g128 1100023 (g128 1046 0)) = S 1100007 (S 1100025 (S 1046 0)) := congrArg ((S 1100007)) (la_unary_185 h1510_)
    have e1556_ : S 1100007 (g128 1100023 (g128 1046 0)) = S 1100007 (g119 1046 0) := congrArg ((S 1100007)) (la_unary_185 h1510_)
    have e1557_ : S 1100007 (g128 1100023 (g128 1046 0)) = S 1100007 (g119 1100023 (g119 1046 0)) := congrArg ((S 1100007)) h1484_
    have e1558_ : S 1100007 (g128 1100023 (g128 1046 0)) = S 1100007 (g119 1100025 (g119 1046 0)) := congrArg ((S 1100007)) (la_unary_185 h1510_)
    have e1559_ : S 1100007 (g128 1100023 (g128 1046 0)) = S 1100007 (g128 1046 0) := congrArg ((S 1100007)) (la_unary_185 h1510_)
    have e1560_ : S 1100007 (g128 1100025 (g128 1046 0)) = S 1100007 (S 1046 0) := congrArg ((S 1100007)) (la_unary_185 h1510_)
    have e1561_ : S 1100007 (g128 1100025 (g128 1046 0)) = S 1100007 (S 1100023 (S 1046 0)) := congrArg ((S 1100007)) (la_unary_185 h1510_)
    have e1562_ : S 1100007 (g128 1100025 (g128 1046 0)) = S 1100007 (S 1100025 (S 1046 0)) := congrArg ((S 1100007)) (la_unary_185 h1510_)
    have e1563_ : S 1100007 (g128 1100025 (g128 1046 0)) = S 1100007 (g119 1046 0) := congrArg ((S 1100007)) (la_unary_185 h1510_)
    have e1564_ : S 1100007 (g128 1100025 (g128 1046 0)) = S 1100007 (g119 1100023 (g119 1046 0)) := congrArg ((S 1100007)) (la_unary_185 h1510_)
    have e1565_ : S 1100007 (g128 1100025 (g128 1046 0)) = S 1100007 (g119 1100025 (g119 1046 0)) := congrArg ((S 1100007)) h1486_
    have e1566_ : S 1100007 (g128 1100025 (g128 1046 0)) = S 1100007 (g128 1046 0) := congrArg ((S 1100007)) (la_unary_185 h1510_)
    have e1567_ : S 1100007 (g128 1100025 (g128 1046 0)) = S 1100007 (g128 1100023 (g128 1046 0)) := congrArg ((S 1100007)) (la_unary_185 h1510_)
    have e1568_ : S 1100023 (g119 1046 0) = S 1100023 (S 1046 0) := congrArg ((S 1100023)) (la_unary_185 h1510_)
    have e1569_ : S 1100023 (g128 1046 0) = S 1100023 (S 1046 0) := congrArg ((S 1100023)) (la_unary_185 h1510_)
    have e1570_ : S 1100023 (g128 1046 0) = S 1100023 (g119 1046 0) := congrArg ((S 1100023)) (la_unary_185 h1510_)
    have e1571_ : S 1100024 (g119 1046 0) = S 1100024 (S 1046 0) := congrArg ((S 1100024)) (la_unary_185 h1510_)
    have e1572_ : S 1100024 (g128 1046 0) = S 1100024 (S 1046 0) := congrArg ((S 1100024)) (la_unary_185 h1510_)
    have e1573_ : S 1100024 (g128 1046 0) = S 1100024 (g119 1046 0) := congrArg ((S 1100024)) (la_unary_185 h1510_)
    have e1574_ : S 1100025 (g119 1046 0) = S 1100025 (S 1046 0) := congrArg ((S 1100025)) (la_unary_185 h1510_)
    have e1575_ : S 1100025 (g128 1046 0) = S 1100025 (S 1046 0) := congrArg ((S 1100025)) (la_unary_185 h1510_)
    have e1576_ : S 1100025 (g128 1046 0) = S 1100025 (g119 1046 0) := congrArg ((S 1100025)) (la_unary_185 h1510_)
    have e1577_ : S 12 (5 * S 12 (5 * p2) + 1) = S 12 (5 * p2) := congrArg ((S 12)) (la_unary_186 h1510_)
    have e1578_ : S 12 (5 * S 12 (5 * p2 + 1) + 1) = S 12 (5 * p2) := congrArg ((S 12)) (la_unary_186 h1510_)
    have e1579_ : S 12 (5 * S 12 (5 * p2 + 1) + 1) = S 12 (5 * S 12 (5 * p2) + 1) := congrArg ((S 12)) (la_unary_187 h1510_)
    have e1580_ : S 12 (5 * p2 + 0) = S 12 (5 * p2) := congrArg ((S 12)) la_unary_122
    have e1581_ : S 12 (5 * p2 + 0) = S 12 (5 * S 12 (5 * p2) + 1) := congrArg ((S 12)) (la_unary_188 h1510_)
    have e1582_ : S 12 (5 * p2 + 0) = S 12 (5 * S 12 (5 * p2 + 1) + 1) := congrArg ((S 12)) (la_unary_188 h1510_)
    have e1583_ : S 12 (5 * p2 + 1) = S 12 (5 * p2) := congrArg ((S 12)) (la_unary_189 h1510_)
    have e1584_ : S 12 (5 * p2 + 1) = S 12 (5 * S 12 (5 * p2) + 1) := congrArg ((S 12)) (la_unary_187 h1510_)
    have e1585_ : S 12 (5 * p2 + 1) = S 12 (5 * S 12 (5 * p2 + 1) + 1) := congrArg ((S 12)) (la_unary_187 h1510_)
    have e1586_ : S 12 (5 * p2 + 1) = S 12 (5 * p2 + 0) := congrArg ((S 12)) (la_unary_190 h1510_)
    have e1587_ : g119 1100007 (g119 1100023 (g119 1046 0)) = g119 1100007 (g119 1046 0) := congrArg ((g119 1100007)) (la_unary_185 h1510_)
    have e1588_ : g119 1100007 (g119 1100025 (g119 1046 0)) = g119 1100007 (g119 1046 0) := congrArg ((g119 1100007)) (la_unary_185 h1510_)
    have e1589_ : g119 1100007 (g119 1100025 (g119 1046 0)) = g119 1100007 (g119 1100023 (g119 1046 0)) := congrArg ((g119 1100007)) (la_unary_185 h1510_)
    have e1590_ : g119 1100007 (g128 1046 0) = g119 1100007 (g119 1046 0) := congrArg ((g119 1100007)) (la_unary_185 h1510_)
    have e1591_ : g119 1100007 (g128 1046 0) = g119 1100007 (g119 1100023 (g119 1046 0)) := congrArg ((g119 1100007)) (la_unary_185 h1510_)
    have e1592_ : g119 1100007 (g128 1046 0) = g119 1100007 (g119 1100025 (g119 1046 0)) := congrArg ((g119 1100007)) (la_unary_185 h1510_)
    have e1593_ : g119 1100007 (g128 1100023 (g128 1046 0)) = g119 1100007 (g119 1046 0) := congrArg ((g119 1100007)) (la_unary_185 h1510_)
    have e1594_ : g119 1100007 (g128 1100023 (g128 1046 0)) = g119 1100007 (g119 1100023 (g119 1046 0)) := congrArg ((g119 1100007)) h1484_
    have e1595_ : g119 1100007 (g128 1100023 (g128 1046 0)) = g119 1100007 (g119 1100025 (g119 1046 0)) := congrArg ((g119 1100007)) (la_unary_185 h1510_)
    have e1596_ : g119 1100007 (g128 1100023 (g128 1046 0)) = g119 1100007 (g128 1046 0) := congrArg ((g119 1100007)) (la_unary_185 h1510_)
    have e1597_ : g119 1100007 (g128 1100025 (g128 1046 0)) = g119 1100007 (g119 1046 0) := congrArg ((g119 1100007)) (la_unary_185 h1510_)
    have e1598_ : g119 1100007 (g128 1100025 (g128 1046 0)) = g119 1100007 (g119 1100023 (g119 1046 0)) := congrArg ((g119 1100007)) (la_unary_185 h1510_)
    have e1599_ : g119 1100007 (g128 1100025 (g128 1046 0)) = g119 1100007 (g119 1100025 (g119 1046 0)) := congrArg ((g119 1100007)) h1486_
    have e1600_ : g119 1100007 (g128 1100025 (g128 1046 0)) = g119 1100007 (g128 1046 0) := congrArg ((g119 1100007)) (la_unary_185 h1510_)
    have e1601_ : g119 1100007 (g128 1100025 (g128 1046 0)) = g119 1100007 (g128 1100023 (g128 1046 0)) := congrArg ((g119 1100007)) (la_unary_185 h1510_)
    have e1602_ : g119 1100023 (g128 1046 0) = g119 1100023 (g119 1046 0) := congrArg ((g119 1100023)) (la_unary_185 h1510_)
    have e1603_ : g119 1100024 (g128 1046 0) = g119 1100024 (g119 1046 0) := congrArg ((g119 1100024)) (la_unary_185 h1510_)
    have e1604_ : g119 1100025 (g128 1046 0) = g119 1100025 (g119 1046 0) := congrArg ((g119 1100025)) (la_unary_185 h1510_)
    have e1605_ : g128 1100007 (g128 1100023 (g128 1046 0)) = g128 1100007 (g128 1046 0) := congrArg ((g128 1100007)) (la_unary_185 h1510_)
    have e1606_ : g128 1100007 (g128 1100025 (g128 1046 0)) = g128 1100007 (g128 1046 0) := congrArg ((g128 1100007)) (la_unary_185 h1510_)
    have e1607_ : g128 1100007 (g128 1100025 (g128 1046 0)) = g128 1100007 (g128 1100023 (g128 1046 0)) := congrArg ((g128 1100007)) (la_unary_185 h1510_)
    have e1608_ : g128 1100023 (g128 1100023 (g128 1046 0)) = g128 1100023 (g128 1046 0) := congrArg ((g128 1100023)) (la_unary_185 h1510_)
    have e1609_ : g128 1100025 (g128 1100025 (g128 1046 0)) = g128 1100025 (g128 1046 0) := congrArg ((g128 1100025)) (la_unary_185 h1510_)
    have e1610_ : S 1100023 (g128 1100023 (g128 1046 0)) = S 1100023 (S 1046 0) := congrArg ((S 1100023)) (la_unary_185 h1510_)
    have e1611_ : S 1100023 (g128 1100023 (g128 1046 0)) = S 1100023 (g119 1046 0) := congrArg ((S 1100023)) (la_unary_185 h1510_)
    have e1612_ : S 1100023 (g128 1100023 (g128 1046 0)) = S 1100023 (g128 1046 0) := congrArg ((S 1100023)) (la_unary_185 h1510_)
    have e1613_ : S 1100025 (g128 1100025 (g128 1046 0)) = S 1100025 (S 1046 0) := congrArg ((S 1100025)) (la_unary_185 h1510_)
    have e1614_ : S 1100025 (g128 1100025 (g128 1046 0)) = S 1100025 (g119 1046 0) := congrArg ((S 1100025)) (la_unary_185 h1510_)
    have e1615_ : S 1100025 (g128 1100025 (g128 1046 0)) = S 1100025 (g128 1046 0) := congrArg ((S 1100025)) (la_unary_185 h1510_)
    have e1616_ : g119 1100023 (g128 1100023 (g128 1046 0)) = g119 1100023 (g119 1046 0) := congrArg ((g119 1100023)) (la_unary_185 h1510_)
    have e1617_ : g119 1100023 (g128 1100023 (g128 1046 0)) = g119 1100023 (g128 1046 0) := congrArg ((g119 1100023)) (la_unary_185 h1510_)
    have e1618_ : g119 1100025 (g128 1100025 (g128 1046 0)) = g119 1100025 (g119 1046 0) := congrArg ((g119 1100025)) (la_unary_185 h1510_)
    have e1619_ : g119 1100025 (g128 1100025 (g128 1046 0)) = g119 1100025 (g128 1046 0) := congrArg ((g119 1100025)) (la_unary_185 h1510_)
    exact ((la_unary_191 h1510_)).elim
  refine ⟨(la_unary_22 h16_ h45_), ?_⟩
  intro g135
  rintro ⟨h1620_, ⟨h1621_, ⟨h1622_, ⟨h1623_, ⟨h1624_, ⟨h1625_, ⟨h1626_, ⟨h1627_, ⟨h1628_, ⟨h1629_, ⟨h1630_, ⟨h1631_, ⟨h1632_, ⟨h1633_, ⟨h1634_, ⟨h1635_, h1636_⟩⟩⟩⟩⟩⟩⟩⟩⟩⟩⟩⟩⟩⟩⟩⟩
  refine ⟨(la_unary_23 h1622_), ?_⟩
  refine ⟨h1625_, ?_⟩
  refine ⟨h1620_, ?_⟩
  refine ⟨h1621_, ?_⟩
  refine ⟨h1450_, ?_⟩
  refine ⟨h1451_, ?_⟩
  refine ⟨(la_unary_39 h1293_ h1452_ h1623_), ?_⟩
  refine ⟨(la_unary_40 h28_ h1621_), ?_⟩
  refine ⟨(sm_F1_tr (sm_F1_tr (sm_F1_le h1295_ (Int.le_refl _)) h1454_ h1293_) h1628_ (la_unary_41 h1293_ h1452_)), ?_⟩
  refine ⟨(sm_F1_tr (sm_F1_tr (sm_F1_le h1296_ (Int.le_refl _)) h1455_ h1293_) h1629_ (la_unary_41 h1293_ h1452_)), ?_⟩
  refine ⟨(sm_F1_tr (sm_F1_tr (sm_F1_le h1297_ (Int.le_refl _)) h1456_ h1293_) h1630_ (la_unary_41 h1293_ h1452_)), ?_⟩
  refine ⟨(sm_F1_tr (sm_F1_tr (sm_F1_le h1298_ (Int.le_refl _)) h1457_ h1293_) h1631_ (la_unary_41 h1293_ h1452_)), ?_⟩
  refine ⟨(sm_F1_tr (sm_F1_tr (sm_F1_le h1299_ (Int.le_refl _)) h1458_ (la_unary_43 h1293_)) h1632_ (la_unary_42 h1293_ h1452_)), ?_⟩
  refine ⟨(sm_F1_tr (sm_F1_tr (sm_F1_le h1300_ (Int.le_refl _)) h1459_ (la_unary_43 h1293_)) h1633_ (la_unary_42 h1293_ h1452_)), ?_⟩
  refine ⟨(sm_F1_tr (sm_F1_tr (sm_F1_le h1301_ (Int.le_refl _)) h1460_ (la_unary_43 h1293_)) h1634_ (la_unary_42 h1293_ h1452_)), ?_⟩
  refine ⟨(sm_F1_tr (sm_F1_tr (sm_F1_le h1302_ (Int.le_refl _)) h1461_ (la_unary_43 h1293_)) h1635_ (la_unary_42 h1293_ h1452_)), ?_⟩
  refine ⟨(sm_F1_tr (sm_F1_le h1303_ (Int.le_refl _)) h1462_ h1309_), ?_⟩
  refine ⟨(sm_F1_tr (sm_F1_le h1304_ (Int.le_refl _)) h1463_ h1309_), ?_⟩
  refine ⟨(sm_F1_tr (sm_F1_le h1305_ (Int.le_refl _)) h1464_ h1309_), ?_⟩
  refine ⟨(sm_F1_tr (sm_F1_le h1306_ (Int.le_refl _)) h1465_ h1309_), ?_⟩
  refine ⟨(sm_F1_tr (sm_F1_le h1307_ (Int.le_refl _)) h1466_ h1309_), ?_⟩
  refine ⟨(sm_F1_tr (sm_F1_le h1308_ (Int.le_refl _)) h1467_ h1309_), ?_⟩
  refine ⟨(la_unary_41 h1309_ h1468_), ?_⟩
  refine ⟨(la_unary_101 h1310_ h1469_), ?_⟩
  refine ⟨(sm_F1_tr (sm_F1_le h1311_ (Int.le_refl _)) h1470_ (la_unary_192 h1310_)), ?_⟩
  refine ⟨(la_unary_193 h28_), ?_⟩
  refine ⟨?_, ?_⟩
  · skip
    intro h1637_
    have e1638_ : S 12 (5 * p2 + 0) = S 12 (5 * p2) := congrArg ((S 12)) la_unary_122
    have e1639_ : S 1100002 (S 12 (5 * p2 + 0)) = S 1100002 (S 12 (5 * p2)) := congrArg ((S 1100002)) e1638_
    have e1640_ : S 1100005 (S 12 (5 * p2 + 0)) = S 1100005 (S 12 (5 * p2)) := congrArg ((S 1100005)) e1638_
    by_cases c1641_ : g119 1047 0 = 1
    · skip
      have h1642_ := (h1453_ c1641_)
      have h1643_ := (h1471_ c1641_)
      have h1644_ := (h1626_ h1642_)
      have h1645_ := (h1627_ h1644_)
      exact (la_unary_195 (sm_ex_e h1243_).2.2.2.1 h1270_ h1315_ h1643_)
    · skip
      obtain ⟨h1646_, ⟨h1647_, ⟨h1648_, ⟨h1649_, ⟨h1650_, ⟨h1651_, ⟨h1652_, ⟨h1653_, ⟨h1654_, ⟨h1655_, ⟨h1656_, ⟨h1657_, ⟨h1658_, ⟨h1659_, ⟨h1660_, ⟨h1661_, -⟩⟩⟩⟩⟩⟩⟩⟩⟩⟩⟩⟩⟩⟩⟩⟩ := (h1314_ (la_unary_196 h1289_ (la_unary_24 h1290_ c1641_)))
      have h1662_ := (h1472_ (la_unary_196 h1289_ (la_unary_24 h1290_ c1641_)))
      exact (la_unary_197 (sm_ex_e h1245_).2.2.2.1 h1661_ h1662_)
  intro h1663_
  have h1664_ : ¬ (g128 1047 0 = 1) := fun q_ => (la_unary_7 h1663_) (h1626_ q_)
  obtain ⟨h1665_, ⟨h1666_, ⟨h1667_, ⟨h1668_, ⟨h1669_, ⟨h1670_, ⟨h1671_, ⟨h1672_, ⟨h1673_, ⟨h1674_, ⟨h1675_, ⟨h1676_, ⟨h1677_, h1678_⟩⟩⟩⟩⟩⟩⟩⟩⟩⟩⟩⟩⟩ := (h1636_ h1663_)
  have h1679_ : ¬ (g119 1047 0 = 1) := fun q_ => h1664_ (h1453_ q_)
  have h1680_ := (h1678_ la_unary_198)
  obtain ⟨h1681_, ⟨h1682_, ⟨h1683_, ⟨h1684_, ⟨h1685_, ⟨h1686_, ⟨h1687_, ⟨h1688_, ⟨h1689_, ⟨h1690_, ⟨h1691_, ⟨h1692_, ⟨h1693_, ⟨h1694_, ⟨h1695_, ⟨h1696_, -⟩⟩⟩⟩⟩⟩⟩⟩⟩⟩⟩⟩⟩⟩⟩⟩ := (h1473_ h1665_)
  have h1697_ := (h1472_ h1681_)
  have h1698_ := (h1680_ la_unary_200)
  obtain ⟨h1699_, ⟨h1700_, ⟨h1701_, ⟨h1702_, ⟨h1703_, ⟨h1704_, ⟨h1705_, ⟨h1706_, ⟨h1707_, ⟨h1708_, ⟨h1709_, ⟨h1710_, ⟨h1711_, ⟨h1712_, ⟨h1713_, ⟨h1714_, -⟩⟩⟩⟩⟩⟩⟩⟩⟩⟩⟩⟩⟩⟩⟩⟩ := (h1314_ h1681_)
  refine ⟨h28_, ?_⟩
  refine ⟨h1667_, ?_⟩
  refine ⟨h1683_, ?_⟩
  refine ⟨h1684_, ?_⟩
  refine ⟨(la_unary_98 h1666_ h1685_), ?_⟩
  refine ⟨(la_unary_201 h1666_ h1686_ h1704_), ?_⟩
  refine ⟨(sm_FC_s (sm_FC_F h1705_ (sm_F1_tr (sm_F1_le h1457_ (Int.le_refl _)) h1631_ h1452_) (Int.le_refl _) (Int.le_refl _) (Int.le_refl _) rfl) (sm_FC_s (sm_FC_F h1687_ (sm_F1_le h1631_ (Int.le_refl _)) (Int.le_refl _) (Int.le_refl _) (Int.le_refl _) rfl) (sm_FC_1 h1670_ (sm_FC_0 h1624_)))), ?_⟩
  refine ⟨(la_unary_203 h1671_ (sm_dl_12 : sm_dl 12 0 = (-1)) h1688_ h1706_), ?_⟩
  refine ⟨(la_unary_110 h1672_ (sm_nt_12 : sm_nt 12 (g128 1046 0) (g128 1100023 (g128 1046 0)) (g128 1100023 (g128 1100023 (g128 1046 0))) = g128 1100023 (g128 1046 0)) h1689_ h1707_), ?_⟩
  refine ⟨(la_unary_110 h1673_ (sm_nd_12 : sm_nd 12 (g128 1100024 (g128 1046 0)) = g128 1100024 (g128 1046 0)) h1690_ h1708_), ?_⟩
  refine ⟨(la_unary_110 h1674_ (sm_nl_12 : sm_nl 12 (g128 1046 0) (g128 1100007 (g128 1046 0)) (g128 1100025 (g128 1046 0)) (g128 1100007 (g128 1100025 (g128 1046 0))) (g128 1100025 (g128 1100025 (g128 1046 0))) = g128 1100025 (g128 1046 0)) h1691_ h1709_), ?_⟩
  refine ⟨(la_unary_110 h1675_ (sm_nt_12 : sm_nt 12 (g128 1100007 (g128 1046 0)) (g128 1100007 (g128 1100023 (g128 1046 0))) (g128 1100007 (g128 1100023 (g128 1100023 (g128 1046 0)))) = g128 1100007 (g128 1100023 (g128 1046 0))) h1692_ h1710_), ?_⟩
  refine ⟨(la_unary_204 h1693_ h1698_ h1711_), ?_⟩
  refine ⟨(sm_AP_s (sm_AP_F h1712_ (sm_F1_le h1466_ (Int.le_refl _)) (Int.le_refl _) (Int.le_refl _) (Int.le_refl _)) (sm_AP_F h1694_ sm_F1_rf (Int.le_refl _) (Int.le_refl _) (Int.le_refl _))), ?_⟩
  refine ⟨(sm_HB_1 (by rw [((sm_F1_at h1632_ (S 1046 0) (la_unary_205 h1686_ h1704_)).trans ((sm_F1_at h1458_ (S 1046 0) (la_unary_68 h1704_)).trans ((sm_F1_at h1299_ (S 1046 0) la_unary_69).trans rfl)))]; exact (la_unary_206 h48_ h1666_ h1686_ h1704_)) (sm_HB_s (sm_HB_F h1713_ (sm_F1_tr (sm_F1_le h1458_ la_unary_73) h1632_ (la_unary_209 h1686_)) (Int.le_refl _) la_unary_73 (Int.le_refl _) (la_unary_208 (sm_ex_e h1243_).2.2.2.2 h1269_ h1666_ h1686_)) (sm_HB_1 (by rw [((sm_F1_at h1632_ (g119 1046 0) (la_unary_68 h1686_)).trans ((sm_F1_at h1458_ (g119 1046 0) la_unary_69).trans rfl))]; exact (la_unary_210 h48_ h1666_ h1686_ h1704_ h1706_)) (sm_HB_s (sm_HB_F h1695_ (sm_F1_le h1632_ la_unary_73) (Int.le_refl _) la_unary_73 (Int.le_refl _) (la_unary_211 (sm_ex_e h1245_).2.2.2.2 h1666_ h1704_ h1706_)) (sm_HB_1 (by rw [((sm_F1_at h1632_ (g128 1046 0) la_unary_69).trans rfl)]; exact (la_unary_212 h48_ h1666_ h1686_ h1688_ h1704_ h1706_)) (sm_HB_0 h1624_)))))), ?_⟩
  refine ⟨(la_unary_213 h1666_ h1696_ h1714_), ?_⟩
  exact trivial
set_option maxRecDepth 8000 in
set_option maxHeartbeats 2000000 in
theorem s_unary (d : Int) (h0 : 0 ≤ d) (IH : ∀ d' : Int, 0 ≤ d' → d' < d → P_K d') : T_unary d := by
  intro p1 p2 S hok hp1 hp2 hpre hd
  have h := f_unary d p1 p2 S hok hp1 hp2 hpre hd
  have hM := sm_h102
  show sv_T sm_XS sm_cs sm_L sm_sh ((S 1100002 p2) + (600 - (S 1046 0)) + 9).toNat (q_unary p1 p2 S) 102 0 [(0, .ref 0), (1, sv_I p1), (2, sv_I p2)] [] S
  have k1 : (sm_WF (S 11) (S 12) (S 13) (S 1100001) (S 1100002) (S 1100005) (S 1100003) (S 1100004) (S 1024 0) (S 1007 0) (S 1009 0) (sm_fn (S 1032 0) (S 21) (S 1056 0)) → 0 ≤ p2 → p2 < (S 1024 0) → ((S 1100001 (p2)) = 1 → 0 ≤ (S 1100002 (p2)) ∧ ((S 11 (p2)) = 3 → (S 12 (5 * (p2) + 1)) < (p2)) ∧ ((S 11 (p2)) = 4 ∨ (S 11 (p2)) = 5 ∨ (S 11 (p2)) = 8 ∨ (S 11 (p2)) = 9 → 17 * (S 1100005 (p2)) + 2 ≤ (S 1100002 (p2))) ∧ 0 ≤ (S 1100005 (p2))) ∧ ((S 1100001 (p2)) = 2 → 0 ≤ (S 1100005 (p2)) ∧ (S 1100002 (p2)) ≤ 17 * (S 1100005 (p2)) + 5 ∧ ((S 11 (p2)) = 33 → 1 ≤ (S 1100005 (p2)))) ∧ ((S 1100001 (p2)) = 6 → 0 ≤ (S 1100002 (p2)) ∧ 1 ≤ (S 1100004 (p2)) ∧ ((S 12 (5 * (p2))) = - 1 → (S 1100004 (p2)) = 2)) ∧ ((S 1100001 (p2)) = 3 → 1 ≤ (S 1100002 (p2)))) := fun h a0 a1 => sm_gx h _ a0 a1
  have h := h k1
  refine sv_iload_n hM dX12_unary_0 rfl rfl ?_
  refine sv_bipush (d := (6 : Int)) hM dX12_unary_1 rfl rfl ?_
  refine sv_icmp_ne hM dX12_unary_3 hp1 (⟨by decide, by decide⟩ : sv_R (6 : Int)) (t := 35) rfl rfl (fun hc => ?_) (fun hc => ?_)
  · have h := h.1 (hc)
    refine sv_iload_n hM dX12_unary_35 rfl rfl ?_
    refine sv_iconst (d := (4 : Int)) hM dX12_unary_36 rfl rfl ?_
    refine sv_icmp_ne hM dX12_unary_37 hp1 (⟨by decide, by decide⟩ : sv_R (4 : Int)) (t := 97) rfl rfl (fun hc => ?_) (fun hc => ?_)
    · have h := h.1 (hc)
      refine sv_aload_n hM dX12_unary_97 rfl rfl ?_
      refine sv_iload_n hM dX12_unary_98 rfl rfl ?_
      obtain ⟨o2, h⟩ := h
      obtain ⟨o3, h⟩ := h
      obtain ⟨o4, h⟩ := h
      refine sv_callV hM dX12_unary_99 sm_iv_668 (by decide) (sm_a0 _) rfl rfl (Nat.le_of_ble_eq_true rfl) sm_h96 (Nat.le_of_ble_eq_true rfl) (Nat.le_of_ble_eq_true rfl) (F' := (((if (S 1047 0) = 0 then (S 1100002 p2) + (600 - (S 1046 0)) + 8 else 4))).toNat) (sv_Fe o4) rfl ((IH ((if (S 1047 0) = 0 then (S 1100002 p2) + (600 - (S 1046 0)) + 8 else 4)) o3.1 o3.2).1 p2 S hok hp2 o2 rfl) (fun v S1 hq => ?_)
      obtain ⟨rfl, ok6, md7, hpo8⟩ := hq
      obtain ⟨g5, rfl⟩ : ∃ g, S1 = sv_sts S [26, 27, 28, 29, 1046, 1047, 1100007, 1100023, 1100024, 1100025, 1053, 31, 1100030, 1100009, 1100027, 1100028, 1100026, 1055, 1100033, 39, 1066] g := ⟨_, md7.eq⟩
      show sv_T sm_XS sm_cs sm_L sm_sh ((S 1100002 p2) + (600 - (S 1046 0)) + 9).toNat (q_unary p1 p2 S) 102 102 [(0, .ref 0), (1, sv_I p1), (2, sv_I p2)] [] (sv_sts S [26, 27, 28, 29, 1046, 1047, 1100007, 1100023, 1100024, 1100025, 1053, 31, 1100030, 1100009, 1100027, 1100028, 1100026, 1055, 1100033, 39, 1066] g5)
      have md9 : sv_mod [26, 27, 28, 29, 1046, 1047, 1100007, 1100023, 1100024, 1100025, 1053, 31, 1100030, 1100009, 1100027, 1100028, 1100026, 1055, 1100033, 39, 1066] S (sv_sts S [26, 27, 28, 29, 1046, 1047, 1100007, 1100023, 1100024, 1100025, 1053, 31, 1100030, 1100009, 1100027, 1100028, 1100026, 1055, 1100033, 39, 1066] g5) := sv_mod.sts sv_mod.rf (by decide)
      have h := h g5 hpo8
      refine sv_iload_n hM dX12_unary_102 rfl rfl ?_
      refine sv_iconst (d := (5 : Int)) hM dX12_unary_103 rfl rfl ?_
      refine sv_icmp_ge hM dX12_unary_104 hp1 (⟨by decide, by decide⟩ : sv_R (5 : Int)) (t := 118) rfl rfl (fun hc => ?_) (fun hc => ?_)
      · have h := h.1 (hc)
        refine sv_aload_n hM dX12_unary_118 rfl rfl ?_
        refine sv_bipush (d := (17 : Int)) hM dX12_unary_119 rfl rfl ?_
        obtain ⟨o10, h⟩ := h
        obtain ⟨o11, h⟩ := h
        refine sv_callV hM dX12_unary_121 sm_iv_666 (by decide) (sm_a0 _) rfl rfl (Nat.le_of_ble_eq_true rfl) sm_h83 (Nat.le_of_ble_eq_true rfl) (Nat.le_of_ble_eq_true rfl) (F' := 1) (sv_Fn (n := 1) o11) rfl (t_emit_ (17 : Int) (sv_sts S [26, 27, 28, 29, 1046, 1047, 1100007, 1100023, 1100024, 1100025, 1053, 31, 1100030, 1100009, 1100027, 1100028, 1100026, 1055, 1100033, 39, 1066] g5) ok6 (⟨by decide, by decide⟩ : sv_R (17 : Int)) o10) (fun v S1 hq => ?_)
        obtain ⟨rfl, ok13, md14, hpo15⟩ := hq
        obtain ⟨g12, rfl⟩ : ∃ g, S1 = sv_sts (sv_sts S [26, 27, 28, 29, 1046, 1047, 1100007, 1100023, 1100024, 1100025, 1053, 31, 1100030, 1100009, 1100027, 1100028, 1100026, 1055, 1100033, 39, 1066] g5) [26, 27, 28, 29, 1046, 1047, 1100007, 1100023, 1100024, 1100025] g := ⟨_, md14.eq⟩
        show sv_T sm_XS sm_cs sm_L sm_sh ((S 1100002 p2) + (600 - (S 1046 0)) + 9).toNat (q_unary p1 p2 S) 102 124 [(0, .ref 0), (1, sv_I p1), (2, sv_I p2)] [] (sv_sts (sv_sts S [26, 27, 28, 29, 1046, 1047, 1100007, 1100023, 1100024, 1100025, 1053, 31, 1100030, 1100009, 1100027, 1100028, 1100026, 1055, 1100033, 39, 1066] g5) [26, 27, 28, 29, 1046, 1047, 1100007, 1100023, 1100024, 1100025] g12)
        have md16 : sv_mod [26, 27, 28, 29, 1046, 1047, 1100007, 1100023, 1100024, 1100025, 1053, 31, 1100030, 1100009, 1100027, 1100028, 1100026, 1055, 1100033, 39, 1066] S (sv_sts (sv_sts S [26, 27, 28, 29, 1046, 1047, 1100007, 1100023, 1100024, 1100025, 1053, 31, 1100030, 1100009, 1100027, 1100028, 1100026, 1055, 1100033, 39, 1066] g5) [26, 27, 28, 29, 1046, 1047, 1100007, 1100023, 1100024, 1100025] g12) := sv_mod.sts md9 (by decide)
        have h := h g12 hpo15
        refine sv_aload_n hM dX12_unary_124 rfl rfl ?_
        refine sv_iconst (d := (0 : Int)) hM dX12_unary_125 rfl rfl ?_
        refine sv_iconst (d := (0 : Int)) hM dX12_unary_126 rfl rfl ?_
        obtain ⟨o17, h⟩ := h
        refine sv_callV hM dX12_unary_127 sm_iv_656 (by decide) (sm_a0 _) rfl rfl (Nat.le_of_ble_eq_true rfl) sm_h90 (Nat.le_of_ble_eq_true rfl) (Nat.le_of_ble_eq_true rfl) (F' := 1) (sv_Fn (n := 1) o11) rfl (t_constant (0 : Int) (0 : Int) (sv_sts (sv_sts S [26, 27, 28, 29, 1046, 1047, 1100007, 1100023, 1100024, 1100025, 1053, 31, 1100030, 1100009, 1100027, 1100028, 1100026, 1055, 1100033, 39, 1066] g5) [26, 27, 28, 29, 1046, 1047, 1100007, 1100023, 1100024, 1100025] g12) ok13 (⟨by decide, by decide⟩ : sv_R (0 : Int)) (⟨by decide, by decide⟩ : sv_R (0 : Int)) o17) (fun v S1 hq => ?_)
        obtain ⟨rfl, ok19, md20, hpo21⟩ := hq
        obtain ⟨g18, rfl⟩ : ∃ g, S1 = sv_sts (sv_sts (sv_sts S [26, 27, 28, 29, 1046, 1047, 1100007, 1100023, 1100024, 1100025, 1053, 31, 1100030, 1100009, 1100027, 1100028, 1100026, 1055, 1100033, 39, 1066] g5) [26, 27, 28, 29, 1046, 1047, 1100007, 1100023, 1100024, 1100025] g12) [26, 27, 28, 29, 1046, 1047, 1100007, 1100023, 1100024, 1100025] g := ⟨_, md20.eq⟩
        show sv_T sm_XS sm_cs sm_L sm_sh ((S 1100002 p2) + (600 - (S 1046 0)) + 9).toNat (q_unary p1 p2 S) 102 130 [(0, .ref 0), (1, sv_I p1), (2, sv_I p2)] [] (sv_sts (sv_sts (sv_sts S [26, 27, 28, 29, 1046, 1047, 1100007, 1100023, 1100024, 1100025, 1053, 31, 1100030, 1100009, 1100027, 1100028, 1100026, 1055, 1100033, 39, 1066] g5) [26, 27, 28, 29, 1046, 1047, 1100007, 1100023, 1100024, 1100025] g12) [26, 27, 28, 29, 1046, 1047, 1100007, 1100023, 1100024, 1100025] g18)
        have md22 : sv_mod [26, 27, 28, 29, 1046, 1047, 1100007, 1100023, 1100024, 1100025, 1053, 31, 1100030, 1100009, 1100027, 1100028, 1100026, 1055, 1100033, 39, 1066] S (sv_sts (sv_sts (sv_sts S [26, 27, 28, 29, 1046, 1047, 1100007, 1100023, 1100024, 1100025, 1053, 31, 1100030, 1100009, 1100027, 1100028, 1100026, 1055, 1100033, 39, 1066] g5) [26, 27, 28, 29, 1046, 1047, 1100007, 1100023, 1100024, 1100025] g12) [26, 27, 28, 29, 1046, 1047, 1100007, 1100023, 1100024, 1100025] g18) := sv_mod.sts md16 (by decide)
        have h := h g18 hpo21
        exact sv_vret hM dX12_unary_130 rfl ⟨rfl, ok19, md22, h⟩
      · have h := h.2 (hc)
        refine sv_aload_n hM dX12_unary_107 rfl rfl ?_
        refine sv_bipush (d := (13 : Int)) hM dX12_unary_108 rfl rfl ?_
        refine sv_iload_n hM dX12_unary_110 rfl rfl ?_
        refine sv_iconst (d := (0 : Int)) hM dX12_unary_111 rfl rfl ?_
        obtain ⟨o23, h⟩ := h
        obtain ⟨o24, h⟩ := h
        refine sv_callV hM dX12_unary_112 sm_iv_615 (by decide) (sm_a0 _) rfl rfl (Nat.le_of_ble_eq_true rfl) sm_h82 (Nat.le_of_ble_eq_true rfl) (Nat.le_of_ble_eq_true rfl) (F' := 0) (sv_Fn (n := 0) o24) rfl (t_emit (13 : Int) p1 (0 : Int) (sv_sts S [26, 27, 28, 29, 1046, 1047, 1100007, 1100023, 1100024, 1100025, 1053, 31, 1100030, 1100009, 1100027, 1100028, 1100026, 1055, 1100033, 39, 1066] g5) ok6 (⟨by decide, by decide⟩ : sv_R (13 : Int)) hp1 (⟨by decide, by decide⟩ : sv_R (0 : Int)) o23) (fun v S1 hq => ?_)
        obtain ⟨rfl, ok26, md27, hpo28⟩ := hq
        obtain ⟨g25, rfl⟩ : ∃ g, S1 = sv_sts (sv_sts S [26, 27, 28, 29, 1046, 1047, 1100007, 1100023, 1100024, 1100025, 1053, 31, 1100030, 1100009, 1100027, 1100028, 1100026, 1055, 1100033, 39, 1066] g5) [26, 27, 28, 29, 1046, 1047, 1100007, 1100023, 1100024, 1100025] g := ⟨_, md27.eq⟩
        show sv_T sm_XS sm_cs sm_L sm_sh ((S 1100002 p2) + (600 - (S 1046 0)) + 9).toNat (q_unary p1 p2 S) 102 115 [(0, .ref 0), (1, sv_I p1), (2, sv_I p2)] [] (sv_sts (sv_sts S [26, 27, 28, 29, 1046, 1047, 1100007, 1100023, 1100024, 1100025, 1053, 31, 1100030, 1100009, 1100027, 1100028, 1100026, 1055, 1100033, 39, 1066] g5) [26, 27, 28, 29, 1046, 1047, 1100007, 1100023, 1100024, 1100025] g25)
        have md29 : sv_mod [26, 27, 28, 29, 1046, 1047, 1100007, 1100023, 1100024, 1100025, 1053, 31, 1100030, 1100009, 1100027, 1100028, 1100026, 1055, 1100033, 39, 1066] S (sv_sts (sv_sts S [26, 27, 28, 29, 1046, 1047, 1100007, 1100023, 1100024, 1100025, 1053, 31, 1100030, 1100009, 1100027, 1100028, 1100026, 1055, 1100033, 39, 1066] g5) [26, 27, 28, 29, 1046, 1047, 1100007, 1100023, 1100024, 1100025] g25) := sv_mod.sts md9 (by decide)
        have h := h g25 hpo28
        refine sv_goto hM dX12_unary_115 (pc' := 130) rfl ?_
        exact sv_vret hM dX12_unary_130 rfl ⟨rfl, ok26, md29, h⟩
    · have h := h.2 (hc)
      refine sv_aload_n hM dX12_unary_40 rfl rfl ?_
      refine sv_getA hM dX12_unary_41 sm_fl_42 (sm_a0 _) sm_k25 rfl ?_
      refine sv_iload_n hM dX12_unary_44 rfl rfl ?_
      obtain ⟨o30, h⟩ := h
      have k31 : sv_R (S 11 p2) := sm_okI hok sm_r11 p2
      have h := h k31
      refine sv_iald hM dX12_unary_45 (sm_a11 _) (by decide) o30.1 o30.2 rfl (x := (S 11 p2)) rfl ?_
      refine sv_iconst (d := (2 : Int)) hM dX12_unary_46 rfl rfl ?_
      refine sv_icmp_ne hM dX12_unary_47 k31 (⟨by decide, by decide⟩ : sv_R (2 : Int)) (t := 97) rfl rfl (fun hc => ?_) (fun hc => ?_)
      · have h := h.1 (hc)
        refine sv_aload_n hM dX12_unary_97 rfl rfl ?_
        refine sv_iload_n hM dX12_unary_98 rfl rfl ?_
        obtain ⟨o32, h⟩ := h
        obtain ⟨o33, h⟩ := h
        obtain ⟨o34, h⟩ := h
        refine sv_callV hM dX12_unary_99 sm_iv_668 (by decide) (sm_a0 _) rfl rfl (Nat.le_of_ble_eq_true rfl) sm_h96 (Nat.le_of_ble_eq_true rfl) (Nat.le_of_ble_eq_true rfl) (F' := (((if (S 1047 0) = 0 then (S 1100002 p2) + (600 - (S 1046 0)) + 8 else 4))).toNat) (sv_Fe o34) rfl ((IH ((if (S 1047 0) = 0 then (S 1100002 p2) + (600 - (S 1046 0)) + 8 else 4)) o33.1 o33.2).1 p2 S hok hp2 o32 rfl) (fun v S1 hq => ?_)
        obtain ⟨rfl, ok36, md37, hpo38⟩ := hq
        obtain ⟨g35, rfl⟩ : ∃ g, S1 = sv_sts S [26, 27, 28, 29, 1046, 1047, 1100007, 1100023, 1100024, 1100025, 1053, 31, 1100030, 1100009, 1100027, 1100028, 1100026, 1055, 1100033, 39, 1066] g := ⟨_, md37.eq⟩
        show sv_T sm_XS sm_cs sm_L sm_sh ((S 1100002 p2) + (600 - (S 1046 0)) + 9).toNat (q_unary p1 p2 S) 102 102 [(0, .ref 0), (1, sv_I p1), (2, sv_I p2)] [] (sv_sts S [26, 27, 28, 29, 1046, 1047, 1100007, 1100023, 1100024, 1100025, 1053, 31, 1100030, 1100009, 1100027, 1100028, 1100026, 1055, 1100033, 39, 1066] g35)
        have md39 : sv_mod [26, 27, 28, 29, 1046, 1047, 1100007, 1100023, 1100024, 1100025, 1053, 31, 1100030, 1100009, 1100027, 1100028, 1100026, 1055, 1100033, 39, 1066] S (sv_sts S [26, 27, 28, 29, 1046, 1047, 1100007, 1100023, 1100024, 1100025, 1053, 31, 1100030, 1100009, 1100027, 1100028, 1100026, 1055, 1100033, 39, 1066] g35) := sv_mod.sts sv_mod.rf (by decide)
        have h := h g35 hpo38
        refine sv_iload_n hM dX12_unary_102 rfl rfl ?_
        refine sv_iconst (d := (5 : Int)) hM dX12_unary_103 rfl rfl ?_
        refine sv_icmp_ge hM dX12_unary_104 hp1 (⟨by decide, by decide⟩ : sv_R (5 : Int)) (t := 118) rfl rfl (fun hc => ?_) (fun hc => ?_)
        · have h := h.1 (hc)
          refine sv_aload_n hM dX12_unary_118 rfl rfl ?_
          refine sv_bipush (d := (17 : Int)) hM dX12_unary_119 rfl rfl ?_
          obtain ⟨o40, h⟩ := h
          obtain ⟨o41, h⟩ := h
          refine sv_callV hM dX12_unary_121 sm_iv_666 (by decide) (sm_a0 _) rfl rfl (Nat.le_of_ble_eq_true rfl) sm_h83 (Nat.le_of_ble_eq_true rfl) (Nat.le_of_ble_eq_true rfl) (F' := 1) (sv_Fn (n := 1) o41) rfl (t_emit_ (17 : Int) (sv_sts S [26, 27, 28, 29, 1046, 1047, 1100007, 1100023, 1100024, 1100025, 1053, 31, 1100030, 1100009, 1100027, 1100028, 1100026, 1055, 1100033, 39, 1066] g35) ok36 (⟨by decide, by decide⟩ : sv_R (17 : Int)) o40) (fun v S1 hq => ?_)
          obtain ⟨rfl, ok43, md44, hpo45⟩ := hq
          obtain ⟨g42, rfl⟩ : ∃ g, S1 = sv_sts (sv_sts S [26, 27, 28, 29, 1046, 1047, 1100007, 1100023, 1100024, 1100025, 1053, 31, 1100030, 1100009, 1100027, 1100028, 1100026, 1055, 1100033, 39, 1066] g35) [26, 27, 28, 29, 1046, 1047, 1100007, 1100023, 1100024, 1100025] g := ⟨_, md44.eq⟩
          show sv_T sm_XS sm_cs sm_L sm_sh ((S 1100002 p2) + (600 - (S 1046 0)) + 9).toNat (q_unary p1 p2 S) 102 124 [(0, .ref 0), (1, sv_I p1), (2, sv_I p2)] [] (sv_sts (sv_sts S [26, 27, 28, 29, 1046, 1047, 1100007, 1100023, 1100024, 1100025, 1053, 31, 1100030, 1100009, 1100027, 1100028, 1100026, 1055, 1100033, 39, 1066] g35) [26, 27, 28, 29, 1046, 1047, 1100007, 1100023, 1100024, 1100025] g42)
          have md46 : sv_mod [26, 27, 28, 29, 1046, 1047, 1100007, 1100023, 1100024, 1100025, 1053, 31, 1100030, 1100009, 1100027, 1100028, 1100026, 1055, 1100033, 39, 1066] S (sv_sts (sv_sts S [26, 27, 28, 29, 1046, 1047, 1100007, 1100023, 1100024, 1100025, 1053, 31, 1100030, 1100009, 1100027, 1100028, 1100026, 1055, 1100033, 39, 1066] g35) [26, 27, 28, 29, 1046, 1047, 1100007, 1100023, 1100024, 1100025] g42) := sv_mod.sts md39 (by decide)
          have h := h g42 hpo45
          refine sv_aload_n hM dX12_unary_124 rfl rfl ?_
          refine sv_iconst (d := (0 : Int)) hM dX12_unary_125 rfl rfl ?_
          refine sv_iconst (d := (0 : Int)) hM dX12_unary_126 rfl rfl ?_
          obtain ⟨o47, h⟩ := h
          refine sv_callV hM dX12_unary_127 sm_iv_656 (by decide) (sm_a0 _) rfl rfl (Nat.le_of_ble_eq_true rfl) sm_h90 (Nat.le_of_ble_eq_true rfl) (Nat.le_of_ble_eq_true rfl) (F' := 1) (sv_Fn (n := 1) o41) rfl (t_constant (0 : Int) (0 : Int) (sv_sts (sv_sts S [26, 27, 28, 29, 1046, 1047, 1100007, 1100023, 1100024, 1100025, 1053, 31, 1100030, 1100009, 1100027, 1100028, 1100026, 1055, 1100033, 39, 1066] g35) [26, 27, 28, 29, 1046, 1047, 1100007, 1100023, 1100024, 1100025] g42) ok43 (⟨by decide, by decide⟩ : sv_R (0 : Int)) (⟨by decide, by decide⟩ : sv_R (0 : Int)) o47) (fun v S1 hq => ?_)
          obtain ⟨rfl, ok49, md50, hpo51⟩ := hq
          obtain ⟨g48, rfl⟩ : ∃ g, S1 = sv_sts (sv_sts (sv_sts S [26, 27, 28, 29, 1046, 1047, 1100007, 1100023, 1100024, 1100025, 1053, 31, 1100030, 1100009, 1100027, 1100028, 1100026, 1055, 1100033, 39, 1066] g35) [26, 27, 28, 29, 1046, 1047, 1100007, 1100023, 1100024, 1100025] g42) [26, 27, 28, 29, 1046, 1047, 1100007, 1100023, 1100024, 1100025] g := ⟨_, md50.eq⟩
          show sv_T sm_XS sm_cs sm_L sm_sh ((S 1100002 p2) + (600 - (S 1046 0)) + 9).toNat (q_unary p1 p2 S) 102 130 [(0, .ref 0), (1, sv_I p1), (2, sv_I p2)] [] (sv_sts (sv_sts (sv_sts S [26, 27, 28, 29, 1046, 1047, 1100007, 1100023, 1100024, 1100025, 1053, 31, 1100030, 1100009, 1100027, 1100028, 1100026, 1055, 1100033, 39, 1066] g35) [26, 27, 28, 29, 1046, 1047, 1100007, 1100023, 1100024, 1100025] g42) [26, 27, 28, 29, 1046, 1047, 1100007, 1100023, 1100024, 1100025] g48)
          have md52 : sv_mod [26, 27, 28, 29, 1046, 1047, 1100007, 1100023, 1100024, 1100025, 1053, 31, 1100030, 1100009, 1100027, 1100028, 1100026, 1055, 1100033, 39, 1066] S (sv_sts (sv_sts (sv_sts S [26, 27, 28, 29, 1046, 1047, 1100007, 1100023, 1100024, 1100025, 1053, 31, 1100030, 1100009, 1100027, 1100028, 1100026, 1055, 1100033, 39, 1066] g35) [26, 27, 28, 29, 1046, 1047, 1100007, 1100023, 1100024, 1100025] g42) [26, 27, 28, 29, 1046, 1047, 1100007, 1100023, 1100024, 1100025] g48) := sv_mod.sts md46 (by decide)
          have h := h g48 hpo51
          exact sv_vret hM dX12_unary_130 rfl ⟨rfl, ok49, md52, h⟩
        · have h := h.2 (hc)
          refine sv_aload_n hM dX12_unary_107 rfl rfl ?_
          refine sv_bipush (d := (13 : Int)) hM dX12_unary_108 rfl rfl ?_
          refine sv_iload_n hM dX12_unary_110 rfl rfl ?_
          refine sv_iconst (d := (0 : Int)) hM dX12_unary_111 rfl rfl ?_
          obtain ⟨o53, h⟩ := h
          obtain ⟨o54, h⟩ := h
          refine sv_callV hM dX12_unary_112 sm_iv_615 (by decide) (sm_a0 _) rfl rfl (Nat.le_of_ble_eq_true rfl) sm_h82 (Nat.le_of_ble_eq_true rfl) (Nat.le_of_ble_eq_true rfl) (F' := 0) (sv_Fn (n := 0) o54) rfl (t_emit (13 : Int) p1 (0 : Int) (sv_sts S [26, 27, 28, 29, 1046, 1047, 1100007, 1100023, 1100024, 1100025, 1053, 31, 1100030, 1100009, 1100027, 1100028, 1100026, 1055, 1100033, 39, 1066] g35) ok36 (⟨by decide, by decide⟩ : sv_R (13 : Int)) hp1 (⟨by decide, by decide⟩ : sv_R (0 : Int)) o53) (fun v S1 hq => ?_)
          obtain ⟨rfl, ok56, md57, hpo58⟩ := hq
          obtain ⟨g55, rfl⟩ : ∃ g, S1 = sv_sts (sv_sts S [26, 27, 28, 29, 1046, 1047, 1100007, 1100023, 1100024, 1100025, 1053, 31, 1100030, 1100009, 1100027, 1100028, 1100026, 1055, 1100033, 39, 1066] g35) [26, 27, 28, 29, 1046, 1047, 1100007, 1100023, 1100024, 1100025] g := ⟨_, md57.eq⟩
          show sv_T sm_XS sm_cs sm_L sm_sh ((S 1100002 p2) + (600 - (S 1046 0)) + 9).toNat (q_unary p1 p2 S) 102 115 [(0, .ref 0), (1, sv_I p1), (2, sv_I p2)] [] (sv_sts (sv_sts S [26, 27, 28, 29, 1046, 1047, 1100007, 1100023, 1100024, 1100025, 1053, 31, 1100030, 1100009, 1100027, 1100028, 1100026, 1055, 1100033, 39, 1066] g35) [26, 27, 28, 29, 1046, 1047, 1100007, 1100023, 1100024, 1100025] g55)
          have md59 : sv_mod [26, 27, 28, 29, 1046, 1047, 1100007, 1100023, 1100024, 1100025, 1053, 31, 1100030, 1100009, 1100027, 1100028, 1100026, 1055, 1100033, 39, 1066] S (sv_sts (sv_sts S [26, 27, 28, 29, 1046, 1047, 1100007, 1100023, 1100024, 1100025, 1053, 31, 1100030, 1100009, 1100027, 1100028, 1100026, 1055, 1100033, 39, 1066] g35) [26, 27, 28, 29, 1046, 1047, 1100007, 1100023, 1100024, 1100025] g55) := sv_mod.sts md39 (by decide)
          have h := h g55 hpo58
          refine sv_goto hM dX12_unary_115 (pc' := 130) rfl ?_
          exact sv_vret hM dX12_unary_130 rfl ⟨rfl, ok56, md59, h⟩
      · have h := h.2 (hc)
        refine sv_aload_n hM dX12_unary_50 rfl rfl ?_
        refine sv_getA hM dX12_unary_51 sm_fl_52 (sm_a0 _) sm_k28 rfl ?_
        refine sv_iload_n hM dX12_unary_54 rfl rfl ?_
        have k60 : (0 ≤ (S 14 p2) ∧ (S 14 p2) ≤ 1) := sm_okZ hok sm_r14 p2
        have h := h k60
        refine sv_zald hM dX12_unary_55 (sm_a14 _) (by decide) o30.1 o30.2 rfl (x := (S 14 p2)) rfl ?_
        refine sv_cond_ne hM dX12_unary_56 (sv_R01 k60) (t := 97) rfl rfl (fun hc => ?_) (fun hc => ?_)
        · have h := h.1 (hc)
          refine sv_aload_n hM dX12_unary_97 rfl rfl ?_
          refine sv_iload_n hM dX12_unary_98 rfl rfl ?_
          obtain ⟨o61, h⟩ := h
          obtain ⟨o62, h⟩ := h
          obtain ⟨o63, h⟩ := h
          refine sv_callV hM dX12_unary_99 sm_iv_668 (by decide) (sm_a0 _) rfl rfl (Nat.le_of_ble_eq_true rfl) sm_h96 (Nat.le_of_ble_eq_true rfl) (Nat.le_of_ble_eq_true rfl) (F' := (((if (S 1047 0) = 0 then (S 1100002 p2) + (600 - (S 1046 0)) + 8 else 4))).toNat) (sv_Fe o63) rfl ((IH ((if (S 1047 0) = 0 then (S 1100002 p2) + (600 - (S 1046 0)) + 8 else 4)) o62.1 o62.2).1 p2 S hok hp2 o61 rfl) (fun v S1 hq => ?_)
          obtain ⟨rfl, ok65, md66, hpo67⟩ := hq
          obtain ⟨g64, rfl⟩ : ∃ g, S1 = sv_sts S [26, 27, 28, 29, 1046, 1047, 1100007, 1100023, 1100024, 1100025, 1053, 31, 1100030, 1100009, 1100027, 1100028, 1100026, 1055, 1100033, 39, 1066] g := ⟨_, md66.eq⟩
          show sv_T sm_XS sm_cs sm_L sm_sh ((S 1100002 p2) + (600 - (S 1046 0)) + 9).toNat (q_unary p1 p2 S) 102 102 [(0, .ref 0), (1, sv_I p1), (2, sv_I p2)] [] (sv_sts S [26, 27, 28, 29, 1046, 1047, 1100007, 1100023, 1100024, 1100025, 1053, 31, 1100030, 1100009, 1100027, 1100028, 1100026, 1055, 1100033, 39, 1066] g64)
          have md68 : sv_mod [26, 27, 28, 29, 1046, 1047, 1100007, 1100023, 1100024, 1100025, 1053, 31, 1100030, 1100009, 1100027, 1100028, 1100026, 1055, 1100033, 39, 1066] S (sv_sts S [26, 27, 28, 29, 1046, 1047, 1100007, 1100023, 1100024, 1100025, 1053, 31, 1100030, 1100009, 1100027, 1100028, 1100026, 1055, 1100033, 39, 1066] g64) := sv_mod.sts sv_mod.rf (by decide)
          have h := h g64 hpo67
          refine sv_iload_n hM dX12_unary_102 rfl rfl ?_
          refine sv_iconst (d := (5 : Int)) hM dX12_unary_103 rfl rfl ?_
          refine sv_icmp_ge hM dX12_unary_104 hp1 (⟨by decide, by decide⟩ : sv_R (5 : Int)) (t := 118) rfl rfl (fun hc => ?_) (fun hc => ?_)
          · have h := h.1 (hc)
            refine sv_aload_n hM dX12_unary_118 rfl rfl ?_
            refine sv_bipush (d := (17 : Int)) hM dX12_unary_119 rfl rfl ?_
            obtain ⟨o69, h⟩ := h
            obtain ⟨o70, h⟩ := h
            refine sv_callV hM dX12_unary_121 sm_iv_666 (by decide) (sm_a0 _) rfl rfl (Nat.le_of_ble_eq_true rfl) sm_h83 (Nat.le_of_ble_eq_true rfl) (Nat.le_of_ble_eq_true rfl) (F' := 1) (sv_Fn (n := 1) o70) rfl (t_emit_ (17 : Int) (sv_sts S [26, 27, 28, 29, 1046, 1047, 1100007, 1100023, 1100024, 1100025, 1053, 31, 1100030, 1100009, 1100027, 1100028, 1100026, 1055, 1100033, 39, 1066] g64) ok65 (⟨by decide, by decide⟩ : sv_R (17 : Int)) o69) (fun v S1 hq => ?_)
            obtain ⟨rfl, ok72, md73, hpo74⟩ := hq
            obtain ⟨g71, rfl⟩ : ∃ g, S1 = sv_sts (sv_sts S [26, 27, 28, 29, 1046, 1047, 1100007, 1100023, 1100024, 1100025, 1053, 31, 1100030, 1100009, 1100027, 1100028, 1100026, 1055, 1100033, 39, 1066] g64) [26, 27, 28, 29, 1046, 1047, 1100007, 1100023, 1100024, 1100025] g := ⟨_, md73.eq⟩
            show sv_T sm_XS sm_cs sm_L sm_sh ((S 1100002 p2) + (600 - (S 1046 0)) + 9).toNat (q_unary p1 p2 S) 102 124 [(0, .ref 0), (1, sv_I p1), (2, sv_I p2)] [] (sv_sts (sv_sts S [26, 27, 28, 29, 1046, 1047, 1100007, 1100023, 1100024, 1100025, 1053, 31, 1100030, 1100009, 1100027, 1100028, 1100026, 1055, 1100033, 39, 1066] g64) [26, 27, 28, 29, 1046, 1047, 1100007, 1100023, 1100024, 1100025] g71)
            have md75 : sv_mod [26, 27, 28, 29, 1046, 1047, 1100007, 1100023, 1100024, 1100025, 1053, 31, 1100030, 1100009, 1100027, 1100028, 1100026, 1055, 1100033, 39, 1066] S (sv_sts (sv_sts S [26, 27, 28, 29, 1046, 1047, 1100007, 1100023, 1100024, 1100025, 1053, 31, 1100030, 1100009, 1100027, 1100028, 1100026, 1055, 1100033, 39, 1066] g64) [26, 27, 28, 29, 1046, 1047, 1100007, 1100023, 1100024, 1100025] g71) := sv_mod.sts md68 (by decide)
            have h := h g71 hpo74
            refine sv_aload_n hM dX12_unary_124 rfl rfl ?_
            refine sv_iconst (d := (0 : Int)) hM dX12_unary_125 rfl rfl ?_
            refine sv_iconst (d := (0 : Int)) hM dX12_unary_126 rfl rfl ?_
            obtain ⟨o76, h⟩ := h
            refine sv_callV hM dX12_unary_127 sm_iv_656 (by decide) (sm_a0 _) rfl rfl (Nat.le_of_ble_eq_true rfl) sm_h90 (Nat.le_of_ble_eq_true rfl) (Nat.le_of_ble_eq_true rfl) (F' := 1) (sv_Fn (n := 1) o70) rfl (t_constant (0 : Int) (0 : Int) (sv_sts (sv_sts S [26, 27, 28, 29, 1046, 1047, 1100007, 1100023, 1100024, 1100025, 1053, 31, 1100030, 1100009, 1100027, 1100028, 1100026, 1055, 1100033, 39, 1066] g64) [26, 27, 28, 29, 1046, 1047, 1100007, 1100023, 1100024, 1100025] g71) ok72 (⟨by decide, by decide⟩ : sv_R (0 : Int)) (⟨by decide, by decide⟩ : sv_R (0 : Int)) o76) (fun v S1 hq => ?_)
            obtain ⟨rfl, ok78, md79, hpo80⟩ := hq
            obtain ⟨g77, rfl⟩ : ∃ g, S1 = sv_sts (sv_sts (sv_sts S [26, 27, 28, 29, 1046, 1047, 1100007, 1100023, 1100024, 1100025, 1053, 31, 1100030, 1100009, 1100027, 1100028, 1100026, 1055, 1100033, 39, 1066] g64) [26, 27, 28, 29, 1046, 1047, 1100007, 1100023, 1100024, 1100025] g71) [26, 27, 28, 29, 1046, 1047, 1100007, 1100023, 1100024, 1100025] g := ⟨_, md79.eq⟩
            show sv_T sm_XS sm_cs sm_L sm_sh ((S 1100002 p2) + (600 - (S 1046 0)) + 9).toNat (q_unary p1 p2 S) 102 130 [(0, .ref 0), (1, sv_I p1), (2, sv_I p2)] [] (sv_sts (sv_sts (sv_sts S [26, 27, 28, 29, 1046, 1047, 1100007, 1100023, 1100024, 1100025, 1053, 31, 1100030, 1100009, 1100027, 1100028, 1100026, 1055, 1100033, 39, 1066] g64) [26, 27, 28, 29, 1046, 1047, 1100007, 1100023, 1100024, 1100025] g71) [26, 27, 28, 29, 1046, 1047, 1100007, 1100023, 1100024, 1100025] g77)
            have md81 : sv_mod [26, 27, 28, 29, 1046, 1047, 1100007, 1100023, 1100024, 1100025, 1053, 31, 1100030, 1100009, 1100027, 1100028, 1100026, 1055, 1100033, 39, 1066] S (sv_sts (sv_sts (sv_sts S [26, 27, 28, 29, 1046, 1047, 1100007, 1100023, 1100024, 1100025, 1053, 31, 1100030, 1100009, 1100027, 1100028, 1100026, 1055, 1100033, 39, 1066] g64) [26, 27, 28, 29, 1046, 1047, 1100007, 1100023, 1100024, 1100025] g71) [26, 27, 28, 29, 1046, 1047, 1100007, 1100023, 1100024, 1100025] g77) := sv_mod.sts md75 (by decide)
            have h := h g77 hpo80
            exact sv_vret hM dX12_unary_130 rfl ⟨rfl, ok78, md81, h⟩
          · have h := h.2 (hc)
            refine sv_aload_n hM dX12_unary_107 rfl rfl ?_
            refine sv_bipush (d := (13 : Int)) hM dX12_unary_108 rfl rfl ?_
            refine sv_iload_n hM dX12_unary_110 rfl rfl ?_
            refine sv_iconst (d := (0 : Int)) hM dX12_unary_111 rfl rfl ?_
            obtain ⟨o82, h⟩ := h
            obtain ⟨o83, h⟩ := h
            refine sv_callV hM dX12_unary_112 sm_iv_615 (by decide) (sm_a0 _) rfl rfl (Nat.le_of_ble_eq_true rfl) sm_h82 (Nat.le_of_ble_eq_true rfl) (Nat.le_of_ble_eq_true rfl) (F' := 0) (sv_Fn (n := 0) o83) rfl (t_emit (13 : Int) p1 (0 : Int) (sv_sts S [26, 27, 28, 29, 1046, 1047, 1100007, 1100023, 1100024, 1100025, 1053, 31, 1100030, 1100009, 1100027, 1100028, 1100026, 1055, 1100033, 39, 1066] g64) ok65 (⟨by decide, by decide⟩ : sv_R (13 : Int)) hp1 (⟨by decide, by decide⟩ : sv_R (0 : Int)) o82) (fun v S1 hq => ?_)
            obtain ⟨rfl, ok85, md86, hpo87⟩ := hq
            obtain ⟨g84, rfl⟩ : ∃ g, S1 = sv_sts (sv_sts S [26, 27, 28, 29, 1046, 1047, 1100007, 1100023, 1100024, 1100025, 1053, 31, 1100030, 1100009, 1100027, 1100028, 1100026, 1055, 1100033, 39, 1066] g64) [26, 27, 28, 29, 1046, 1047, 1100007, 1100023, 1100024, 1100025] g := ⟨_, md86.eq⟩
            show sv_T sm_XS sm_cs sm_L sm_sh ((S 1100002 p2) + (600 - (S 1046 0)) + 9).toNat (q_unary p1 p2 S) 102 115 [(0, .ref 0), (1, sv_I p1), (2, sv_I p2)] [] (sv_sts (sv_sts S [26, 27, 28, 29, 1046, 1047, 1100007, 1100023, 1100024, 1100025, 1053, 31, 1100030, 1100009, 1100027, 1100028, 1100026, 1055, 1100033, 39, 1066] g64) [26, 27, 28, 29, 1046, 1047, 1100007, 1100023, 1100024, 1100025] g84)
            have md88 : sv_mod [26, 27, 28, 29, 1046, 1047, 1100007, 1100023, 1100024, 1100025, 1053, 31, 1100030, 1100009, 1100027, 1100028, 1100026, 1055, 1100033, 39, 1066] S (sv_sts (sv_sts S [26, 27, 28, 29, 1046, 1047, 1100007, 1100023, 1100024, 1100025, 1053, 31, 1100030, 1100009, 1100027, 1100028, 1100026, 1055, 1100033, 39, 1066] g64) [26, 27, 28, 29, 1046, 1047, 1100007, 1100023, 1100024, 1100025] g84) := sv_mod.sts md68 (by decide)
            have h := h g84 hpo87
            refine sv_goto hM dX12_unary_115 (pc' := 130) rfl ?_
            exact sv_vret hM dX12_unary_130 rfl ⟨rfl, ok85, md88, h⟩
        · have h := h.2 (hc)
          refine sv_aload_n hM dX12_unary_59 rfl rfl ?_
          have k89 : (sm_WF (S 11) (S 12) (S 13) (S 1100001) (S 1100002) (S 1100005) (S 1100003) (S 1100004) (S 1024 0) (S 1007 0) (S 1009 0) (sm_fn (S 1032 0) (S 21) (S 1056 0)) → 0 ≤ p2 → p2 < (S 1024 0) → (S 1100001 p2) = 1 → (S 11 p2) = 2 → sm_nm (S 1007 0) (S 1009 0) ((S 12 (5 * (p2))))) := fun h a0 a1 a2 a3 => sm_g1_2 h _ a0 a1 a2 a3
          have h := h k89
          have k90 : (sm_nm (S 1007 0) (S 1009 0) ((S 12 (5 * p2))) → (S 1009 0) = 0 → 0 ≤ (S 12 (5 * p2)) ∧ (S 12 (5 * p2)) < (S 1007 0)) := fun h a => sm_h_nm h a
          have h := h k90
          refine sv_aload_n hM dX12_unary_60 rfl rfl ?_
          refine sv_iload_n hM dX12_unary_61 rfl rfl ?_
          refine sv_iconst (d := (0 : Int)) hM dX12_unary_62 rfl rfl ?_
          obtain ⟨o91, h⟩ := h
          obtain ⟨o92, h⟩ := h
          refine sv_callV hM dX12_unary_63 sm_iv_644 (by decide) (sm_a0 _) rfl rfl (Nat.le_of_ble_eq_true rfl) sm_h34 (Nat.le_of_ble_eq_true rfl) (Nat.le_of_ble_eq_true rfl) (F' := 0) (sv_Fn (n := 0) o92) rfl (t_part p2 (0 : Int) S hok hp2 (⟨by decide, by decide⟩ : sv_R (0 : Int)) o91) (fun v S1 hq => ?_)
          obtain ⟨rfl, hS1⟩ := hq
          obtain rfl : S = S1 := hS1.symm
          show sv_T sm_XS sm_cs sm_L sm_sh ((S 1100002 p2) + (600 - (S 1046 0)) + 9).toNat (q_unary p1 p2 S) 102 66 [(0, .ref 0), (1, sv_I p1), (2, sv_I p2)] [sv_I ((S 12 (5 * p2 + (0 : Int)))), .ref 0] S
          refine sv_iconst (d := (1 : Int)) hM dX12_unary_66 rfl rfl ?_
          refine sv_iconst (d := (5 : Int)) hM dX12_unary_67 rfl rfl ?_
          obtain ⟨o93, h⟩ := h
          obtain ⟨o94, h⟩ := h
          refine sv_callV hM dX12_unary_68 sm_iv_625 (by decide) (sm_a0 _) rfl rfl (Nat.le_of_ble_eq_true rfl) sm_h87 (Nat.le_of_ble_eq_true rfl) (Nat.le_of_ble_eq_true rfl) (F' := 1) (sv_Fn (n := 1) o94) rfl (t_named ((S 12 (5 * p2 + (0 : Int)))) (1 : Int) (5 : Int) S hok (sm_okI hok sm_r12 _) (⟨by decide, by decide⟩ : sv_R (1 : Int)) (⟨by decide, by decide⟩ : sv_R (5 : Int)) o93) (fun v S1 hq => ?_)
          obtain ⟨rfl, ok96, md97, hpo98⟩ := hq
          obtain ⟨g95, rfl⟩ : ∃ g, S1 = sv_sts S [26, 27, 28, 29, 1046, 1047, 1100007, 1100023, 1100024, 1100025] g := ⟨_, md97.eq⟩
          show sv_T sm_XS sm_cs sm_L sm_sh ((S 1100002 p2) + (600 - (S 1046 0)) + 9).toNat (q_unary p1 p2 S) 102 71 [(0, .ref 0), (1, sv_I p1), (2, sv_I p2)] [] (sv_sts S [26, 27, 28, 29, 1046, 1047, 1100007, 1100023, 1100024, 1100025] g95)
          have md99 : sv_mod [26, 27, 28, 29, 1046, 1047, 1100007, 1100023, 1100024, 1100025, 1053, 31, 1100030, 1100009, 1100027, 1100028, 1100026, 1055, 1100033, 39, 1066] S (sv_sts S [26, 27, 28, 29, 1046, 1047, 1100007, 1100023, 1100024, 1100025] g95) := sv_mod.sts sv_mod.rf (by decide)
          have h := h g95 hpo98
          refine sv_aload_n hM dX12_unary_71 rfl rfl ?_
          refine sv_getA hM dX12_unary_72 sm_fl_89 (sm_a0 _) sm_k48 rfl ?_
          refine sv_aload_n hM dX12_unary_75 rfl rfl ?_
          have k100 : sv_R (g95 1046 0) := sm_okI ok96 sm_r1046 0
          have h := h k100
          refine sv_getI hM dX12_unary_76 sm_fl_606 (sm_a0 _) sm_k46 rfl (x := (g95 1046 0)) rfl ?_
          refine sv_iconst (d := (1 : Int)) hM dX12_unary_79 rfl rfl ?_
          refine sv_isub hM dX12_unary_80 rfl ?_
          obtain ⟨o101, h⟩ := h
          have k102 : sv_R (g95 26 ((g95 1046 0) - (1 : Int))) := sm_okI ok96 sm_r26 ((g95 1046 0) - (1 : Int))
          have h := h k102
          refine sv_iald hM dX12_unary_81 (sm_a26 _) (by decide) o101.1 o101.2 rfl (x := (g95 26 ((g95 1046 0) - (1 : Int)))) rfl ?_
          refine sv_iconst (d := (1 : Int)) hM dX12_unary_82 rfl rfl ?_
          refine sv_icmp_ne hM dX12_unary_83 k102 (⟨by decide, by decide⟩ : sv_R (1 : Int)) (t := 130) rfl rfl (fun hc => ?_) (fun hc => ?_)
          · have h := h.1 (hc)
            exact sv_vret hM dX12_unary_130 rfl ⟨rfl, ok96, md99, h⟩
          · have h := h.2 (hc)
            refine sv_aload_n hM dX12_unary_86 rfl rfl ?_
            refine sv_bipush (d := (13 : Int)) hM dX12_unary_87 rfl rfl ?_
            refine sv_iconst (d := (4 : Int)) hM dX12_unary_89 rfl rfl ?_
            refine sv_iconst (d := (0 : Int)) hM dX12_unary_90 rfl rfl ?_
            obtain ⟨o103, h⟩ := h
            refine sv_callV hM dX12_unary_91 sm_iv_615 (by decide) (sm_a0 _) rfl rfl (Nat.le_of_ble_eq_true rfl) sm_h82 (Nat.le_of_ble_eq_true rfl) (Nat.le_of_ble_eq_true rfl) (F' := 0) (sv_Fn (n := 0) o92) rfl (t_emit (13 : Int) (4 : Int) (0 : Int) (sv_sts S [26, 27, 28, 29, 1046, 1047, 1100007, 1100023, 1100024, 1100025] g95) ok96 (⟨by decide, by decide⟩ : sv_R (13 : Int)) (⟨by decide, by decide⟩ : sv_R (4 : Int)) (⟨by decide, by decide⟩ : sv_R (0 : Int)) o103) (fun v S1 hq => ?_)
            obtain ⟨rfl, ok105, md106, hpo107⟩ := hq
            obtain ⟨g104, rfl⟩ : ∃ g, S1 = sv_sts (sv_sts S [26, 27, 28, 29, 1046, 1047, 1100007, 1100023, 1100024, 1100025] g95) [26, 27, 28, 29, 1046, 1047, 1100007, 1100023, 1100024, 1100025] g := ⟨_, md106.eq⟩
            show sv_T sm_XS sm_cs sm_L sm_sh ((S 1100002 p2) + (600 - (S 1046 0)) + 9).toNat (q_unary p1 p2 S) 102 94 [(0, .ref 0), (1, sv_I p1), (2, sv_I p2)] [] (sv_sts (sv_sts S [26, 27, 28, 29, 1046, 1047, 1100007, 1100023, 1100024, 1100025] g95) [26, 27, 28, 29, 1046, 1047, 1100007, 1100023, 1100024, 1100025] g104)
            have md108 : sv_mod [26, 27, 28, 29, 1046, 1047, 1100007, 1100023, 1100024, 1100025, 1053, 31, 1100030, 1100009, 1100027, 1100028, 1100026, 1055, 1100033, 39, 1066] S (sv_sts (sv_sts S [26, 27, 28, 29, 1046, 1047, 1100007, 1100023, 1100024, 1100025] g95) [26, 27, 28, 29, 1046, 1047, 1100007, 1100023, 1100024, 1100025] g104) := sv_mod.sts md99 (by decide)
            have h := h g104 hpo107
            refine sv_goto hM dX12_unary_94 (pc' := 130) rfl ?_
            exact sv_vret hM dX12_unary_130 rfl ⟨rfl, ok105, md108, h⟩
  · have h := h.2 (hc)
    have k109 : (sm_WF (S 11) (S 12) (S 13) (S 1100001) (S 1100002) (S 1100005) (S 1100003) (S 1100004) (S 1024 0) (S 1007 0) (S 1009 0) (sm_fn (S 1032 0) (S 21) (S 1056 0)) → 0 ≤ p2 → p2 < (S 1024 0) → (S 1100001 p2) = 1 → (S 11 p2) = 7 → sm_ex (S 1100001) (S 1100002) (S 1100005) (S 1024 0) 1 ((S 12 (5 * (p2)))) ((S 1100002 (p2))) ((S 1100005 (p2))) ∧ (S 12 (5 * (p2))) < (p2) ∧ sm_ex (S 1100001) (S 1100002) (S 1100005) (S 1024 0) 1 ((S 12 (5 * (p2) + 1))) (((S 1100002 (p2))) - 1) ((S 1100005 (p2))) ∧ (S 12 (5 * (p2) + 1)) < (p2)) := fun h a0 a1 a2 a3 => sm_g1_7 h _ a0 a1 a2 a3
    have h := h k109
    have k110 : (sm_WF (S 11) (S 12) (S 13) (S 1100001) (S 1100002) (S 1100005) (S 1100003) (S 1100004) (S 1024 0) (S 1007 0) (S 1009 0) (sm_fn (S 1032 0) (S 21) (S 1056 0)) → 0 ≤ (S 12 (5 * p2)) → (S 12 (5 * p2)) < (S 1024 0) → ((S 1100001 ((S 12 (5 * p2)))) = 1 → 0 ≤ (S 1100002 ((S 12 (5 * p2)))) ∧ ((S 11 ((S 12 (5 * p2)))) = 3 → (S 12 (5 * ((S 12 (5 * p2))) + 1)) < ((S 12 (5 * p2)))) ∧ ((S 11 ((S 12 (5 * p2)))) = 4 ∨ (S 11 ((S 12 (5 * p2)))) = 5 ∨ (S 11 ((S 12 (5 * p2)))) = 8 ∨ (S 11 ((S 12 (5 * p2)))) = 9 → 17 * (S 1100005 ((S 12 (5 * p2)))) + 2 ≤ (S 1100002 ((S 12 (5 * p2))))) ∧ 0 ≤ (S 1100005 ((S 12 (5 * p2))))) ∧ ((S 1100001 ((S 12 (5 * p2)))) = 2 → 0 ≤ (S 1100005 ((S 12 (5 * p2)))) ∧ (S 1100002 ((S 12 (5 * p2)))) ≤ 17 * (S 1100005 ((S 12 (5 * p2)))) + 5 ∧ ((S 11 ((S 12 (5 * p2)))) = 33 → 1 ≤ (S 1100005 ((S 12 (5 * p2)))))) ∧ ((S 1100001 ((S 12 (5 * p2)))) = 6 → 0 ≤ (S 1100002 ((S 12 (5 * p2)))) ∧ 1 ≤ (S 1100004 ((S 12 (5 * p2)))) ∧ ((S 12 (5 * ((S 12 (5 * p2))))) = - 1 → (S 1100004 ((S 12 (5 * p2)))) = 2)) ∧ ((S 1100001 ((S 12 (5 * p2)))) = 3 → 1 ≤ (S 1100002 ((S 12 (5 * p2)))))) := fun h a0 a1 => sm_gx h _ a0 a1
    have h := h k110
    have k111 : (sm_WF (S 11) (S 12) (S 13) (S 1100001) (S 1100002) (S 1100005) (S 1100003) (S 1100004) (S 1024 0) (S 1007 0) (S 1009 0) (sm_fn (S 1032 0) (S 21) (S 1056 0)) → 0 ≤ (S 12 (5 * p2 + 1)) → (S 12 (5 * p2 + 1)) < (S 1024 0) → ((S 1100001 ((S 12 (5 * p2 + 1)))) = 1 → 0 ≤ (S 1100002 ((S 12 (5 * p2 + 1)))) ∧ ((S 11 ((S 12 (5 * p2 + 1)))) = 3 → (S 12 (5 * ((S 12 (5 * p2 + 1))) + 1)) < ((S 12 (5 * p2 + 1)))) ∧ ((S 11 ((S 12 (5 * p2 + 1)))) = 4 ∨ (S 11 ((S 12 (5 * p2 + 1)))) = 5 ∨ (S 11 ((S 12 (5 * p2 + 1)))) = 8 ∨ (S 11 ((S 12 (5 * p2 + 1)))) = 9 → 17 * (S 1100005 ((S 12 (5 * p2 + 1)))) + 2 ≤ (S 1100002 ((S 12 (5 * p2 + 1))))) ∧ 0 ≤ (S 1100005 ((S 12 (5 * p2 + 1))))) ∧ ((S 1100001 ((S 12 (5 * p2 + 1)))) = 2 → 0 ≤ (S 1100005 ((S 12 (5 * p2 + 1)))) ∧ (S 1100002 ((S 12 (5 * p2 + 1)))) ≤ 17 * (S 1100005 ((S 12 (5 * p2 + 1)))) + 5 ∧ ((S 11 ((S 12 (5 * p2 + 1)))) = 33 → 1 ≤ (S 1100005 ((S 12 (5 * p2 + 1)))))) ∧ ((S 1100001 ((S 12 (5 * p2 + 1)))) = 6 → 0 ≤ (S 1100002 ((S 12 (5 * p2 + 1)))) ∧ 1 ≤ (S 1100004 ((S 12 (5 * p2 + 1)))) ∧ ((S 12 (5 * ((S 12 (5 * p2 + 1))))) = - 1 → (S 1100004 ((S 12 (5 * p2 + 1)))) = 2)) ∧ ((S 1100001 ((S 12 (5 * p2 + 1)))) = 3 → 1 ≤ (S 1100002 ((S 12 (5 * p2 + 1)))))) := fun h a0 a1 => sm_gx h _ a0 a1
    have h := h k111
    have k112 : ((S 1100005 (S 12 (5 * p2 + 0))) = (S 1100005 (S 12 (5 * p2)))) := by rw [Int.add_zero]
    have h := h k112
    have k113 : ((S 1100002 (S 12 (5 * p2 + 0))) = (S 1100002 (S 12 (5 * p2)))) := by rw [Int.add_zero]
    have h := h k113
    refine sv_aload_n hM dX12_unary_6 rfl rfl ?_
    refine sv_aload_n hM dX12_unary_7 rfl rfl ?_
    refine sv_iload_n hM dX12_unary_8 rfl rfl ?_
    refine sv_iconst (d := (0 : Int)) hM dX12_unary_9 rfl rfl ?_
    obtain ⟨o114, h⟩ := h
    obtain ⟨o115, h⟩ := h
    refine sv_callV hM dX12_unary_10 sm_iv_644 (by decide) (sm_a0 _) rfl rfl (Nat.le_of_ble_eq_true rfl) sm_h34 (Nat.le_of_ble_eq_true rfl) (Nat.le_of_ble_eq_true rfl) (F' := 0) (sv_Fn (n := 0) o115) rfl (t_part p2 (0 : Int) S hok hp2 (⟨by decide, by decide⟩ : sv_R (0 : Int)) o114) (fun v S1 hq => ?_)
    obtain ⟨rfl, hS1⟩ := hq
    obtain rfl : S = S1 := hS1.symm
    show sv_T sm_XS sm_cs sm_L sm_sh ((S 1100002 p2) + (600 - (S 1046 0)) + 9).toNat (q_unary p1 p2 S) 102 13 [(0, .ref 0), (1, sv_I p1), (2, sv_I p2)] [sv_I ((S 12 (5 * p2 + (0 : Int)))), .ref 0] S
    obtain ⟨o116, h⟩ := h
    obtain ⟨o117, h⟩ := h
    obtain ⟨o118, h⟩ := h
    refine sv_callV hM dX12_unary_13 sm_iv_668 (by decide) (sm_a0 _) rfl rfl (Nat.le_of_ble_eq_true rfl) sm_h96 (Nat.le_of_ble_eq_true rfl) (Nat.le_of_ble_eq_true rfl) (F' := (((if (S 1047 0) = 0 then (S 1100002 ((S 12 (5 * p2 + (0 : Int))))) + (600 - (S 1046 0)) + 8 else 4))).toNat) (sv_Fe o118) rfl ((IH ((if (S 1047 0) = 0 then (S 1100002 ((S 12 (5 * p2 + (0 : Int))))) + (600 - (S 1046 0)) + 8 else 4)) o117.1 o117.2).1 ((S 12 (5 * p2 + (0 : Int)))) S hok (sm_okI hok sm_r12 _) o116 rfl) (fun v S1 hq => ?_)
    obtain ⟨rfl, ok120, md121, hpo122⟩ := hq
    obtain ⟨g119, rfl⟩ : ∃ g, S1 = sv_sts S [26, 27, 28, 29, 1046, 1047, 1100007, 1100023, 1100024, 1100025, 1053, 31, 1100030, 1100009, 1100027, 1100028, 1100026, 1055, 1100033, 39, 1066] g := ⟨_, md121.eq⟩
    show sv_T sm_XS sm_cs sm_L sm_sh ((S 1100002 p2) + (600 - (S 1046 0)) + 9).toNat (q_unary p1 p2 S) 102 16 [(0, .ref 0), (1, sv_I p1), (2, sv_I p2)] [] (sv_sts S [26, 27, 28, 29, 1046, 1047, 1100007, 1100023, 1100024, 1100025, 1053, 31, 1100030, 1100009, 1100027, 1100028, 1100026, 1055, 1100033, 39, 1066] g119)
    have md123 : sv_mod [26, 27, 28, 29, 1046, 1047, 1100007, 1100023, 1100024, 1100025, 1053, 31, 1100030, 1100009, 1100027, 1100028, 1100026, 1055, 1100033, 39, 1066] S (sv_sts S [26, 27, 28, 29, 1046, 1047, 1100007, 1100023, 1100024, 1100025, 1053, 31, 1100030, 1100009, 1100027, 1100028, 1100026, 1055, 1100033, 39, 1066] g119) := sv_mod.sts sv_mod.rf (by decide)
    have h := h g119 hpo122
    refine sv_aload_n hM dX12_unary_16 rfl rfl ?_
    refine sv_aload_n hM dX12_unary_17 rfl rfl ?_
    refine sv_iload_n hM dX12_unary_18 rfl rfl ?_
    refine sv_iconst (d := (1 : Int)) hM dX12_unary_19 rfl rfl ?_
    obtain ⟨o124, h⟩ := h
    refine sv_callV hM dX12_unary_20 sm_iv_644 (by decide) (sm_a0 _) rfl rfl (Nat.le_of_ble_eq_true rfl) sm_h34 (Nat.le_of_ble_eq_true rfl) (Nat.le_of_ble_eq_true rfl) (F' := 0) (sv_Fn (n := 0) o115) rfl (t_part p2 (1 : Int) (sv_sts S [26, 27, 28, 29, 1046, 1047, 1100007, 1100023, 1100024, 1100025, 1053, 31, 1100030, 1100009, 1100027, 1100028, 1100026, 1055, 1100033, 39, 1066] g119) ok120 hp2 (⟨by decide, by decide⟩ : sv_R (1 : Int)) o124) (fun v S1 hq => ?_)
    obtain ⟨rfl, hS1⟩ := hq
    obtain rfl : (sv_sts S [26, 27, 28, 29, 1046, 1047, 1100007, 1100023, 1100024, 1100025, 1053, 31, 1100030, 1100009, 1100027, 1100028, 1100026, 1055, 1100033, 39, 1066] g119) = S1 := hS1.symm
    show sv_T sm_XS sm_cs sm_L sm_sh ((S 1100002 p2) + (600 - (S 1046 0)) + 9).toNat (q_unary p1 p2 S) 102 23 [(0, .ref 0), (1, sv_I p1), (2, sv_I p2)] [sv_I ((S 12 (5 * p2 + (1 : Int)))), .ref 0] (sv_sts S [26, 27, 28, 29, 1046, 1047, 1100007, 1100023, 1100024, 1100025, 1053, 31, 1100030, 1100009, 1100027, 1100028, 1100026, 1055, 1100033, 39, 1066] g119)
    obtain ⟨o125, h⟩ := h
    obtain ⟨o126, h⟩ := h
    obtain ⟨o127, h⟩ := h
    refine sv_callV hM dX12_unary_23 sm_iv_668 (by decide) (sm_a0 _) rfl rfl (Nat.le_of_ble_eq_true rfl) sm_h96 (Nat.le_of_ble_eq_true rfl) (Nat.le_of_ble_eq_true rfl) (F' := (((if (g119 1047 0) = 0 then (S 1100002 ((S 12 (5 * p2 + (1 : Int))))) + (600 - (g119 1046 0)) + 8 else 4))).toNat) (sv_Fe o127) rfl ((IH ((if (g119 1047 0) = 0 then (S 1100002 ((S 12 (5 * p2 + (1 : Int))))) + (600 - (g119 1046 0)) + 8 else 4)) o126.1 o126.2).1 ((S 12 (5 * p2 + (1 : Int)))) (sv_sts S [26, 27, 28, 29, 1046, 1047, 1100007, 1100023, 1100024, 1100025, 1053, 31, 1100030, 1100009, 1100027, 1100028, 1100026, 1055, 1100033, 39, 1066] g119) ok120 (sm_okI ok120 sm_r12 _) o125 rfl) (fun v S1 hq => ?_)
    obtain ⟨rfl, ok129, md130, hpo131⟩ := hq
    obtain ⟨g128, rfl⟩ : ∃ g, S1 = sv_sts (sv_sts S [26, 27, 28, 29, 1046, 1047, 1100007, 1100023, 1100024, 1100025, 1053, 31, 1100030, 1100009, 1100027, 1100028, 1100026, 1055, 1100033, 39, 1066] g119) [26, 27, 28, 29, 1046, 1047, 1100007, 1100023, 1100024, 1100025, 1053, 31, 1100030, 1100009, 1100027, 1100028, 1100026, 1055, 1100033, 39, 1066] g := ⟨_, md130.eq⟩
    show sv_T sm_XS sm_cs sm_L sm_sh ((S 1100002 p2) + (600 - (S 1046 0)) + 9).toNat (q_unary p1 p2 S) 102 26 [(0, .ref 0), (1, sv_I p1), (2, sv_I p2)] [] (sv_sts (sv_sts S [26, 27, 28, 29, 1046, 1047, 1100007, 1100023, 1100024, 1100025, 1053, 31, 1100030, 1100009, 1100027, 1100028, 1100026, 1055, 1100033, 39, 1066] g119) [26, 27, 28, 29, 1046, 1047, 1100007, 1100023, 1100024, 1100025, 1053, 31, 1100030, 1100009, 1100027, 1100028, 1100026, 1055, 1100033, 39, 1066] g128)
    have md132 : sv_mod [26, 27, 28, 29, 1046, 1047, 1100007, 1100023, 1100024, 1100025, 1053, 31, 1100030, 1100009, 1100027, 1100028, 1100026, 1055, 1100033, 39, 1066] S (sv_sts (sv_sts S [26, 27, 28, 29, 1046, 1047, 1100007, 1100023, 1100024, 1100025, 1053, 31, 1100030, 1100009, 1100027, 1100028, 1100026, 1055, 1100033, 39, 1066] g119) [26, 27, 28, 29, 1046, 1047, 1100007, 1100023, 1100024, 1100025, 1053, 31, 1100030, 1100009, 1100027, 1100028, 1100026, 1055, 1100033, 39, 1066] g128) := sv_mod.sts md123 (by decide)
    have h := h g128 hpo131
    refine sv_aload_n hM dX12_unary_26 rfl rfl ?_
    refine sv_bipush (d := (12 : Int)) hM dX12_unary_27 rfl rfl ?_
    obtain ⟨o133, h⟩ := h
    obtain ⟨o134, h⟩ := h
    refine sv_callV hM dX12_unary_29 sm_iv_666 (by decide) (sm_a0 _) rfl rfl (Nat.le_of_ble_eq_true rfl) sm_h83 (Nat.le_of_ble_eq_true rfl) (Nat.le_of_ble_eq_true rfl) (F' := 1) (sv_Fn (n := 1) o134) rfl (t_emit_ (12 : Int) (sv_sts (sv_sts S [26, 27, 28, 29, 1046, 1047, 1100007, 1100023, 1100024, 1100025, 1053, 31, 1100030, 1100009, 1100027, 1100028, 1100026, 1055, 1100033, 39, 1066] g119) [26, 27, 28, 29, 1046, 1047, 1100007, 1100023, 1100024, 1100025, 1053, 31, 1100030, 1100009, 1100027, 1100028, 1100026, 1055, 1100033, 39, 1066] g128) ok129 (⟨by decide, by decide⟩ : sv_R (12 : Int)) o133) (fun v S1 hq => ?_)
    obtain ⟨rfl, ok136, md137, hpo138⟩ := hq
    obtain ⟨g135, rfl⟩ : ∃ g, S1 = sv_sts (sv_sts (sv_sts S [26, 27, 28, 29, 1046, 1047, 1100007, 1100023, 1100024, 1100025, 1053, 31, 1100030, 1100009, 1100027, 1100028, 1100026, 1055, 1100033, 39, 1066] g119) [26, 27, 28, 29, 1046, 1047, 1100007, 1100023, 1100024, 1100025, 1053, 31, 1100030, 1100009, 1100027, 1100028, 1100026, 1055, 1100033, 39, 1066] g128) [26, 27, 28, 29, 1046, 1047, 1100007, 1100023, 1100024, 1100025] g := ⟨_, md137.eq⟩
    show sv_T sm_XS sm_cs sm_L sm_sh ((S 1100002 p2) + (600 - (S 1046 0)) + 9).toNat (q_unary p1 p2 S) 102 32 [(0, .ref 0), (1, sv_I p1), (2, sv_I p2)] [] (sv_sts (sv_sts (sv_sts S [26, 27, 28, 29, 1046, 1047, 1100007, 1100023, 1100024, 1100025, 1053, 31, 1100030, 1100009, 1100027, 1100028, 1100026, 1055, 1100033, 39, 1066] g119) [26, 27, 28, 29, 1046, 1047, 1100007, 1100023, 1100024, 1100025, 1053, 31, 1100030, 1100009, 1100027, 1100028, 1100026, 1055, 1100033, 39, 1066] g128) [26, 27, 28, 29, 1046, 1047, 1100007, 1100023, 1100024, 1100025] g135)
    have md139 : sv_mod [26, 27, 28, 29, 1046, 1047, 1100007, 1100023, 1100024, 1100025, 1053, 31, 1100030, 1100009, 1100027, 1100028, 1100026, 1055, 1100033, 39, 1066] S (sv_sts (sv_sts (sv_sts S [26, 27, 28, 29, 1046, 1047, 1100007, 1100023, 1100024, 1100025, 1053, 31, 1100030, 1100009, 1100027, 1100028, 1100026, 1055, 1100033, 39, 1066] g119) [26, 27, 28, 29, 1046, 1047, 1100007, 1100023, 1100024, 1100025, 1053, 31, 1100030, 1100009, 1100027, 1100028, 1100026, 1055, 1100033, 39, 1066] g128) [26, 27, 28, 29, 1046, 1047, 1100007, 1100023, 1100024, 1100025] g135) := sv_mod.sts md132 (by decide)
    have h := h g135 hpo138
    refine sv_goto hM dX12_unary_32 (pc' := 130) rfl ?_
    exact sv_vret hM dX12_unary_130 rfl ⟨rfl, ok136, md139, h⟩
