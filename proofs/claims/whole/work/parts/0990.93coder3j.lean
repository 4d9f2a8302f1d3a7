theorem dX12_stepBehind_0 : decode cX12_stepBehind 0 = .ok (.aload_n 0, 1) := by decide +kernel
theorem dX12_stepBehind_1 : decode cX12_stepBehind 1 = .ok (.getfield 42, 3) := by decide +kernel
theorem dX12_stepBehind_4 : decode cX12_stepBehind 4 = .ok (.iload_n 2, 1) := by decide +kernel
theorem dX12_stepBehind_5 : decode cX12_stepBehind 5 = .ok (.iaload, 1) := by decide +kernel
theorem dX12_stepBehind_6 : decode cX12_stepBehind 6 = .ok (.iconst 2, 1) := by decide +kernel
theorem dX12_stepBehind_7 : decode cX12_stepBehind 7 = .ok (.if_icmp .ne 30, 3) := by decide +kernel
theorem dX12_stepBehind_10 : decode cX12_stepBehind 10 = .ok (.aload_n 0, 1) := by decide +kernel
theorem dX12_stepBehind_11 : decode cX12_stepBehind 11 = .ok (.aload_n 0, 1) := by decide +kernel
theorem dX12_stepBehind_12 : decode cX12_stepBehind 12 = .ok (.iload_n 2, 1) := by decide +kernel
theorem dX12_stepBehind_13 : decode cX12_stepBehind 13 = .ok (.iconst 0, 1) := by decide +kernel
theorem dX12_stepBehind_14 : decode cX12_stepBehind 14 = .ok (.invokevirtual 644, 3) := by decide +kernel
theorem dX12_stepBehind_17 : decode cX12_stepBehind 17 = .ok (.invokevirtual 680, 3) := by decide +kernel
theorem dX12_stepBehind_20 : decode cX12_stepBehind 20 = .ok (.aload_n 0, 1) := by decide +kernel
theorem dX12_stepBehind_21 : decode cX12_stepBehind 21 = .ok (.bipush 13, 2) := by decide +kernel
theorem dX12_stepBehind_23 : decode cX12_stepBehind 23 = .ok (.iconst 0, 1) := by decide +kernel
theorem dX12_stepBehind_24 : decode cX12_stepBehind 24 = .ok (.iconst 0, 1) := by decide +kernel
theorem dX12_stepBehind_25 : decode cX12_stepBehind 25 = .ok (.invokevirtual 615, 3) := by decide +kernel
theorem dX12_stepBehind_28 : decode cX12_stepBehind 28 = .ok (.aload_n 0, 1) := by decide +kernel
theorem dX12_stepBehind_29 : decode cX12_stepBehind 29 = .ok (.bipush 18, 2) := by decide +kernel
theorem dX12_stepBehind_31 : decode cX12_stepBehind 31 = .ok (.invokevirtual 666, 3) := by decide +kernel
theorem dX12_stepBehind_34 : decode cX12_stepBehind 34 = .ok (.goto 49, 3) := by decide +kernel
theorem dX12_stepBehind_37 : decode cX12_stepBehind 37 = .ok (.aload_n 0, 1) := by decide +kernel
theorem dX12_stepBehind_38 : decode cX12_stepBehind 38 = .ok (.aload_n 0, 1) := by decide +kernel
theorem dX12_stepBehind_39 : decode cX12_stepBehind 39 = .ok (.iload_n 2, 1) := by decide +kernel
theorem dX12_stepBehind_40 : decode cX12_stepBehind 40 = .ok (.iconst 0, 1) := by decide +kernel
theorem dX12_stepBehind_41 : decode cX12_stepBehind 41 = .ok (.invokevirtual 644, 3) := by decide +kernel
theorem dX12_stepBehind_44 : decode cX12_stepBehind 44 = .ok (.invokevirtual 668, 3) := by decide +kernel
theorem dX12_stepBehind_47 : decode cX12_stepBehind 47 = .ok (.aload_n 0, 1) := by decide +kernel
theorem dX12_stepBehind_48 : decode cX12_stepBehind 48 = .ok (.aload_n 0, 1) := by decide +kernel
theorem dX12_stepBehind_49 : decode cX12_stepBehind 49 = .ok (.iload_n 2, 1) := by decide +kernel
theorem dX12_stepBehind_50 : decode cX12_stepBehind 50 = .ok (.iconst 1, 1) := by decide +kernel
theorem dX12_stepBehind_51 : decode cX12_stepBehind 51 = .ok (.invokevirtual 644, 3) := by decide +kernel
theorem dX12_stepBehind_54 : decode cX12_stepBehind 54 = .ok (.invokevirtual 668, 3) := by decide +kernel
theorem dX12_stepBehind_57 : decode cX12_stepBehind 57 = .ok (.aload_n 0, 1) := by decide +kernel
theorem dX12_stepBehind_58 : decode cX12_stepBehind 58 = .ok (.bipush 19, 2) := by decide +kernel
theorem dX12_stepBehind_60 : decode cX12_stepBehind 60 = .ok (.invokevirtual 666, 3) := by decide +kernel
theorem dX12_stepBehind_63 : decode cX12_stepBehind 63 = .ok (.aload_n 0, 1) := by decide +kernel
theorem dX12_stepBehind_64 : decode cX12_stepBehind 64 = .ok (.bipush 10, 2) := by decide +kernel
theorem dX12_stepBehind_66 : decode cX12_stepBehind 66 = .ok (.invokevirtual 666, 3) := by decide +kernel
theorem dX12_stepBehind_69 : decode cX12_stepBehind 69 = .ok (.aload_n 0, 1) := by decide +kernel
theorem dX12_stepBehind_70 : decode cX12_stepBehind 70 = .ok (.bipush 13, 2) := by decide +kernel
theorem dX12_stepBehind_72 : decode cX12_stepBehind 72 = .ok (.iconst 0, 1) := by decide +kernel
theorem dX12_stepBehind_73 : decode cX12_stepBehind 73 = .ok (.iconst 0, 1) := by decide +kernel
theorem dX12_stepBehind_74 : decode cX12_stepBehind 74 = .ok (.invokevirtual 615, 3) := by decide +kernel
theorem dX12_stepBehind_77 : decode cX12_stepBehind 77 = .ok (.aload_n 0, 1) := by decide +kernel
theorem dX12_stepBehind_78 : decode cX12_stepBehind 78 = .ok (.bipush 20, 2) := by decide +kernel
theorem dX12_stepBehind_80 : decode cX12_stepBehind 80 = .ok (.invokevirtual 666, 3) := by decide +kernel
theorem dX12_stepBehind_83 : decode cX12_stepBehind 83 = .ok (.aload_n 0, 1) := by decide +kernel
theorem dX12_stepBehind_84 : decode cX12_stepBehind 84 = .ok (.iconst 5, 1) := by decide +kernel
theorem dX12_stepBehind_85 : decode cX12_stepBehind 85 = .ok (.iconst 1, 1) := by decide +kernel
theorem dX12_stepBehind_86 : decode cX12_stepBehind 86 = .ok (.invokevirtual 656, 3) := by decide +kernel
theorem dX12_stepBehind_89 : decode cX12_stepBehind 89 = .ok (.aload_n 0, 1) := by decide +kernel
theorem dX12_stepBehind_90 : decode cX12_stepBehind 90 = .ok (.bipush 14, 2) := by decide +kernel
theorem dX12_stepBehind_92 : decode cX12_stepBehind 92 = .ok (.iload_n 1, 1) := by decide +kernel
theorem dX12_stepBehind_93 : decode cX12_stepBehind 93 = .ok (.iconst 0, 1) := by decide +kernel
theorem dX12_stepBehind_94 : decode cX12_stepBehind 94 = .ok (.invokevirtual 615, 3) := by decide +kernel
theorem dX12_stepBehind_97 : decode cX12_stepBehind 97 = .ok (.aload_n 0, 1) := by decide +kernel
theorem dX12_stepBehind_98 : decode cX12_stepBehind 98 = .ok (.getfield 42, 3) := by decide +kernel
theorem dX12_stepBehind_101 : decode cX12_stepBehind 101 = .ok (.iload_n 2, 1) := by decide +kernel
theorem dX12_stepBehind_102 : decode cX12_stepBehind 102 = .ok (.iaload, 1) := by decide +kernel
theorem dX12_stepBehind_103 : decode cX12_stepBehind 103 = .ok (.iconst 2, 1) := by decide +kernel
theorem dX12_stepBehind_104 : decode cX12_stepBehind 104 = .ok (.if_icmp .ne 16, 3) := by decide +kernel
theorem dX12_stepBehind_107 : decode cX12_stepBehind 107 = .ok (.aload_n 0, 1) := by decide +kernel
theorem dX12_stepBehind_108 : decode cX12_stepBehind 108 = .ok (.aload_n 0, 1) := by decide +kernel
theorem dX12_stepBehind_109 : decode cX12_stepBehind 109 = .ok (.iload_n 2, 1) := by decide +kernel
theorem dX12_stepBehind_110 : decode cX12_stepBehind 110 = .ok (.iconst 0, 1) := by decide +kernel
theorem dX12_stepBehind_111 : decode cX12_stepBehind 111 = .ok (.invokevirtual 644, 3) := by decide +kernel
theorem dX12_stepBehind_114 : decode cX12_stepBehind 114 = .ok (.invokevirtual 704, 3) := by decide +kernel
theorem dX12_stepBehind_117 : decode cX12_stepBehind 117 = .ok (.goto 9, 3) := by decide +kernel
theorem dX12_stepBehind_120 : decode cX12_stepBehind 120 = .ok (.aload_n 0, 1) := by decide +kernel
theorem dX12_stepBehind_121 : decode cX12_stepBehind 121 = .ok (.bipush 11, 2) := by decide +kernel
theorem dX12_stepBehind_123 : decode cX12_stepBehind 123 = .ok (.invokevirtual 666, 3) := by decide +kernel
theorem dX12_stepBehind_126 : decode cX12_stepBehind 126 = .ok (.aload_n 0, 1) := by decide +kernel
theorem dX12_stepBehind_127 : decode cX12_stepBehind 127 = .ok (.bipush 17, 2) := by decide +kernel
theorem dX12_stepBehind_129 : decode cX12_stepBehind 129 = .ok (.invokevirtual 666, 3) := by decide +kernel
theorem dX12_stepBehind_132 : decode cX12_stepBehind 132 = .ok (.return_, 1) := by decide +kernel

theorem la_stepBehind_0 {x0 : Int} (h0 : x0 = 1) : ¬ x0 = 2 := by omega
theorem la_stepBehind_1 {x0 : Int} (h0 : x0 = 1) : ¬ x0 = 6 := by omega
theorem la_stepBehind_2 {x0 : Int} (h0 : x0 = 1) : ¬ x0 = 3 := by omega
theorem la_stepBehind_3 {x0 : Int} (h0 : x0 = 0) : ¬ x0 = 1 := by omega
theorem la_stepBehind_4 : (0 : Int) ≤ 17 := by omega
theorem la_stepBehind_5 : (17 : Int) ≤ 30 := by omega
theorem la_stepBehind_6 {x0 x1 x2 x3 x4 x5 x6 x7 x8 x9 x10 x11 x12 x13 : Int} (h0 : 0 ≤ x0) (h1 : 0 ≤ x1 → x2 ≤ x0) (h2 : 0 ≤ x3 → x4 ≤ x0) (h3 : x5 = x0 + 2) (h4 : x6 = x1) (h5 : x7 = x3) (h6 : x8 = x2) (h7 : x9 = x4) (h8 : x10 = (-1)) (h9 : x11 = x6) (h10 : (0 ≤ x7 → x9 < x5) → x12 = x7) : 1 ≤ x5 ∧ (0 ≤ x6 → x8 ≤ x5 - 1) ∧ (0 ≤ x7 ∧ x9 = x5 ∧ x5 + x10 = x5 - 1 ∧ x11 = x6 ∧ x12 = x13 ∨ (0 ≤ x7 → x9 ≤ x5 - 1) ∧ x5 + x10 = x5 - 1 ∧ x11 = x6 ∧ x12 = x7) := by omega
theorem la_stepBehind_7 {x0 x1 x2 : Int} : (21 : Int) ≤ 17 ∧ (17 : Int) ≤ 24 ∨ (17 : Int) = 27 ∨ (17 : Int) = 30 → (0 : Int) ≤ 0 ∧ 0 < x0 ∧ x1 = x2 := by omega
theorem la_stepBehind_8 : ¬ (17 : Int) = 1 := by omega
theorem la_stepBehind_9 {x0 : Int} (h0 : (17 : Int) = 2) : (-1) ≤ x0 := by omega
theorem la_stepBehind_10 {x0 x1 : Int} (h0 : (17 : Int) = 2) : x0 < x1 := by omega
theorem la_stepBehind_11 {x0 x1 : Int} (h0 : (17 : Int) = 2) : x0 = (-1) → x1 = 1 := by omega
theorem la_stepBehind_12 {x0 x1 : Int} (h0 : (17 : Int) = 2) : x0 < x1 + 1 := by omega
theorem la_stepBehind_13 {x0 : Int} (h0 : (17 : Int) = 2) : 0 ≤ x0 := by omega
theorem la_stepBehind_14 {x0 : Int} (h0 : (17 : Int) = 2) : x0 = 3 := by omega
theorem la_stepBehind_15 {x0 : Int} (h0 : (17 : Int) = 2) : x0 = 4 ∨ x0 = 5 ∨ x0 = 8 ∨ x0 = 9 := by omega
theorem la_stepBehind_16 {x0 x1 x2 : Int} (h0 : (17 : Int) = 2) : 0 ≤ x0 → x1 < x2 := by omega
theorem la_stepBehind_17 {x0 x1 : Int} (h0 : (17 : Int) = 2) : x0 = x1 := by omega
theorem la_stepBehind_18 {x0 : Int} (h0 : (17 : Int) = 2) : 5 * x0 + 1 = 5 * x0 := by omega
theorem la_stepBehind_19 (h0 : (17 : Int) = 2) : False := by omega
theorem la_stepBehind_20 {x0 x1 x2 x3 : Int} (h0 : 0 ≤ x0) (h1 : x1 ≤ x2) (h2 : x2 ≤ x1 + 3 * (600 - x3) + x0) : 1 + 1 ≤ x0 + (600 - x3) + 9 := by omega
theorem la_stepBehind_21 {x0 : Int} (h0 : 1 ≤ x0) : 0 ≤ x0 := by omega
theorem la_stepBehind_22 {x0 x1 x2 : Int} (h0 : x0 ≤ x1) (h1 : x1 ≤ x2) : x0 ≤ x2 := by omega
theorem la_stepBehind_23 {x0 x1 : Int} (h0 : x0 = 0) (h1 : x1 ≤ 1) : x0 = 1 → x1 = 1 := by omega
theorem la_stepBehind_24 {x0 x1 : Int} (h0 : x0 ≤ x1) : x0 + 1 ≤ x1 + 1 := by omega
theorem la_stepBehind_25 {x0 : Int} (h0 : x0 ≤ 1) (h1 : ¬ x0 = 1) : x0 < 1 := by omega
theorem la_stepBehind_26 : ¬ (17 : Int) = 29 := by omega
theorem la_stepBehind_27 : (17 : Int) = 17 := by omega
theorem la_stepBehind_28 {x0 x1 x2 : Int} (h0 : x0 = x1 + 1) (h1 : x2 ≤ x1) : x2 ≤ x0 := by omega
theorem la_stepBehind_29 {x0 x1 x2 : Int} (h0 : x0 = x1 + 1) (h1 : x2 + 2 ≤ x1) : x2 + 1 ≤ x0 := by omega
theorem la_stepBehind_30 {x0 x1 : Int} (h0 : x0 + 2 ≤ x1) : x0 < x1 := by omega
theorem la_stepBehind_31 {x0 x1 x2 x3 : Int} (h0 : x0 = x1 + x2) (h1 : x2 = (-1)) (h2 : x1 = x3 + 2) : x0 = x3 + 1 := by omega
theorem la_stepBehind_32 {x0 x1 x2 x3 : Int} (h0 : x0 = x1) (h1 : x1 = x2) (h2 : x2 = x3) : x0 = x3 := by omega
theorem la_stepBehind_33 {x0 x1 x2 : Int} (h0 : x0 < x1) (h1 : x2 = x0) : x2 < x1 + 1 := by omega
theorem la_stepBehind_34 {x0 x1 x2 : Int} (h0 : x0 ≤ x1 + 1) (h1 : x2 < x0) : x2 < x1 + 1 := by omega
theorem la_stepBehind_35 {x0 x1 x2 x3 x4 x5 : Int} (h0 : x0 < x1) (h1 : x2 = x3) (h2 : x3 = x4) (h3 : x1 + 2 ≤ x5) (h4 : x4 = x0) : x2 < x5 + 1 := by omega
theorem la_stepBehind_36 {x0 x1 x2 x3 x4 : Int} (h0 : x0 < x1) (h1 : x2 = x3) (h2 : x3 = x4) (h3 : x4 = x0) : x2 < x1 + 1 := by omega
theorem la_stepBehind_37 {x0 x1 x2 : Int} (h0 : x0 = x1) (h1 : x1 = x2) : x0 = x2 := by omega
theorem la_stepBehind_38 {x0 x1 x2 x3 x4 x5 x6 x7 : Int} (h0 : 0 ≤ x0 → x1 ≤ x2) (h1 : (-1) ≤ x3) (h2 : x3 = x4) (h3 : (0 ≤ x5 → x6 < x7) → x4 = x5) (h4 : x7 = x2 + 2) (h5 : x5 = x0) (h6 : x6 = x1) : x3 = x5 := by omega
theorem la_stepBehind_39 {x0 x1 x2 x3 x4 x5 x6 x7 : Int} (h0 : 0 ≤ x0 → x1 ≤ x2) (h1 : (-1) ≤ x3) (h2 : x3 = x4) (h3 : (0 ≤ x5 → x6 < x7) → x4 = x5) (h4 : x7 = x2 + 2) (h5 : x5 = x0) (h6 : x6 = x1) : x3 = x0 := by omega
theorem la_stepBehind_40 {x0 x1 x2 x3 : Int} (h0 : x0 = x1) (h1 : x2 = x3) (h2 : x3 = x0) : x2 = x1 := by omega
theorem la_stepBehind_41 {x0 x1 : Int} (h0 : x0 + 2 ≤ x1) : x0 < x1 + 1 := by omega
theorem la_stepBehind_42 {x0 : Int} : x0 < x0 + 1 := by omega
theorem la_stepBehind_43 {x0 x1 x2 x3 x4 : Int} (h0 : 0 ≤ x0) (h1 : x1 = x2 + 1) (h2 : x3 + 2 ≤ x2) : 2 * x4 ≤ 2 * x4 + (x1 - x3) + 8 * x0 + 10 := by omega
theorem la_stepBehind_44 {x0 x1 : Int} (h0 : x0 + 2 ≤ x1) : x0 + 1 < x1 + 1 := by omega
theorem la_stepBehind_45 {x0 : Int} : x0 ≤ x0 + 1 := by omega
theorem la_stepBehind_46 {x0 x1 : Int} (h0 : x0 + 2 ≤ x1) : x0 + 1 ≤ x1 := by omega
theorem la_stepBehind_47 {x0 x1 x2 x3 x4 : Int} (h0 : x0 = x1 + 1) : 2 * x2 + (x1 - x3) + 8 * x4 + 10 ≤ 2 * x2 + (x0 - x3) + 8 * x4 + 10 := by omega
theorem la_stepBehind_48 {x0 x1 x2 x3 x4 x5 : Int} (h0 : 0 ≤ x0) (h1 : x1 = x2 + 1) (h2 : x3 + 2 ≤ x2) (h3 : x4 = x5 + 2) : 2 * x4 ≤ 2 * x5 + (x1 - x3) + 8 * x0 + 10 := by omega
theorem la_stepBehind_49 {x0 x1 x2 x3 x4 : Int} (h0 : x0 = x1 + 1) (h1 : x2 ≤ x3 + 3 * (x1 - x4)) : x2 ≤ x3 + 3 * (x0 - x4) := by omega
theorem la_stepBehind_50 : (0 : Int) ≤ 5 := by omega
theorem la_stepBehind_51 : (5 : Int) ≤ 6 := by omega
theorem la_stepBehind_52 {x0 : Int} : (5 : Int) = 6 → (0 : Int) ≤ 1 ∧ 1 < x0 := by omega
theorem la_stepBehind_53 {x0 x1 x2 x3 x4 x5 x6 : Int} (h0 : 0 ≤ x0 → x1 ≤ x2) (h1 : 2 ≤ x3) (h2 : x4 = x2 + x3) (h3 : x5 = x0) (h4 : x6 = x1) : 0 ≤ x5 → x6 ≤ x4 := by omega
theorem la_stepBehind_54 {x0 x1 : Int} (h0 : x0 = x1) (h1 : 0 ≤ x0) : 0 ≤ x1 := by omega
theorem la_stepBehind_55 {x0 x1 x2 x3 x4 : Int} (h0 : 2 ≤ x0) (h1 : x1 = x2 + x0) (h2 : x3 = x4) (h3 : x4 ≤ x2) : x3 ≤ x1 := by omega
theorem la_stepBehind_56 : ¬ (0 : Int) = 29 := by omega
theorem la_stepBehind_57 : ¬ (0 : Int) = 17 := by omega
theorem la_stepBehind_58 {x0 x1 x2 : Int} : (0 : Int) = 17 → 0 ≤ x0 → x1 < x2 := by omega
theorem la_stepBehind_59 : (0 : Int) ≤ 14 := by omega
theorem la_stepBehind_60 : (14 : Int) ≤ 30 := by omega
theorem la_stepBehind_61 {x0 x1 x2 x3 x4 x5 x6 x7 x8 x9 x10 x11 x12 x13 x14 x15 x16 x17 x18 x19 x20 x21 x22 x23 : Int} (h0 : 0 ≤ x0) (h1 : x0 ≤ 1) (h2 : 0 ≤ x1) (h3 : 0 ≤ x2 → x3 ≤ x1) (h4 : 0 ≤ x4 → x5 ≤ x1) (h5 : 2 ≤ x6) (h6 : x7 = x8 + x9) (h7 : x9 = 1) (h8 : x10 = x11) (h9 : x11 = x12) (h10 : x13 = x14) (h11 : x14 = x15) (h12 : x16 = x17) (h13 : x17 = x18) (h14 : x8 = x1 + x6) (h15 : x12 = x2) (h16 : x15 = x4) (h17 : x18 = x3) (h18 : x19 = x5) (h19 : x20 = x19) (h20 : x21 = (-1)) (h21 : x22 = x10) (h22 : x23 = x13) : (0 ≤ x0 ∧ x0 ≤ 20) ∧ (0 ≤ x7 - 2 ∧ (0 ≤ x10 → x16 ≤ x7 - 2) ∧ (0 ≤ x13 → x20 ≤ x7 - 2)) ∧ x7 + x21 = x7 - 1 ∧ x22 = x10 ∧ x23 = x13 := by omega
theorem la_stepBehind_62 {x0 x1 x2 x3 : Int} : (21 : Int) ≤ 14 ∧ (14 : Int) ≤ 24 ∨ (14 : Int) = 27 ∨ (14 : Int) = 30 → 0 ≤ x0 ∧ x0 < x1 ∧ x2 = x3 := by omega
theorem la_stepBehind_63 : ¬ (14 : Int) = 1 := by omega
theorem la_stepBehind_64 {x0 : Int} (h0 : (14 : Int) = 2) : (-1) ≤ x0 := by omega
theorem la_stepBehind_65 {x0 x1 : Int} (h0 : (14 : Int) = 2) : x0 < x1 := by omega
theorem la_stepBehind_66 {x0 x1 : Int} (h0 : (14 : Int) = 2) : x0 = (-1) → x1 = 1 := by omega
theorem la_stepBehind_67 {x0 x1 : Int} (h0 : (14 : Int) = 2) : x0 < x1 + 1 := by omega
theorem la_stepBehind_68 {x0 : Int} (h0 : (14 : Int) = 2) : x0 < x0 := by omega
theorem la_stepBehind_69 {x0 : Int} (h0 : (14 : Int) = 2) : x0 = 2 := by omega
theorem la_stepBehind_70 {x0 : Int} (h0 : (14 : Int) = 2) : ¬ x0 = 2 := by omega
theorem la_stepBehind_71 {x0 : Int} (h0 : (14 : Int) = 2) : 0 ≤ x0 := by omega
theorem la_stepBehind_72 {x0 : Int} (h0 : (14 : Int) = 2) : x0 = 3 := by omega
theorem la_stepBehind_73 {x0 : Int} (h0 : (14 : Int) = 2) : x0 = 4 ∨ x0 = 5 ∨ x0 = 8 ∨ x0 = 9 := by omega
theorem la_stepBehind_74 {x0 x1 : Int} (h0 : (14 : Int) = 2) : x0 = x1 := by omega
theorem la_stepBehind_75 {x0 : Int} (h0 : (14 : Int) = 2) : 5 * x0 + 1 = 5 * x0 := by omega
theorem la_stepBehind_76 (h0 : (14 : Int) = 2) : False := by omega
theorem la_stepBehind_77 {x0 x1 x2 x3 : Int} (h0 : 0 ≤ x0) (h1 : x1 ≤ x2) (h2 : x2 ≤ x1 + 3 * (600 - x3) + x0) : 0 + 1 ≤ x0 + (600 - x3) + 9 := by omega
theorem la_stepBehind_78 {x0 x1 : Int} (h0 : x0 ≤ 12000) (h1 : 0 ≤ x1) (h2 : x1 < x0) : 0 ≤ x1 ∧ x1 < 12000 := by omega
theorem la_stepBehind_79 {x0 : Int} (h0 : x0 = 7) : ¬ x0 = 3 := by omega
theorem la_stepBehind_80 {x0 : Int} (h0 : x0 = 7) : ¬ (x0 = 4 ∨ x0 = 5 ∨ x0 = 8 ∨ x0 = 9) := by omega
theorem la_stepBehind_81 {x0 : Int} (h0 : x0 = 7) : 2 ≤ x0 := by omega
theorem la_stepBehind_82 {x0 : Int} (h0 : 2 ≤ x0) (h1 : ¬ x0 = 2) : 2 < x0 := by omega
theorem la_stepBehind_83 {x0 : Int} (h0 : 0 ≤ x0) : (-1) ≤ x0 := by omega
theorem la_stepBehind_84 {x0 x1 : Int} (h0 : x0 = 0) (h1 : 0 ≤ x1) : x1 = (-1) → x0 = 1 := by omega
theorem la_stepBehind_85 : ¬ (14 : Int) = 29 := by omega
theorem la_stepBehind_86 : ¬ (14 : Int) = 17 := by omega
theorem la_stepBehind_87 {x0 x1 x2 : Int} : (14 : Int) = 17 → 0 ≤ x0 → x1 < x2 := by omega
theorem la_stepBehind_88 : (0 : Int) ≤ 11 := by omega
theorem la_stepBehind_89 : (11 : Int) ≤ 30 := by omega
theorem la_stepBehind_90 {x0 x1 x2 x3 x4 x5 x6 x7 x8 x9 x10 x11 x12 x13 x14 x15 x16 x17 x18 x19 x20 x21 x22 x23 x24 x25 x26 x27 x28 x29 x30 x31 : Int} (h0 : 0 ≤ x0) (h1 : 0 ≤ x1 → x2 ≤ x0) (h2 : 0 ≤ x3 → x4 ≤ x0) (h3 : x5 = 4) (h4 : x6 = x7 + x8) (h5 : x8 = (-1)) (h6 : x9 = x10) (h7 : x10 = x11) (h8 : x12 = x13) (h9 : x13 = x14) (h10 : x15 = x16) (h11 : x16 = x17) (h12 : x7 = x18 + x19) (h13 : x19 = 1) (h14 : x11 = x20) (h15 : x20 = x21) (h16 : x14 = x22) (h17 : x22 = x23) (h18 : x17 = x24) (h19 : x24 = x25) (h20 : x26 = x27) (h21 : x18 = x0 + x5) (h22 : x21 = x1) (h23 : x23 = x3) (h24 : x25 = x2) (h25 : x28 = x4) (h26 : x27 = x28) (h27 : x29 = (-2)) (h28 : x30 = x9) (h29 : x31 = x12) : (0 ≤ x6 - 3 ∧ (0 ≤ x9 → x15 ≤ x6 - 3) ∧ (0 ≤ x12 → x26 ≤ x6 - 3)) ∧ x6 + x29 = x6 - 2 ∧ x30 = x9 ∧ x31 = x12 := by omega
theorem la_stepBehind_91 {x0 x1 x2 : Int} : (21 : Int) ≤ 11 ∧ (11 : Int) ≤ 24 ∨ (11 : Int) = 27 ∨ (11 : Int) = 30 → (0 : Int) ≤ 0 ∧ 0 < x0 ∧ x1 = x2 := by omega
theorem la_stepBehind_92 : ¬ (11 : Int) = 1 := by omega
theorem la_stepBehind_93 {x0 : Int} (h0 : (11 : Int) = 2) : (-1) ≤ x0 := by omega
theorem la_stepBehind_94 {x0 x1 : Int} (h0 : (11 : Int) = 2) : x0 < x1 := by omega
theorem la_stepBehind_95 {x0 x1 : Int} (h0 : (11 : Int) = 2) : x0 = (-1) → x1 = 1 := by omega
theorem la_stepBehind_96 {x0 x1 : Int} (h0 : (11 : Int) = 2) : x0 < x1 + 1 := by omega
theorem la_stepBehind_97 {x0 : Int} (h0 : (11 : Int) = 2) : x0 < x0 := by omega
theorem la_stepBehind_98 {x0 : Int} (h0 : (11 : Int) = 2) : 0 ≤ x0 := by omega
theorem la_stepBehind_99 {x0 x1 : Int} (h0 : (11 : Int) = 2) : x0 = x1 := by omega
theorem la_stepBehind_100 {x0 : Int} (h0 : (11 : Int) = 2) : 5 * x0 + 1 = 5 * x0 := by omega
theorem la_stepBehind_101 (h0 : (11 : Int) = 2) : False := by omega
theorem la_stepBehind_102 {x0 x1 x2 x3 x4 : Int} (h0 : x0 ≤ x1) (h1 : x1 ≤ x2) (h2 : x2 ≤ x3) (h3 : x3 ≤ x4) : x0 ≤ x4 := by omega
theorem la_stepBehind_103 {x0 x1 x2 x3 : Int} (h0 : x0 ≤ x1) (h1 : x1 ≤ x2) (h2 : x2 ≤ x3) : x0 ≤ x3 := by omega
theorem la_stepBehind_104 {x0 x1 x2 x3 : Int} (h0 : x0 ≤ x1) (h1 : x1 ≤ x2) (h2 : x2 ≤ x3) : x0 + 1 ≤ x3 + 1 := by omega
theorem la_stepBehind_105 {x0 x1 x2 : Int} (h0 : x0 ≤ x1) (h1 : x1 ≤ x2) : x0 + 1 ≤ x2 + 1 := by omega
theorem la_stepBehind_106 : ¬ (11 : Int) = 29 := by omega
theorem la_stepBehind_107 : ¬ (11 : Int) = 17 := by omega
theorem la_stepBehind_108 {x0 x1 x2 : Int} : (11 : Int) = 17 → 0 ≤ x0 → x1 < x2 := by omega
theorem la_stepBehind_109 {x0 x1 x2 x3 x4 : Int} (h0 : x0 = x1 + 1) (h1 : x1 = x2 + 1) (h2 : x2 = x3 + 1) (h3 : x4 ≤ x3) : x4 ≤ x0 := by omega
theorem la_stepBehind_110 {x0 x1 x2 x3 x4 x5 : Int} (h0 : x0 = 4) (h1 : x1 = x2 + 1) (h2 : x2 = x3 + 1) (h3 : x3 = x4 + 1) (h4 : x5 + x0 ≤ x4) : x5 + 2 ≤ x1 := by omega
theorem la_stepBehind_111 {x0 x1 x2 x3 x4 : Int} (h0 : x0 = 4) (h1 : x1 = x2 + 1) (h2 : x2 = x3 + 1) (h3 : x4 + x0 ≤ x3) : x4 < x1 := by omega
theorem la_stepBehind_112 {x0 x1 x2 x3 : Int} (h0 : x0 = 4) (h1 : x1 = x2 + 1) (h2 : x3 + x0 ≤ x2) : x3 < x1 := by omega
theorem la_stepBehind_113 {x0 x1 x2 : Int} (h0 : x0 = 4) (h1 : x1 + x0 ≤ x2) : x1 < x2 := by omega
theorem la_stepBehind_114 {x0 x1 x2 : Int} (h0 : x0 = x1 + 1) (h1 : x1 = x2 + 1) : x2 ≤ x0 := by omega
theorem la_stepBehind_115 {x0 x1 x2 : Int} (h0 : x0 = x1 + 1) (h1 : x1 = x2 + 1) : x2 < x0 := by omega
theorem la_stepBehind_116 {x0 x1 : Int} (h0 : x0 = x1 + 1) : x1 < x0 := by omega
theorem la_stepBehind_117 {x0 x1 x2 : Int} (h0 : x0 = x1 + 1) (h1 : x1 = x2 + 1) : x2 + 1 < x0 := by omega
theorem la_stepBehind_118 {x0 x1 : Int} (h0 : x0 ≤ x1 + 1) (h1 : x0 = x1 + 1) : x1 + 1 = x0 := by omega
theorem la_stepBehind_119 {x0 x1 x2 : Int} (h0 : x0 ≤ x1 + 1) (h1 : x2 ≤ x0 + 1) (h2 : x2 = x0 + 1) (h3 : x0 = x1 + 1) : x1 + 1 + 1 = x2 := by omega
theorem la_stepBehind_120 {x0 x1 x2 x3 : Int} (h0 : x0 ≤ x1 + 1) (h1 : x2 ≤ x0 + 1) (h2 : x3 ≤ x2 + 1) : x3 ≤ x1 + 1 + 1 + 1 := by omega
theorem la_stepBehind_121 {x0 x1 x2 x3 x4 x5 x6 x7 x8 : Int} (h0 : x0 ≤ 4) (h1 : x0 = 4) (h2 : x1 = x2 + x3) (h3 : x3 = (-2)) (h4 : x2 = x4 + x5) (h5 : x5 = (-1)) (h6 : x4 = x6 + x7) (h7 : x7 = 1) (h8 : x6 = x8 + x0) : x1 = x8 + 2 := by omega
theorem la_stepBehind_122 {x0 x1 x2 x3 x4 x5 x6 x7 : Int} (h0 : x0 = x1) (h1 : x1 = x2) (h2 : x2 = x3) (h3 : x3 = x4) (h4 : x4 = x5) (h5 : x5 = x6) (h6 : x6 = x7) : x0 = x7 := by omega
theorem la_stepBehind_123 {x0 x1 x2 x3 x4 : Int} (h0 : x0 = x1) (h1 : x1 = x2) (h2 : x3 = x4) (h3 : x2 = x3) : x0 = x4 := by omega
theorem la_stepBehind_124 {x0 x1 x2 x3 x4 : Int} (h0 : x0 = 4) (h1 : x1 = x2 + 1) (h2 : x2 = x3 + 1) (h3 : x4 + x0 ≤ x3) : x4 < x1 + 1 := by omega
theorem la_stepBehind_125 {x0 x1 x2 x3 : Int} (h0 : x0 = 4) (h1 : x1 = x2 + 1) (h2 : x3 + x0 ≤ x2) : x3 < x1 + 1 := by omega
theorem la_stepBehind_126 {x0 x1 x2 : Int} (h0 : x0 = 4) (h1 : x1 + x0 ≤ x2) : x1 < x2 + 1 := by omega
theorem la_stepBehind_127 {x0 x1 x2 x3 x4 x5 x6 x7 : Int} (h0 : 0 ≤ x0) (h1 : x1 = 4) (h2 : x2 = x3 + 1) (h3 : x3 = x4 + 1) (h4 : x4 = x5 + 1) (h5 : x6 + x1 ≤ x5) : 2 * x7 ≤ 2 * x7 + (x2 - x6) + 8 * x0 + 10 := by omega
theorem la_stepBehind_128 {x0 x1 x2 x3 x4 : Int} (h0 : x0 = 4) (h1 : x1 = x2 + 1) (h2 : x2 = x3 + 1) (h3 : x4 + x0 ≤ x3) : x4 + 1 < x1 + 1 := by omega
theorem la_stepBehind_129 {x0 x1 x2 x3 : Int} (h0 : x0 = 4) (h1 : x1 = x2 + 1) (h2 : x3 + x0 ≤ x2) : x3 + 1 < x1 + 1 := by omega
theorem la_stepBehind_130 {x0 x1 x2 : Int} (h0 : x0 = 4) (h1 : x1 + x0 ≤ x2) : x1 + 1 < x2 + 1 := by omega
theorem la_stepBehind_131 {x0 x1 x2 : Int} (h0 : x0 = 4) (h1 : x1 + x0 ≤ x2) : x1 + 1 ≤ x2 := by omega
theorem la_stepBehind_132 {x0 x1 x2 x3 x4 x5 x6 : Int} (h0 : x0 = x1 + 1) (h1 : x1 = x2 + 1) (h2 : x2 = x3 + 1) : 2 * x4 + (x3 - x5) + 8 * x6 + 10 ≤ 2 * x4 + (x0 - x5) + 8 * x6 + 10 := by omega
theorem la_stepBehind_133 {x0 x1 x2 : Int} (h0 : x0 = x1 + 1) (h1 : x1 = x2 + 1) : x2 ≤ x0 + 1 := by omega
theorem la_stepBehind_134 {x0 x1 : Int} (h0 : x0 = x1 + 1) : x1 ≤ x0 + 1 := by omega
theorem la_stepBehind_135 {x0 x1 x2 : Int} (h0 : x0 = x1 + 1) (h1 : x1 = x2 + 1) : x2 < x0 + 1 := by omega
theorem la_stepBehind_136 {x0 x1 : Int} (h0 : x0 = x1 + 1) : x1 < x0 + 1 := by omega
theorem la_stepBehind_137 {x0 x1 x2 x3 x4 x5 x6 x7 x8 : Int} (h0 : 0 ≤ x0) (h1 : x1 ≤ 4) (h2 : x2 = x3 + 1) (h3 : x3 = x4 + 1) (h4 : x4 = x5 + 1) (h5 : x6 + x1 ≤ x5) (h6 : x7 = x8 + x1) : 2 * x7 ≤ 2 * x8 + (x2 - x6) + 8 * x0 + 10 := by omega
theorem la_stepBehind_138 {x0 x1 x2 : Int} (h0 : x0 = x1 + 1) (h1 : x1 = x2 + 1) : x2 + 1 < x0 + 1 := by omega
theorem la_stepBehind_139 {x0 x1 : Int} (h0 : x0 = x1 + 1) : x1 + 1 < x0 + 1 := by omega
theorem la_stepBehind_140 {x0 x1 x2 x3 x4 x5 x6 x7 x8 x9 : Int} (h0 : 0 ≤ x0) (h1 : x1 ≤ 4) (h2 : x2 = x3 + 1) (h3 : x3 = x4 + 1) (h4 : x4 = x5 + 1) (h5 : x6 = 1) (h6 : x7 + x1 ≤ x5) (h7 : x8 = x9 + x1) : 2 * (x8 + x6) ≤ 2 * x9 + (x2 - x7) + 8 * x0 + 10 := by omega
theorem la_stepBehind_141 {x0 x1 x2 : Int} (h0 : x0 = x1 + 1) (h1 : x1 = x2 + 1) : x2 + 1 + 1 < x0 + 1 := by omega
theorem la_stepBehind_142 {x0 x1 x2 x3 x4 x5 x6 x7 x8 x9 x10 x11 : Int} (h0 : 0 ≤ x0) (h1 : x1 ≤ 4) (h2 : x2 = x3 + 1) (h3 : x3 = x4 + 1) (h4 : x5 = (-1)) (h5 : x4 = x6 + 1) (h6 : x7 = x8 + x9) (h7 : x9 = 1) (h8 : x10 + x1 ≤ x6) (h9 : x8 = x11 + x1) : 2 * (x7 + x5) ≤ 2 * x11 + (x2 - x10) + 8 * x0 + 10 := by omega
theorem la_stepBehind_143 {x0 x1 x2 x3 x4 x5 x6 : Int} (h0 : x0 = x1 + 1) (h1 : x1 = x2 + 1) (h2 : x2 = x3 + 1) (h3 : x4 ≤ x5 + 3 * (x3 - x6)) : x4 ≤ x5 + 3 * (x0 - x6) := by omega
theorem la_stepBehind_144 {x0 : Int} (h0 : ¬ ¬ x0 = 2) : x0 = 2 := by omega
theorem la_stepBehind_145 {x0 : Int} (h0 : ¬ ¬ x0 = 2) : ¬ x0 = 7 := by omega
theorem la_stepBehind_146 {x0 : Int} (h0 : ¬ ¬ x0 = 2) : ¬ x0 = 3 := by omega
theorem la_stepBehind_147 {x0 : Int} (h0 : ¬ ¬ x0 = 2) : ¬ (x0 = 4 ∨ x0 = 5 ∨ x0 = 8 ∨ x0 = 9) := by omega
theorem la_stepBehind_148 {x0 x1 : Int} (h0 : x0 ≤ 12000) (h1 : 0 ≤ x1) (h2 : x1 < x0) : 0 ≤ x1 ∧ x1 < 12000 ∧ (0 : Int) ≤ 0 ∧ (0 : Int) ≤ 4 := by omega
theorem la_stepBehind_149 : (2 : Int) = 1 ∧ ((4 : Int) = 3 ∨ (4 : Int) = 5) ∨ (2 : Int) = 2 ∧ (4 : Int) = 4 := by omega
theorem la_stepBehind_150 {x0 x1 x2 x3 x4 x5 x6 : Int} (h0 : x0 < x1) (h1 : 2 ≤ x2) (h2 : x3 = x4) (h3 : x4 = x5) (h4 : x1 + x2 ≤ x6) (h5 : x5 = x0) : x3 < x6 + 1 := by omega
theorem la_stepBehind_151 {x0 x1 x2 x3 x4 x5 x6 x7 x8 x9 : Int} (h0 : x0 < x1) (h1 : 2 ≤ x2) (h2 : x3 = x4) (h3 : x4 = x5) (h4 : x6 = x7 + 1) (h5 : x5 = x8) (h6 : x8 = x9) (h7 : x1 + x2 ≤ x7) (h8 : x9 = x0) : x3 < x6 + 1 := by omega
theorem la_stepBehind_152 {x0 x1 x2 x3 x4 x5 x6 x7 x8 : Int} (h0 : x0 < x1) (h1 : 2 ≤ x2) (h2 : x3 = x4) (h3 : x4 = x5) (h4 : x5 = x6) (h5 : x6 = x7) (h6 : x1 + x2 ≤ x8) (h7 : x7 = x0) : x3 < x8 + 1 := by omega
theorem la_stepBehind_153 {x0 x1 x2 x3 x4 x5 x6 : Int} (h0 : x0 < x1) (h1 : x2 = x3) (h2 : x3 = x4) (h3 : x4 = x5) (h4 : x5 = x6) (h5 : x6 = x0) : x2 < x1 + 1 := by omega
theorem la_stepBehind_154 {x0 x1 x2 x3 x4 x5 : Int} (h0 : x0 = x1) (h1 : x1 = x2) (h2 : x2 = x3) (h3 : x3 = x4) (h4 : x4 = x5) : x0 = x5 := by omega
theorem la_stepBehind_155 {x0 x1 x2 : Int} (h0 : x0 = x1) (h1 : x1 = x2) : x2 = x0 := by omega
theorem la_stepBehind_156 {x0 x1 x2 x3 x4 : Int} (h0 : x0 = x1) (h1 : x1 = x2) (h2 : x2 = x3) (h3 : x3 = x4) : x4 = x0 := by omega
theorem la_stepBehind_157 {x0 : Int} : 5 * x0 + 0 = 5 * x0 := by omega
theorem la_stepBehind_158 {x0 x1 : Int} (h0 : 0 ≤ x0) (h1 : x1 = x0) : 0 ≤ x1 := by omega
theorem la_stepBehind_159 {x0 x1 x2 : Int} (h0 : x0 < x1) (h1 : x2 = x0) : x2 < x1 := by omega
theorem la_stepBehind_160 {x0 x1 x2 x3 x4 : Int} : (2 : Int) = 1 → (0 ≤ x0 → x1 ≤ x2) ∧ (0 ≤ x3 → x4 ≤ x2) := by omega
theorem la_stepBehind_161 {x0 x1 x2 x3 x4 x5 x6 : Int} (h0 : 0 ≤ x0) (h1 : 2 ≤ x1) (h2 : x2 = x3 + x4) (h3 : x4 = (-1)) (h4 : x3 = x5 + x6) (h5 : x6 = 1) (h6 : x5 = x0 + x1) : 1 ≤ x2 := by omega
theorem la_stepBehind_162 {x0 x1 x2 x3 x4 x5 x6 x7 x8 x9 x10 x11 x12 x13 x14 x15 x16 x17 x18 : Int} (h0 : 0 ≤ x0 → x1 ≤ x2) (h1 : x3 = 2) (h2 : x4 = x5 + x6) (h3 : x6 = (-1)) (h4 : x7 = x8) (h5 : x8 = x9) (h6 : x10 = x11) (h7 : x11 = x12) (h8 : x5 = x13 + x14) (h9 : x14 = 1) (h10 : x9 = x15) (h11 : x15 = x16) (h12 : x12 = x17) (h13 : x17 = x18) (h14 : x13 = x2 + x3) (h15 : x16 = x0) (h16 : x18 = x1) : 0 ≤ x7 → x10 ≤ x4 - 1 := by omega
theorem la_stepBehind_163 {x0 x1 x2 x3 x4 x5 x6 : Int} (h0 : x0 < x1) (h1 : x2 = 2) (h2 : x3 = x4) (h3 : x4 = x5) (h4 : x1 + x2 ≤ x6) (h5 : x5 = x0) : x3 < x6 + 1 := by omega
theorem la_stepBehind_164 {x0 x1 x2 x3 x4 x5 x6 x7 x8 x9 x10 x11 x12 x13 x14 x15 x16 : Int} (h0 : 0 ≤ x0 → x1 ≤ x2) (h1 : 2 ≤ x3) (h2 : x4 = x5 + x6) (h3 : x6 = (-1)) (h4 : x7 = x8) (h5 : x8 = x9) (h6 : x5 = x10 + x11) (h7 : x11 = 1) (h8 : x9 = x12) (h9 : x12 = x13) (h10 : x14 = x15) (h11 : x10 = x2 + x3) (h12 : x13 = x0) (h13 : x16 = x1) (h14 : x15 = x16) (h15 : 0 ≤ x7) : x14 ≤ x4 - 1 := by omega
theorem la_stepBehind_165 {x0 x1 : Int} (h0 : x0 ≤ 600) (h1 : 0 ≤ x1) : 2 + 1 ≤ x1 + (600 - x0) + 9 := by omega
theorem la_stepBehind_166 : ¬ (2 : Int) = 1 := by omega
theorem la_stepBehind_167 {x0 x1 x2 x3 x4 x5 : Int} (h0 : 2 ≤ x0) (h1 : x1 = x2 + 1) (h2 : x2 = x3 + 1) (h3 : x3 = x4 + 1) (h4 : x5 + x0 ≤ x4) : x5 + 2 ≤ x1 := by omega
theorem la_stepBehind_168 {x0 x1 x2 x3 x4 : Int} (h0 : 2 ≤ x0) (h1 : x1 = x2 + 1) (h2 : x2 = x3 + 1) (h3 : x4 + x0 ≤ x3) : x4 < x1 := by omega
theorem la_stepBehind_169 {x0 x1 x2 x3 : Int} (h0 : x0 = 2) (h1 : x1 = x2 + 1) (h2 : x3 + x0 ≤ x2) : x3 < x1 := by omega
theorem la_stepBehind_170 {x0 x1 x2 : Int} (h0 : x0 = 2) (h1 : x1 + x0 ≤ x2) : x1 < x2 := by omega
theorem la_stepBehind_171 {x0 x1 x2 x3 : Int} (h0 : x0 ≤ x1 + 1) (h1 : x2 ≤ x0 + 1) (h2 : x3 = x2 + 1) : x3 ≤ x1 + 1 + 1 + 1 := by omega
theorem la_stepBehind_172 {x0 x1 x2 x3 x4 x5 x6 x7 x8 : Int} (h0 : 2 ≤ x0) (h1 : x0 = 2) (h2 : x1 = 0) (h3 : x2 = x3 + x1) (h4 : x3 = x4 + x5) (h5 : x5 = (-1)) (h6 : x4 = x6 + x7) (h7 : x7 = 1) (h8 : x6 = x8 + x0) : x2 = x8 + 2 := by omega
theorem la_stepBehind_173 {x0 x1 x2 x3 x4 x5 x6 : Int} (h0 : x0 = x1) (h1 : x1 = x2) (h2 : x2 = x3) (h3 : x3 = x4) (h4 : x4 = x5) (h5 : x5 = x6) : x0 = x6 := by omega
theorem la_stepBehind_174 {x0 x1 x2 x3 x4 : Int} (h0 : 2 ≤ x0) (h1 : x1 = x2 + 1) (h2 : x2 = x3 + 1) (h3 : x4 + x0 ≤ x3) : x4 < x1 + 1 := by omega
theorem la_stepBehind_175 {x0 x1 x2 x3 : Int} (h0 : 2 ≤ x0) (h1 : x1 = x2 + 1) (h2 : x3 + x0 ≤ x2) : x3 < x1 + 1 := by omega
theorem la_stepBehind_176 {x0 x1 x2 : Int} (h0 : x0 = 2) (h1 : x1 + x0 ≤ x2) : x1 < x2 + 1 := by omega
theorem la_stepBehind_177 {x0 x1 x2 x3 x4 x5 x6 x7 : Int} (h0 : 0 ≤ x0) (h1 : 2 ≤ x1) (h2 : x2 = x3 + 1) (h3 : x3 = x4 + 1) (h4 : x4 = x5 + 1) (h5 : x6 + x1 ≤ x5) : 2 * x7 ≤ 2 * x7 + (x2 - x6) + 8 * x0 + 10 := by omega
theorem la_stepBehind_178 {x0 x1 x2 x3 x4 : Int} (h0 : 2 ≤ x0) (h1 : x1 = x2 + 1) (h2 : x2 = x3 + 1) (h3 : x4 + x0 ≤ x3) : x4 + 1 < x1 + 1 := by omega
theorem la_stepBehind_179 {x0 x1 x2 x3 : Int} (h0 : x0 = 2) (h1 : x1 = x2 + 1) (h2 : x3 + x0 ≤ x2) : x3 + 1 < x1 + 1 := by omega
theorem la_stepBehind_180 {x0 x1 x2 : Int} (h0 : x0 = 2) (h1 : x1 + x0 ≤ x2) : x1 + 1 < x2 + 1 := by omega
theorem la_stepBehind_181 {x0 x1 x2 : Int} (h0 : x0 = 2) (h1 : x1 + x0 ≤ x2) : x1 + 1 ≤ x2 := by omega
theorem la_stepBehind_182 {x0 x1 x2 x3 x4 x5 x6 x7 x8 : Int} (h0 : 0 ≤ x0) (h1 : x1 = 2) (h2 : x2 = x3 + 1) (h3 : x3 = x4 + 1) (h4 : x4 = x5 + 1) (h5 : x6 + x1 ≤ x5) (h6 : x7 = x8 + x1) : 2 * x7 ≤ 2 * x8 + (x2 - x6) + 8 * x0 + 10 := by omega
theorem la_stepBehind_183 {x0 x1 x2 x3 x4 x5 x6 x7 x8 x9 : Int} (h0 : 0 ≤ x0) (h1 : x1 = 2) (h2 : x2 = x3 + 1) (h3 : x3 = x4 + 1) (h4 : x4 = x5 + 1) (h5 : x6 = 1) (h6 : x7 + x1 ≤ x5) (h7 : x8 = x9 + x1) : 2 * (x8 + x6) ≤ 2 * x9 + (x2 - x7) + 8 * x0 + 10 := by omega
theorem la_stepBehind_184 {x0 x1 x2 x3 x4 x5 x6 x7 x8 x9 x10 x11 : Int} (h0 : 0 ≤ x0) (h1 : x1 = 2) (h2 : x2 = x3 + 1) (h3 : x3 = x4 + 1) (h4 : x5 = (-1)) (h5 : x4 = x6 + 1) (h6 : x7 = x8 + x9) (h7 : x9 = 1) (h8 : x10 + x1 ≤ x6) (h9 : x8 = x11 + x1) : 2 * (x7 + x5) ≤ 2 * x11 + (x2 - x10) + 8 * x0 + 10 := by omega
theorem la_stepBehind_185 {x0 x1 x2 : Int} (h0 : x0 ≤ 12000) (h1 : x1 < x0) (h2 : 0 ≤ x2) (h3 : x2 < x1) : 0 ≤ x1 ∧ x1 < 12000 ∧ (0 : Int) ≤ 0 ∧ (0 : Int) ≤ 4 := by omega
theorem la_stepBehind_186 {x0 x1 : Int} (h0 : x0 ≤ 600) (h1 : 0 ≤ x1) : 0 + 1 ≤ x1 + (600 - x0) + 9 := by omega
theorem la_stepBehind_187 {x0 x1 x2 x3 : Int} (h0 : x0 < x1) (h1 : x2 < x0) (h2 : x3 = x2) : x3 < x1 := by omega
theorem la_stepBehind_188 {x0 x1 : Int} (h0 : x0 = 1) (h1 : x1 = x0) : x1 = 1 := by omega
theorem la_stepBehind_189 {x0 x1 x2 x3 x4 x5 : Int} (h0 : x0 ≤ x1) (h1 : x2 < x3) (h2 : x4 = x0) (h3 : x5 = x2) : 12001 * x4 + x5 ≤ 12001 * x1 + x3 := by omega
theorem la_stepBehind_190 {x0 x1 x2 x3 x4 : Int} (h0 : x0 + 3 * (600 - x1) + x2 ≤ 8000) (h1 : x3 ≤ x2) (h2 : x4 = x3) : x0 + 3 * (600 - x1) + x4 ≤ 8000 := by omega
theorem la_stepBehind_191 {x0 x1 x2 x3 : Int} (h0 : x0 ≤ 600) (h1 : 0 ≤ x1) (h2 : x2 = x1) (h3 : x3 = x2 + (600 - x0) + 8) : 0 ≤ x3 := by omega
theorem la_stepBehind_192 {x0 x1 x2 x3 x4 x5 : Int} (h0 : x0 + (600 - x1) + 9 = x2) (h1 : x3 ≤ x0) (h2 : x4 = x3) (h3 : x5 = x4 + (600 - x1) + 8) : x5 < x2 := by omega
theorem la_stepBehind_193 {x0 x1 x2 x3 x4 : Int} (h0 : x0 ≤ x1) (h1 : x2 = x0) (h2 : x3 = x2 + (600 - x4) + 8) : x3 + 1 ≤ x1 + (600 - x4) + 9 := by omega
theorem la_stepBehind_194 {x0 x1 x2 : Int} (h0 : x0 ≤ 12000) (h1 : x1 < x0) (h2 : 0 ≤ x2) (h3 : x2 < x1) : 0 ≤ x1 ∧ x1 < 12000 ∧ (0 : Int) ≤ 1 ∧ (1 : Int) ≤ 4 := by omega
theorem la_stepBehind_195 {x0 x1 : Int} (h0 : x0 = x1) : x0 ≤ x1 := by omega
theorem la_stepBehind_196 {x0 x1 x2 x3 : Int} (h0 : x0 ≤ x1 - 1) (h1 : x2 < x3) : 12001 * x0 + x2 ≤ 12001 * x1 + x3 := by omega
theorem la_stepBehind_197 {x0 x1 x2 x3 x4 x5 : Int} (h0 : 0 ≤ x0 → x1 ≤ x2) (h1 : x3 = x2 + 1) (h2 : x4 = x0) (h3 : x5 = x1) : 0 ≤ x4 → x5 ≤ x3 := by omega
theorem la_stepBehind_198 {x0 x1 x2 x3 : Int} (h0 : x0 ≤ x1) (h1 : x1 + 1 ≤ x2) (h2 : x3 = x0 + 1) : x3 ≤ x2 := by omega
theorem la_stepBehind_199 {x0 x1 x2 x3 x4 x5 : Int} (h0 : x0 + 3 * (600 - x1) + x2 ≤ 8000) (h1 : x3 ≤ x2 - 1) (h2 : x4 ≤ x0 + 3 * (x5 - x1)) : x4 + 3 * (600 - x5) + x3 ≤ 8000 := by omega
theorem la_stepBehind_200 {x0 x1 x2 : Int} (h0 : 0 ≤ x0) (h1 : x1 ≤ 600) (h2 : x2 = x0 + (600 - x1) + 8) : 0 ≤ x2 := by omega
theorem la_stepBehind_201 {x0 : Int} (h0 : 0 ≤ x0) (h1 : ¬ x0 = 0) : 0 < x0 := by omega
theorem la_stepBehind_202 {x0 : Int} (h0 : x0 = 4) : 0 ≤ x0 := by omega
theorem la_stepBehind_203 {x0 x1 x2 x3 x4 x5 : Int} (h0 : x0 + (600 - x1) + 9 = x2) (h1 : x3 ≤ x0 - 1) (h2 : x4 = x3 + (600 - x5) + 8) (h3 : x1 + 1 ≤ x5) : x4 < x2 := by omega
theorem la_stepBehind_204 {x0 x1 x2 x3 x4 : Int} (h0 : x0 ≤ 600) (h1 : x1 + (600 - x0) + 9 = x2) (h2 : x3 ≤ x1 - 1) (h3 : 0 ≤ x3) (h4 : x4 = 4) : x4 < x2 := by omega
theorem la_stepBehind_205 {x0 x1 x2 x3 x4 : Int} (h0 : x0 ≤ x1 - 1) (h1 : x2 = x0 + (600 - x3) + 8) (h2 : x4 + 1 ≤ x3) : x2 + 1 ≤ x1 + (600 - x4) + 9 := by omega
theorem la_stepBehind_206 {x0 x1 x2 : Int} (h0 : x0 ≤ 600) (h1 : 0 ≤ x1) (h2 : x2 = 4) : x2 + 1 ≤ x1 + (600 - x0) + 9 := by omega
theorem la_stepBehind_207 : (0 : Int) ≤ 19 := by omega
theorem la_stepBehind_208 : (19 : Int) ≤ 30 := by omega
theorem la_stepBehind_209 {x0 x1 x2 x3 x4 x5 x6 x7 x8 x9 x10 x11 x12 x13 x14 x15 x16 x17 x18 x19 x20 : Int} (h0 : 0 ≤ x0) (h1 : 0 ≤ x1 → x2 ≤ x0) (h2 : 0 ≤ x3 → x4 ≤ x0) (h3 : x0 ≤ x5) (h4 : x6 + 1 ≤ x7) (h5 : x8 = x9 + 1) (h6 : x10 = x11) (h7 : x12 = x13) (h8 : x14 = x15) (h9 : x16 = x17) (h10 : x5 + 1 ≤ x6) (h11 : x9 = x0 + 1) (h12 : x11 = x1) (h13 : x13 = x3) (h14 : x15 = x2) (h15 : x17 = x4) (h16 : x18 = 2) (h17 : x19 = x10) (h18 : x20 = x12) : x8 ≤ x7 ∧ (0 ≤ x8 - 2 ∧ (0 ≤ x10 → x14 ≤ x8 - 2) ∧ (0 ≤ x12 → x16 ≤ x8 - 2)) ∧ x8 + x18 = x8 + 2 ∧ x19 = x10 ∧ x20 = x12 := by omega
theorem la_stepBehind_210 {x0 x1 x2 : Int} : (21 : Int) ≤ 19 ∧ (19 : Int) ≤ 24 ∨ (19 : Int) = 27 ∨ (19 : Int) = 30 → (0 : Int) ≤ 0 ∧ 0 < x0 ∧ x1 = x2 := by omega
theorem la_stepBehind_211 : ¬ (19 : Int) = 1 := by omega
theorem la_stepBehind_212 {x0 : Int} (h0 : (19 : Int) = 2) : (-1) ≤ x0 := by omega
theorem la_stepBehind_213 {x0 x1 : Int} (h0 : (19 : Int) = 2) : x0 < x1 := by omega
theorem la_stepBehind_214 {x0 x1 : Int} (h0 : (19 : Int) = 2) : x0 = (-1) → x1 = 1 := by omega
theorem la_stepBehind_215 {x0 : Int} (h0 : (19 : Int) = 2) : x0 = 3 := by omega
theorem la_stepBehind_216 {x0 x1 : Int} (h0 : (19 : Int) = 2) : x0 < x1 + 1 := by omega
theorem la_stepBehind_217 {x0 : Int} (h0 : (19 : Int) = 2) : 0 ≤ x0 := by omega
theorem la_stepBehind_218 {x0 : Int} (h0 : (19 : Int) = 2) : x0 = 4 ∨ x0 = 5 ∨ x0 = 8 ∨ x0 = 9 := by omega
theorem la_stepBehind_219 {x0 x1 : Int} (h0 : (19 : Int) = 2) : x0 = x1 := by omega
theorem la_stepBehind_220 {x0 x1 : Int} (h0 : (19 : Int) = 2) : 5 * x0 + 1 = 5 * x1 := by omega
theorem la_stepBehind_221 {x0 x1 : Int} (h0 : (19 : Int) = 2) : 5 * x0 + 1 = 5 * x1 + 1 := by omega
theorem la_stepBehind_222 {x0 x1 : Int} (h0 : (19 : Int) = 2) : 5 * x0 + 0 = 5 * x1 + 1 := by omega
theorem la_stepBehind_223 {x0 : Int} (h0 : (19 : Int) = 2) : 5 * x0 + 1 = 5 * x0 := by omega
theorem la_stepBehind_224 {x0 : Int} (h0 : (19 : Int) = 2) : 5 * x0 + 1 = 5 * x0 + 0 := by omega
theorem la_stepBehind_225 (h0 : (19 : Int) = 2) : False := by omega
theorem la_stepBehind_226 {x0 x1 : Int} (h0 : x0 ≤ 600) (h1 : 0 ≤ x1) : 1 + 1 ≤ x1 + (600 - x0) + 9 := by omega
theorem la_stepBehind_227 : ¬ (19 : Int) = 29 := by omega
theorem la_stepBehind_228 : ¬ (19 : Int) = 17 := by omega
theorem la_stepBehind_229 {x0 x1 x2 : Int} : (19 : Int) = 17 → 0 ≤ x0 → x1 < x2 := by omega
theorem la_stepBehind_230 : (0 : Int) ≤ 10 := by omega
theorem la_stepBehind_231 : (10 : Int) ≤ 30 := by omega
theorem la_stepBehind_232 {x0 x1 x2 x3 x4 x5 x6 x7 x8 x9 x10 x11 x12 x13 x14 x15 x16 x17 x18 x19 x20 x21 x22 x23 x24 x25 x26 : Int} (h0 : 0 ≤ x0 → x1 ≤ x2) (h1 : 0 ≤ x3 → x4 ≤ x2) (h2 : x5 = x6 + x7) (h3 : x7 = 2) (h4 : x8 = x9) (h5 : x9 = x10) (h6 : x11 = x12) (h7 : x12 = x13) (h8 : x14 = x15) (h9 : x15 = x16) (h10 : x6 = x17 + 1) (h11 : x10 = x18) (h12 : x13 = x19) (h13 : x16 = x20) (h14 : x21 = x22) (h15 : x23 = x21) (h16 : 0 ≤ x17) (h17 : x17 = x2 + 1) (h18 : x18 = x0) (h19 : x19 = x3) (h20 : x20 = x1) (h21 : x22 = x4) (h22 : x24 = (-1)) (h23 : x25 = x8) (h24 : x26 = x11) : (0 ≤ x5 - 2 ∧ (0 ≤ x8 → x14 ≤ x5 - 2) ∧ (0 ≤ x11 → x23 ≤ x5 - 2)) ∧ x5 + x24 = x5 - 1 ∧ x25 = x8 ∧ x26 = x11 := by omega
theorem la_stepBehind_233 {x0 x1 x2 : Int} : (21 : Int) ≤ 10 ∧ (10 : Int) ≤ 24 ∨ (10 : Int) = 27 ∨ (10 : Int) = 30 → (0 : Int) ≤ 0 ∧ 0 < x0 ∧ x1 = x2 := by omega
theorem la_stepBehind_234 : ¬ (10 : Int) = 1 := by omega
theorem la_stepBehind_235 {x0 : Int} (h0 : (10 : Int) = 2) : (-1) ≤ x0 := by omega
theorem la_stepBehind_236 {x0 x1 : Int} (h0 : (10 : Int) = 2) : x0 < x1 := by omega
theorem la_stepBehind_237 {x0 x1 : Int} (h0 : (10 : Int) = 2) : x0 = (-1) → x1 = 1 := by omega
theorem la_stepBehind_238 {x0 : Int} (h0 : (10 : Int) = 2) : x0 = 3 := by omega
theorem la_stepBehind_239 {x0 x1 : Int} (h0 : (10 : Int) = 2) : x0 < x1 + 1 := by omega
theorem la_stepBehind_240 {x0 : Int} (h0 : (10 : Int) = 2) : x0 < x0 := by omega
theorem la_stepBehind_241 {x0 : Int} (h0 : (10 : Int) = 2) : 0 ≤ x0 := by omega
theorem la_stepBehind_242 {x0 : Int} (h0 : (10 : Int) = 2) : x0 = 4 ∨ x0 = 5 ∨ x0 = 8 ∨ x0 = 9 := by omega
theorem la_stepBehind_243 {x0 x1 : Int} (h0 : (10 : Int) = 2) : x0 = x1 := by omega
theorem la_stepBehind_244 {x0 x1 : Int} (h0 : (10 : Int) = 2) : 5 * x0 + 1 = 5 * x1 := by omega
theorem la_stepBehind_245 {x0 x1 : Int} (h0 : (10 : Int) = 2) : 5 * x0 + 1 = 5 * x1 + 1 := by omega
theorem la_stepBehind_246 {x0 x1 : Int} (h0 : (10 : Int) = 2) : 5 * x0 + 0 = 5 * x1 + 1 := by omega
theorem la_stepBehind_247 {x0 : Int} (h0 : (10 : Int) = 2) : 5 * x0 + 1 = 5 * x0 := by omega
theorem la_stepBehind_248 {x0 : Int} (h0 : (10 : Int) = 2) : 5 * x0 + 1 = 5 * x0 + 0 := by omega
theorem la_stepBehind_249 (h0 : (10 : Int) = 2) : False := by omega
theorem la_stepBehind_250 : ¬ (10 : Int) = 29 := by omega
theorem la_stepBehind_251 : ¬ (10 : Int) = 17 := by omega
theorem la_stepBehind_252 {x0 x1 x2 : Int} : (10 : Int) = 17 → 0 ≤ x0 → x1 < x2 := by omega
theorem la_stepBehind_253 : (0 : Int) ≤ 13 := by omega
theorem la_stepBehind_254 : (13 : Int) ≤ 30 := by omega
theorem la_stepBehind_255 {x0 x1 x2 x3 x4 x5 x6 x7 x8 x9 x10 x11 x12 x13 x14 x15 x16 x17 x18 x19 x20 x21 x22 x23 x24 x25 x26 x27 x28 x29 x30 x31 x32 x33 x34 x35 : Int} (h0 : 0 ≤ x0 → x1 ≤ x2) (h1 : 0 ≤ x3 → x4 ≤ x2) (h2 : x5 = x6 + x7) (h3 : x7 = (-1)) (h4 : x8 = x9) (h5 : x9 = x10) (h6 : x11 = x12) (h7 : x12 = x13) (h8 : x14 = x15) (h9 : x15 = x16) (h10 : x6 = x17 + x18) (h11 : x18 = 2) (h12 : x10 = x19) (h13 : x19 = x20) (h14 : x13 = x21) (h15 : x21 = x22) (h16 : x16 = x23) (h17 : x23 = x24) (h18 : x25 = x26) (h19 : 0 ≤ x17) (h20 : x17 = x27 + 1) (h21 : x20 = x28) (h22 : x22 = x29) (h23 : x24 = x30) (h24 : x31 = x32) (h25 : x26 = x31) (h26 : x27 = x2 + 1) (h27 : x28 = x0) (h28 : x29 = x3) (h29 : x30 = x1) (h30 : x32 = x4) (h31 : x33 = 0) (h32 : x34 = x8) (h33 : x35 = x11) : ((0 : Int) ≤ 0 ∧ (0 : Int) ≤ 4) ∧ (0 ≤ x5 - 1 ∧ (0 ≤ x8 → x14 ≤ x5 - 1) ∧ (0 ≤ x11 → x25 ≤ x5 - 1)) ∧ x5 + x33 = x5 ∧ x34 = x8 ∧ x35 = x11 := by omega
theorem la_stepBehind_256 {x0 x1 x2 : Int} : (21 : Int) ≤ 13 ∧ (13 : Int) ≤ 24 ∨ (13 : Int) = 27 ∨ (13 : Int) = 30 → (0 : Int) ≤ 0 ∧ 0 < x0 ∧ x1 = x2 := by omega
theorem la_stepBehind_257 : ¬ (13 : Int) = 1 := by omega
theorem la_stepBehind_258 {x0 : Int} (h0 : (13 : Int) = 2) : (-1) ≤ x0 := by omega
theorem la_stepBehind_259 {x0 x1 : Int} (h0 : (13 : Int) = 2) : x0 < x1 := by omega
theorem la_stepBehind_260 {x0 x1 : Int} (h0 : (13 : Int) = 2) : x0 = (-1) → x1 = 1 := by omega
theorem la_stepBehind_261 {x0 : Int} (h0 : (13 : Int) = 2) : x0 = 3 := by omega
theorem la_stepBehind_262 {x0 x1 : Int} (h0 : (13 : Int) = 2) : x0 < x1 + 1 := by omega
theorem la_stepBehind_263 {x0 : Int} (h0 : (13 : Int) = 2) : x0 < x0 := by omega
theorem la_stepBehind_264 {x0 : Int} (h0 : (13 : Int) = 2) : 0 ≤ x0 := by omega
theorem la_stepBehind_265 {x0 : Int} (h0 : (13 : Int) = 2) : x0 = 4 ∨ x0 = 5 ∨ x0 = 8 ∨ x0 = 9 := by omega
theorem la_stepBehind_266 {x0 x1 : Int} (h0 : (13 : Int) = 2) : x0 = x1 := by omega
theorem la_stepBehind_267 {x0 x1 : Int} (h0 : (13 : Int) = 2) : 5 * x0 + 1 = 5 * x1 := by omega
theorem la_stepBehind_268 {x0 x1 : Int} (h0 : (13 : Int) = 2) : 5 * x0 + 1 = 5 * x1 + 1 := by omega
theorem la_stepBehind_269 {x0 x1 : Int} (h0 : (13 : Int) = 2) : 5 * x0 + 0 = 5 * x1 + 1 := by omega
theorem la_stepBehind_270 {x0 : Int} (h0 : (13 : Int) = 2) : 5 * x0 + 1 = 5 * x0 := by omega
theorem la_stepBehind_271 {x0 : Int} (h0 : (13 : Int) = 2) : 5 * x0 + 1 = 5 * x0 + 0 := by omega
theorem la_stepBehind_272 (h0 : (13 : Int) = 2) : False := by omega
theorem la_stepBehind_273 : ¬ (13 : Int) = 29 := by omega
theorem la_stepBehind_274 : ¬ (13 : Int) = 17 := by omega
theorem la_stepBehind_275 {x0 x1 x2 : Int} : (13 : Int) = 17 → 0 ≤ x0 → x1 < x2 := by omega
theorem la_stepBehind_276 : (0 : Int) ≤ 20 := by omega
theorem la_stepBehind_277 : (20 : Int) ≤ 30 := by omega
theorem la_stepBehind_278 {x0 x1 x2 x3 x4 x5 x6 x7 x8 x9 x10 x11 x12 x13 x14 x15 x16 x17 x18 x19 x20 x21 x22 x23 x24 x25 x26 x27 x28 x29 x30 x31 x32 x33 x34 x35 x36 x37 x38 x39 x40 x41 x42 x43 x44 : Int} (h0 : 0 ≤ x0) (h1 : 0 ≤ x1 → x2 ≤ x0) (h2 : 0 ≤ x3 → x4 ≤ x0) (h3 : x5 = x6 + x7) (h4 : x7 = 0) (h5 : x8 = x9) (h6 : x9 = x10) (h7 : x11 = x12) (h8 : x12 = x13) (h9 : x14 = x15) (h10 : x15 = x16) (h11 : x6 = x17 + x18) (h12 : x18 = (-1)) (h13 : x10 = x19) (h14 : x19 = x20) (h15 : x13 = x21) (h16 : x21 = x22) (h17 : x16 = x23) (h18 : x23 = x24) (h19 : x25 = x26) (h20 : x17 = x27 + x28) (h21 : x28 = 2) (h22 : x20 = x29) (h23 : x29 = x30) (h24 : x22 = x31) (h25 : x31 = x32) (h26 : x24 = x33) (h27 : x33 = x34) (h28 : x26 = x35) (h29 : x27 = x36 + 1) (h30 : x30 = x37) (h31 : x32 = x38) (h32 : x34 = x39) (h33 : x40 = x41) (h34 : x35 = x40) (h35 : x36 = x0 + 1) (h36 : x37 = x1) (h37 : x38 = x3) (h38 : x39 = x2) (h39 : x41 = x4) (h40 : x42 = 1) (h41 : x43 = x8) (h42 : x44 = x11) : (0 ≤ x5 - 3 ∧ (0 ≤ x8 → x14 ≤ x5 - 3) ∧ (0 ≤ x11 → x25 ≤ x5 - 3)) ∧ x5 + x42 = x5 + 1 ∧ x43 = x8 ∧ x44 = x11 := by omega
theorem la_stepBehind_279 {x0 x1 x2 : Int} : (21 : Int) ≤ 20 ∧ (20 : Int) ≤ 24 ∨ (20 : Int) = 27 ∨ (20 : Int) = 30 → (0 : Int) ≤ 0 ∧ 0 < x0 ∧ x1 = x2 := by omega
theorem la_stepBehind_280 : ¬ (20 : Int) = 1 := by omega
theorem la_stepBehind_281 {x0 : Int} (h0 : (20 : Int) = 2) : (-1) ≤ x0 := by omega
theorem la_stepBehind_282 {x0 x1 : Int} (h0 : (20 : Int) = 2) : x0 < x1 := by omega
theorem la_stepBehind_283 {x0 x1 : Int} (h0 : (20 : Int) = 2) : x0 = (-1) → x1 = 1 := by omega
theorem la_stepBehind_284 {x0 : Int} (h0 : (20 : Int) = 2) : x0 = 3 := by omega
theorem la_stepBehind_285 {x0 x1 : Int} (h0 : (20 : Int) = 2) : x0 < x1 + 1 := by omega
theorem la_stepBehind_286 {x0 : Int} (h0 : (20 : Int) = 2) : x0 < x0 := by omega
theorem la_stepBehind_287 {x0 : Int} (h0 : (20 : Int) = 2) : 0 ≤ x0 := by omega
theorem la_stepBehind_288 {x0 : Int} (h0 : (20 : Int) = 2) : x0 = 4 ∨ x0 = 5 ∨ x0 = 8 ∨ x0 = 9 := by omega
theorem la_stepBehind_289 {x0 x1 : Int} (h0 : (20 : Int) = 2) : x0 = x1 := by omega
theorem la_stepBehind_290 {x0 x1 : Int} (h0 : (20 : Int) = 2) : 5 * x0 + 1 = 5 * x1 := by omega
theorem la_stepBehind_291 {x0 x1 : Int} (h0 : (20 : Int) = 2) : 5 * x0 + 1 = 5 * x1 + 1 := by omega
theorem la_stepBehind_292 {x0 x1 : Int} (h0 : (20 : Int) = 2) : 5 * x0 + 0 = 5 * x1 + 1 := by omega
theorem la_stepBehind_293 {x0 : Int} (h0 : (20 : Int) = 2) : 5 * x0 + 1 = 5 * x0 := by omega
theorem la_stepBehind_294 {x0 : Int} (h0 : (20 : Int) = 2) : 5 * x0 + 1 = 5 * x0 + 0 := by omega
theorem la_stepBehind_295 (h0 : (20 : Int) = 2) : False := by omega
theorem la_stepBehind_296 {x0 x1 x2 x3 x4 x5 x6 : Int} (h0 : x0 ≤ x1) (h1 : x1 ≤ x2) (h2 : x2 ≤ x3) (h3 : x3 ≤ x4) (h4 : x4 ≤ x5) (h5 : x5 ≤ x6) : x0 ≤ x6 := by omega
theorem la_stepBehind_297 {x0 x1 x2 x3 x4 x5 : Int} (h0 : x0 ≤ x1) (h1 : x1 ≤ x2) (h2 : x2 ≤ x3) (h3 : x3 ≤ x4) (h4 : x4 ≤ x5) : x0 ≤ x5 := by omega
theorem la_stepBehind_298 {x0 x1 x2 x3 x4 x5 : Int} (h0 : x0 ≤ x1) (h1 : x1 ≤ x2) (h2 : x2 ≤ x3) (h3 : x3 ≤ x4) (h4 : x4 ≤ x5) : x0 + 1 ≤ x5 + 1 := by omega
theorem la_stepBehind_299 {x0 x1 x2 x3 x4 : Int} (h0 : x0 ≤ x1) (h1 : x1 ≤ x2) (h2 : x2 ≤ x3) (h3 : x3 ≤ x4) : x0 + 1 ≤ x4 + 1 := by omega
theorem la_stepBehind_300 {x0 x1 x2 : Int} (h0 : x0 = x1) (h1 : x2 = x0) : x2 = x1 := by omega
theorem la_stepBehind_301 {x0 x1 : Int} (h0 : x0 = x1) : x1 ≤ x0 := by omega
theorem la_stepBehind_302 {x0 x1 x2 : Int} (h0 : x0 = 0) : x0 = 1 → x1 = x2 := by omega
theorem la_stepBehind_303 {x0 : Int} (h0 : x0 = 1) : ¬ x0 = 0 := by omega
theorem la_stepBehind_304 {x0 x1 x2 x3 x4 x5 x6 : Int} (h0 : x0 ≤ x1) (h1 : x2 = x0) (h2 : x3 ≤ x4 + 3 * (600 - x5) + x2) (h3 : x6 = x3) : x6 ≤ x4 + 3 * (600 - x5) + x1 := by omega
theorem la_stepBehind_305 {x0 : Int} (h0 : 0 ≤ x0) (h1 : x0 < 1) : x0 = 0 := by omega
theorem la_stepBehind_306 {x0 x1 x2 x3 x4 x5 x6 : Int} (h0 : x0 ≤ x1 - 1) (h1 : x2 ≤ x3 + 3 * (x4 - x5)) (h2 : x6 ≤ x2 + 3 * (600 - x4) + x0) : x6 ≤ x3 + 3 * (600 - x5) + x1 := by omega
theorem la_stepBehind_307 : ¬ (20 : Int) = 29 := by omega
theorem la_stepBehind_308 : ¬ (20 : Int) = 17 := by omega
theorem la_stepBehind_309 {x0 x1 x2 : Int} : (20 : Int) = 17 → 0 ≤ x0 → x1 < x2 := by omega
theorem la_stepBehind_310 {x0 x1 x2 x3 x4 x5 : Int} (h0 : x0 = x1 + 1) (h1 : x1 = x2 + 1) (h2 : x2 = x3 + 1) (h3 : x3 = x4 + 1) (h4 : x5 ≤ x4) : x5 ≤ x0 := by omega
theorem la_stepBehind_311 {x0 x1 x2 x3 x4 x5 x6 x7 : Int} (h0 : x0 ≤ 4) (h1 : x1 = x2 + 1) (h2 : x2 = x3 + 1) (h3 : x3 = x4 + 1) (h4 : x4 = x5 + 1) (h5 : x6 + 1 ≤ x5) (h6 : x7 + 1 ≤ x6) : x7 + x0 ≤ x1 := by omega
theorem la_stepBehind_312 {x0 x1 x2 x3 x4 x5 : Int} (h0 : x0 = x1 + 1) (h1 : x1 = x2 + 1) (h2 : x2 = x3 + 1) (h3 : x4 + 1 ≤ x3) (h4 : x5 + 1 ≤ x4) : x5 < x0 := by omega
theorem la_stepBehind_313 {x0 x1 x2 x3 x4 : Int} (h0 : x0 = x1 + 1) (h1 : x1 = x2 + 1) (h2 : x3 + 1 ≤ x2) (h3 : x4 + 1 ≤ x3) : x4 < x0 := by omega
theorem la_stepBehind_314 {x0 x1 x2 x3 : Int} (h0 : x0 = x1 + 1) (h1 : x2 + 1 ≤ x1) (h2 : x3 + 1 ≤ x2) : x3 < x0 := by omega
theorem la_stepBehind_315 {x0 x1 x2 : Int} (h0 : x0 + 1 ≤ x1) (h1 : x2 + 1 ≤ x0) : x2 < x1 := by omega
theorem la_stepBehind_316 {x0 x1 : Int} (h0 : x0 + 1 ≤ x1) : x0 < x1 := by omega
theorem la_stepBehind_317 {x0 x1 x2 x3 x4 : Int} (h0 : x0 = x1 + 1) (h1 : x1 = x2 + 1) (h2 : x2 = x3 + 1) (h3 : x4 + 1 ≤ x3) : x4 ≤ x0 := by omega
theorem la_stepBehind_318 {x0 x1 x2 x3 : Int} (h0 : x0 = x1 + 1) (h1 : x1 = x2 + 1) (h2 : x3 + 1 ≤ x2) : x3 ≤ x0 := by omega
theorem la_stepBehind_319 {x0 x1 x2 : Int} (h0 : x0 = x1 + 1) (h1 : x2 + 1 ≤ x1) : x2 ≤ x0 := by omega
theorem la_stepBehind_320 {x0 x1 x2 x3 x4 : Int} (h0 : x0 = x1 + 1) (h1 : x1 = x2 + 1) (h2 : x2 = x3 + 1) (h3 : x4 + 1 ≤ x3) : x4 < x0 := by omega
theorem la_stepBehind_321 {x0 x1 x2 x3 : Int} (h0 : x0 = x1 + 1) (h1 : x1 = x2 + 1) (h2 : x3 + 1 ≤ x2) : x3 < x0 := by omega
theorem la_stepBehind_322 {x0 x1 x2 : Int} (h0 : x0 = x1 + 1) (h1 : x2 + 1 ≤ x1) : x2 < x0 := by omega
theorem la_stepBehind_323 {x0 x1 x2 x3 : Int} (h0 : x0 = x1 + 1) (h1 : x1 = x2 + 1) (h2 : x2 = x3 + 1) : x3 ≤ x0 := by omega
theorem la_stepBehind_324 {x0 x1 x2 x3 : Int} (h0 : x0 = x1 + 1) (h1 : x1 = x2 + 1) (h2 : x2 = x3 + 1) : x3 < x0 := by omega
theorem la_stepBehind_325 {x0 x1 x2 x3 : Int} (h0 : x0 = x1 + 1) (h1 : x1 = x2 + 1) (h2 : x2 = x3 + 1) : x3 + 1 < x0 := by omega
theorem la_stepBehind_326 {x0 x1 x2 x3 : Int} (h0 : x0 = x1 + 1) (h1 : x1 = x2 + 1) (h2 : x2 = x3 + 1) : x3 + 1 + 1 < x0 := by omega
theorem la_stepBehind_327 {x0 x1 x2 : Int} (h0 : x0 ≤ x1 + 1) (h1 : x0 = x1 + 1) (h2 : x1 = x2 + 1) : x2 + 1 + 1 = x0 := by omega
theorem la_stepBehind_328 {x0 x1 x2 x3 : Int} (h0 : x0 ≤ x1 + 1) (h1 : x0 = x1 + 1) (h2 : x1 = x2 + 1) (h3 : x2 = x3 + 1) : x3 + 1 + 1 + 1 = x0 := by omega
theorem la_stepBehind_329 {x0 x1 x2 x3 x4 : Int} (h0 : x0 ≤ x1 + 1) (h1 : x2 ≤ x3 + 1) (h2 : x4 ≤ x2 + 1) (h3 : x3 = x0 + 1) : x4 ≤ x1 + 1 + 1 + 1 + 1 := by omega
theorem la_stepBehind_330 {x0 x1 x2 x3 x4 x5 x6 x7 x8 x9 x10 x11 : Int} (h0 : x0 ≤ 4) (h1 : x0 = 4) (h2 : x1 = x2 + x3) (h3 : x3 = 1) (h4 : x2 = x4 + x5) (h5 : x5 = 0) (h6 : x4 = x6 + x7) (h7 : x7 = (-1)) (h8 : x6 = x8 + x9) (h9 : x9 = 2) (h10 : x8 = x10 + 1) (h11 : x10 = x11 + 1) : x1 = x11 + x0 := by omega
theorem la_stepBehind_331 {x0 x1 x2 x3 x4 x5 x6 x7 x8 x9 x10 : Int} (h0 : x0 = x1) (h1 : x1 = x2) (h2 : x2 = x3) (h3 : x3 = x4) (h4 : x4 = x5) (h5 : x5 = x6) (h6 : x6 = x7) (h7 : x7 = x8) (h8 : x8 = x9) (h9 : x9 = x10) : x0 = x10 := by omega
theorem la_stepBehind_332 {x0 x1 x2 x3 x4 x5 x6 : Int} (h0 : x0 = x1) (h1 : x1 = x2) (h2 : x2 = x3) (h3 : x4 = x5) (h4 : x3 = x4) (h5 : x5 = x6) : x0 = x6 := by omega
theorem la_stepBehind_333 {x0 x1 x2 x3 x4 x5 : Int} (h0 : x0 = x1 + 1) (h1 : x1 = x2 + 1) (h2 : x2 = x3 + 1) (h3 : x4 + 1 ≤ x3) (h4 : x5 + 1 ≤ x4) : x5 < x0 + 1 := by omega
theorem la_stepBehind_334 {x0 x1 x2 x3 x4 : Int} (h0 : x0 = x1 + 1) (h1 : x1 = x2 + 1) (h2 : x3 + 1 ≤ x2) (h3 : x4 + 1 ≤ x3) : x4 < x0 + 1 := by omega
theorem la_stepBehind_335 {x0 x1 x2 x3 : Int} (h0 : x0 = x1 + 1) (h1 : x2 + 1 ≤ x1) (h2 : x3 + 1 ≤ x2) : x3 < x0 + 1 := by omega
theorem la_stepBehind_336 {x0 x1 x2 : Int} (h0 : x0 + 1 ≤ x1) (h1 : x2 + 1 ≤ x0) : x2 < x1 + 1 := by omega
theorem la_stepBehind_337 {x0 x1 : Int} (h0 : x0 + 1 ≤ x1) : x0 < x1 + 1 := by omega
theorem la_stepBehind_338 {x0 x1 x2 x3 x4 x5 x6 x7 x8 : Int} (h0 : 0 ≤ x0) (h1 : x1 = x2 + 1) (h2 : x2 = x3 + 1) (h3 : x3 = x4 + 1) (h4 : x4 = x5 + 1) (h5 : x6 + 1 ≤ x5) (h6 : x7 + 1 ≤ x6) : 2 * x8 ≤ 2 * x8 + (x1 - x7) + 8 * x0 + 10 := by omega
theorem la_stepBehind_339 {x0 x1 x2 x3 x4 x5 : Int} (h0 : x0 = x1 + 1) (h1 : x1 = x2 + 1) (h2 : x2 = x3 + 1) (h3 : x4 + 1 ≤ x3) (h4 : x5 + 1 ≤ x4) : x5 + 1 < x0 + 1 := by omega
theorem la_stepBehind_340 {x0 x1 x2 x3 x4 : Int} (h0 : x0 = x1 + 1) (h1 : x1 = x2 + 1) (h2 : x3 + 1 ≤ x2) (h3 : x4 + 1 ≤ x3) : x4 + 1 < x0 + 1 := by omega
theorem la_stepBehind_341 {x0 x1 x2 x3 : Int} (h0 : x0 = x1 + 1) (h1 : x2 + 1 ≤ x1) (h2 : x3 + 1 ≤ x2) : x3 + 1 < x0 + 1 := by omega
theorem la_stepBehind_342 {x0 x1 x2 : Int} (h0 : x0 + 1 ≤ x1) (h1 : x2 + 1 ≤ x0) : x2 + 1 < x1 + 1 := by omega
theorem la_stepBehind_343 {x0 x1 : Int} (h0 : x0 + 1 ≤ x1) : x0 + 1 < x1 + 1 := by omega
theorem la_stepBehind_344 {x0 x1 x2 x3 x4 x5 x6 x7 x8 x9 x10 : Int} (h0 : x0 ≤ x1) (h1 : x2 = x0) (h2 : x3 = x4 + 1) (h3 : x4 = x5 + 1) (h4 : x5 = x6 + 1) (h5 : x6 = x7 + 1) (h6 : x8 + 1 ≤ x7) : 2 * x9 + (x8 - x10) + 8 * x2 + 10 ≤ 2 * x9 + (x3 - x10) + 8 * x1 + 10 := by omega
theorem la_stepBehind_345 {x0 x1 x2 x3 x4 : Int} (h0 : x0 = x1 + 1) (h1 : x1 = x2 + 1) (h2 : x2 = x3 + 1) (h3 : x4 + 1 ≤ x3) : x4 ≤ x0 + 1 := by omega
theorem la_stepBehind_346 {x0 x1 x2 x3 : Int} (h0 : x0 = x1 + 1) (h1 : x1 = x2 + 1) (h2 : x3 + 1 ≤ x2) : x3 ≤ x0 + 1 := by omega
theorem la_stepBehind_347 {x0 x1 x2 : Int} (h0 : x0 = x1 + 1) (h1 : x2 + 1 ≤ x1) : x2 ≤ x0 + 1 := by omega
theorem la_stepBehind_348 {x0 x1 : Int} (h0 : x0 + 1 ≤ x1) : x0 ≤ x1 + 1 := by omega
theorem la_stepBehind_349 {x0 x1 x2 x3 x4 : Int} (h0 : x0 = x1 + 1) (h1 : x1 = x2 + 1) (h2 : x2 = x3 + 1) (h3 : x4 + 1 ≤ x3) : x4 < x0 + 1 := by omega
theorem la_stepBehind_350 {x0 x1 x2 x3 : Int} (h0 : x0 = x1 + 1) (h1 : x1 = x2 + 1) (h2 : x3 + 1 ≤ x2) : x3 < x0 + 1 := by omega
theorem la_stepBehind_351 {x0 x1 x2 : Int} (h0 : x0 = x1 + 1) (h1 : x2 + 1 ≤ x1) : x2 < x0 + 1 := by omega
theorem la_stepBehind_352 {x0 x1 x2 x3 x4 x5 x6 x7 x8 x9 : Int} (h0 : 0 ≤ x0) (h1 : x1 = x2 + 1) (h2 : x2 = x3 + 1) (h3 : x3 = x4 + 1) (h4 : x4 = x5 + 1) (h5 : x6 + 1 ≤ x5) (h6 : x7 + 1 ≤ x6) (h7 : x8 = x9 + 1) : 2 * x8 ≤ 2 * x9 + (x1 - x7) + 8 * x0 + 10 := by omega
theorem la_stepBehind_353 {x0 x1 x2 x3 x4 : Int} (h0 : x0 = x1 + 1) (h1 : x1 = x2 + 1) (h2 : x2 = x3 + 1) (h3 : x4 + 1 ≤ x3) : x4 + 1 < x0 + 1 := by omega
theorem la_stepBehind_354 {x0 x1 x2 x3 : Int} (h0 : x0 = x1 + 1) (h1 : x1 = x2 + 1) (h2 : x3 + 1 ≤ x2) : x3 + 1 < x0 + 1 := by omega
theorem la_stepBehind_355 {x0 x1 x2 : Int} (h0 : x0 = x1 + 1) (h1 : x2 + 1 ≤ x1) : x2 + 1 < x0 + 1 := by omega
theorem la_stepBehind_356 {x0 x1 x2 x3 x4 x5 x6 x7 x8 x9 x10 : Int} (h0 : x0 ≤ x1) (h1 : x2 = x3 + 1) (h2 : x3 = x4 + 1) (h3 : x4 = x5 + 1) (h4 : x5 = x6 + 1) (h5 : x7 + 1 ≤ x8) (h6 : x9 = x10 + 1) : 2 * x9 + (x6 - x8) + 8 * x0 + 10 ≤ 2 * x10 + (x2 - x7) + 8 * x1 + 10 := by omega
theorem la_stepBehind_357 {x0 x1 x2 x3 : Int} (h0 : x0 = x1 + 1) (h1 : x1 = x2 + 1) (h2 : x2 = x3 + 1) : x3 ≤ x0 + 1 := by omega
theorem la_stepBehind_358 {x0 x1 x2 x3 : Int} (h0 : x0 = x1 + 1) (h1 : x1 = x2 + 1) (h2 : x2 = x3 + 1) : x3 < x0 + 1 := by omega
theorem la_stepBehind_359 {x0 x1 x2 x3 x4 x5 x6 x7 x8 x9 x10 : Int} (h0 : 0 ≤ x0) (h1 : x1 = x2 + 1) (h2 : x2 = x3 + 1) (h3 : x3 = x4 + 1) (h4 : x4 = x5 + 1) (h5 : x6 + 1 ≤ x5) (h6 : x7 = x8 + 1) (h7 : x9 + 1 ≤ x6) (h8 : x8 = x10 + 1) : 2 * x7 ≤ 2 * x10 + (x1 - x9) + 8 * x0 + 10 := by omega
theorem la_stepBehind_360 {x0 x1 x2 x3 : Int} (h0 : x0 = x1 + 1) (h1 : x1 = x2 + 1) (h2 : x2 = x3 + 1) : x3 + 1 < x0 + 1 := by omega
theorem la_stepBehind_361 {x0 x1 x2 x3 x4 x5 x6 x7 x8 x9 x10 x11 : Int} (h0 : 0 ≤ x0) (h1 : x1 = x2 + 1) (h2 : x2 = x3 + 1) (h3 : x3 = x4 + 1) (h4 : x4 = x5 + 1) (h5 : x6 = 2) (h6 : x7 + 1 ≤ x5) (h7 : x8 = x9 + 1) (h8 : x10 + 1 ≤ x7) (h9 : x9 = x11 + 1) : 2 * (x8 + x6) ≤ 2 * x11 + (x1 - x10) + 8 * x0 + 10 := by omega
theorem la_stepBehind_362 {x0 x1 x2 x3 : Int} (h0 : x0 = x1 + 1) (h1 : x1 = x2 + 1) (h2 : x2 = x3 + 1) : x3 + 1 + 1 < x0 + 1 := by omega
theorem la_stepBehind_363 {x0 x1 x2 x3 x4 x5 x6 x7 x8 x9 x10 x11 x12 x13 : Int} (h0 : 0 ≤ x0) (h1 : x1 = x2 + 1) (h2 : x2 = x3 + 1) (h3 : x3 = x4 + 1) (h4 : x5 = (-1)) (h5 : x4 = x6 + 1) (h6 : x7 = x8 + x9) (h7 : x9 = 2) (h8 : x10 + 1 ≤ x6) (h9 : x8 = x11 + 1) (h10 : x12 + 1 ≤ x10) (h11 : x11 = x13 + 1) : 2 * (x7 + x5) ≤ 2 * x13 + (x1 - x12) + 8 * x0 + 10 := by omega
theorem la_stepBehind_364 {x0 x1 x2 x3 : Int} (h0 : x0 = x1 + 1) (h1 : x1 = x2 + 1) (h2 : x2 = x3 + 1) : x3 + 1 + 1 + 1 < x0 + 1 := by omega
theorem la_stepBehind_365 {x0 x1 x2 x3 x4 x5 x6 x7 x8 x9 x10 x11 x12 x13 x14 x15 : Int} (h0 : 0 ≤ x0) (h1 : x1 = x2 + 1) (h2 : x2 = x3 + 1) (h3 : x4 = 0) (h4 : x3 = x5 + 1) (h5 : x6 = x7 + x8) (h6 : x8 = (-1)) (h7 : x5 = x9 + 1) (h8 : x7 = x10 + x11) (h9 : x11 = 2) (h10 : x12 + 1 ≤ x9) (h11 : x10 = x13 + 1) (h12 : x14 + 1 ≤ x12) (h13 : x13 = x15 + 1) : 2 * (x6 + x4) ≤ 2 * x15 + (x1 - x14) + 8 * x0 + 10 := by omega
theorem la_stepBehind_366 {x0 x1 x2 x3 x4 x5 x6 x7 x8 x9 : Int} (h0 : x0 = x1 + 1) (h1 : x1 = x2 + 1) (h2 : x2 = x3 + 1) (h3 : x3 = x4 + 1) (h4 : x5 ≤ x6 + 3 * (x4 - x7)) (h5 : x6 ≤ x8 + 3 * (x7 - x9)) : x5 ≤ x8 + 3 * (x0 - x9) := by omega
theorem la_stepBehind_367 {x0 : Int} (h0 : ¬ ¬ x0 = 2) (h1 : x0 = 2) : ¬ (x0 = 4 ∨ x0 = 5 ∨ x0 = 8 ∨ x0 = 9) := by omega
theorem la_stepBehind_368 : (1 : Int) = 1 ∧ ((3 : Int) = 3 ∨ (3 : Int) = 5) ∨ (1 : Int) = 2 ∧ (3 : Int) = 4 := by omega
theorem la_stepBehind_369 {x0 x1 x2 x3 x4 : Int} (h0 : 0 ≤ x0 → x1 ≤ x2) (h1 : 0 ≤ x3 → x4 ≤ x2) : (1 : Int) = 1 → (0 ≤ x0 → x1 ≤ x2) ∧ (0 ≤ x3 → x4 ≤ x2) := by omega
theorem la_stepBehind_370 {x0 : Int} (h0 : (1 : Int) = 2) : 1 ≤ x0 := by omega
theorem la_stepBehind_371 {x0 x1 x2 : Int} (h0 : (1 : Int) = 2) : 0 ≤ x0 → x1 ≤ x2 - 1 := by omega
theorem la_stepBehind_372 {x0 : Int} (h0 : (1 : Int) = 2) : 0 ≤ x0 := by omega
theorem la_stepBehind_373 {x0 x1 : Int} (h0 : (1 : Int) = 2) : x0 ≤ x1 - 1 := by omega
theorem la_stepBehind_374 : (1 : Int) = 1 := by omega
theorem la_stepBehind_375 {x0 x1 x2 x3 x4 x5 x6 x7 x8 x9 x10 x11 x12 x13 : Int} (h0 : 0 ≤ x0) (h1 : 0 ≤ x1 → x2 ≤ x0) (h2 : 0 ≤ x3 → x4 ≤ x0) (h3 : x5 = 1) (h4 : x6 = x0 + x5) (h5 : x7 = x1) (h6 : x8 = x3) (h7 : x9 = x2) (h8 : x10 = x4) (h9 : x11 = 0) (h10 : x12 = x7) (h11 : x13 = x8) : ((0 : Int) ≤ 0 ∧ (0 : Int) ≤ 4) ∧ (0 ≤ x6 - 1 ∧ (0 ≤ x7 → x9 ≤ x6 - 1) ∧ (0 ≤ x8 → x10 ≤ x6 - 1)) ∧ x6 + x11 = x6 ∧ x12 = x7 ∧ x13 = x8 := by omega
theorem la_stepBehind_376 {x0 : Int} (h0 : (13 : Int) = 2) : ¬ x0 = 1 := by omega
theorem la_stepBehind_377 : (0 : Int) ≤ 18 := by omega
theorem la_stepBehind_378 : (18 : Int) ≤ 30 := by omega
theorem la_stepBehind_379 {x0 x1 x2 x3 x4 x5 x6 x7 x8 x9 x10 x11 x12 x13 x14 x15 x16 x17 x18 x19 x20 x21 x22 : Int} (h0 : 0 ≤ x0) (h1 : 0 ≤ x1 → x2 ≤ x0) (h2 : 0 ≤ x3 → x4 ≤ x0) (h3 : x5 = 1) (h4 : x6 = x7 + x8) (h5 : x8 = 0) (h6 : x9 = x10) (h7 : x10 = x11) (h8 : x12 = x13) (h9 : x13 = x14) (h10 : x15 = x16) (h11 : x16 = x17) (h12 : x7 = x0 + x5) (h13 : x11 = x1) (h14 : x14 = x3) (h15 : x17 = x2) (h16 : x18 = x4) (h17 : x19 = x18) (h18 : x20 = 1) (h19 : x21 = x9) (h20 : x22 = x12) : (0 ≤ x6 - 1 ∧ (0 ≤ x9 → x15 ≤ x6 - 1) ∧ (0 ≤ x12 → x19 ≤ x6 - 1)) ∧ x6 + x20 = x6 + 1 ∧ x21 = x9 ∧ x22 = x12 := by omega
theorem la_stepBehind_380 {x0 x1 x2 : Int} : (21 : Int) ≤ 18 ∧ (18 : Int) ≤ 24 ∨ (18 : Int) = 27 ∨ (18 : Int) = 30 → (0 : Int) ≤ 0 ∧ 0 < x0 ∧ x1 = x2 := by omega
theorem la_stepBehind_381 : ¬ (18 : Int) = 1 := by omega
theorem la_stepBehind_382 {x0 : Int} (h0 : (18 : Int) = 2) : x0 < x0 := by omega
theorem la_stepBehind_383 {x0 x1 : Int} (h0 : (18 : Int) = 2) : x0 < x1 + 1 := by omega
theorem la_stepBehind_384 {x0 x1 : Int} (h0 : (18 : Int) = 2) : x0 < x1 := by omega
theorem la_stepBehind_385 {x0 : Int} (h0 : (18 : Int) = 2) : 0 ≤ x0 := by omega
theorem la_stepBehind_386 {x0 : Int} (h0 : (18 : Int) = 2) : ¬ x0 = 1 := by omega
theorem la_stepBehind_387 {x0 x1 : Int} (h0 : (18 : Int) = 2) : x0 = x1 := by omega
theorem la_stepBehind_388 (h0 : (18 : Int) = 2) : False := by omega
theorem la_stepBehind_389 {x0 : Int} : x0 ≤ x0 := by omega
theorem la_stepBehind_390 {x0 : Int} : x0 = x0 := by omega
theorem la_stepBehind_391 {x0 x1 : Int} : x0 = 1 → x1 = x1 := by omega
theorem la_stepBehind_392 {x0 x1 x2 x3 : Int} (h0 : x0 ≤ 600) (h1 : 0 ≤ x1) : x2 = 0 → x3 ≤ x3 + 3 * (600 - x0) + x1 := by omega
theorem la_stepBehind_393 : ¬ (18 : Int) = 29 := by omega
theorem la_stepBehind_394 : ¬ (18 : Int) = 17 := by omega
theorem la_stepBehind_395 {x0 x1 x2 : Int} : (18 : Int) = 17 → 0 ≤ x0 → x1 < x2 := by omega
theorem la_stepBehind_396 {x0 x1 x2 x3 x4 : Int} (h0 : x0 ≤ x1) (h1 : x2 = x3 + 1) (h2 : x3 = x4 + 1) (h3 : x4 = x1 + 1) : x0 ≤ x2 := by omega
theorem la_stepBehind_397 {x0 x1 x2 x3 x4 : Int} (h0 : x0 = 2) (h1 : x1 = x2 + 1) (h2 : x2 = x3 + 1) (h3 : x3 = x4 + 1) : x4 + x0 ≤ x1 := by omega
theorem la_stepBehind_398 {x0 x1 x2 x3 x4 x5 x6 x7 : Int} (h0 : 2 ≤ x0) (h1 : x0 = 2) (h2 : x1 ≤ 1) (h3 : x1 = 1) (h4 : x2 = x3 + x4) (h5 : x4 = 1) (h6 : x3 = x5 + x6) (h7 : x6 = 0) (h8 : x5 = x7 + x1) : x2 = x7 + x0 := by omega
theorem la_stepBehind_399 {x0 x1 x2 x3 : Int} (h0 : x0 = x1) (h1 : x2 = x3) (h2 : x1 = x2) : x0 = x3 := by omega
theorem la_stepBehind_400 {x0 x1 x2 x3 x4 x5 : Int} (h0 : 0 ≤ x0) (h1 : x1 = x2 + 1) (h2 : x2 = x3 + 1) (h3 : x3 = x4 + 1) : 2 * x5 ≤ 2 * x5 + (x1 - x4) + 8 * x0 + 10 := by omega
theorem la_stepBehind_401 {x0 x1 x2 x3 x4 x5 x6 : Int} (h0 : 0 ≤ x0) (h1 : x1 = 1) (h2 : x2 = x3 + 1) (h3 : x3 = x4 + 1) (h4 : x4 = x5 + 1) : 2 * (x6 + x1) ≤ 2 * x6 + (x2 - x5) + 8 * x0 + 10 := by omega
theorem la_stepBehind_402 {x0 x1 x2 x3 x4 x5 x6 x7 x8 : Int} (h0 : 0 ≤ x0) (h1 : x1 ≤ 1) (h2 : x2 = x3 + 1) (h3 : x3 = x4 + 1) (h4 : x5 = 0) (h5 : x4 = x6 + 1) (h6 : x7 = x8 + x1) : 2 * (x7 + x5) ≤ 2 * x8 + (x2 - x6) + 8 * x0 + 10 := by omega
theorem la_stepBehind_403 {x0 x1 x2 x3 x4 : Int} (h0 : x0 = x1 + 1) (h1 : x1 = x2 + 1) (h2 : x2 = x3 + 1) : x4 ≤ x4 + 3 * (x0 - x3) := by omega
set_option maxHeartbeats 16000000 in
theorem f_stepBehind : ∀ (d : Int) (p1 : Int) (p2 : Int) (S : sv_S), sm_ok S → sv_R p1 → sv_R p2 → (sm_WF (S 11) (S 12) (S 13) (S 1100001) (S 1100002) (S 1100005) (S 1100003) (S 1100004) (S 1024 0) (S 1007 0) (S 1009 0) (sm_fn (S 1032 0) (S 21) (S 1056 0)) ∧ (S 1009 0) = 0 ∧ 0 ≤ (S 1007 0) ∧ (S 1007 0) ≤ 90 ∧ 0 ≤ (S 1024 0) ∧ (S 1024 0) ≤ 12000 ∧ 1 ≤ (S 1032 0) ∧ (S 1032 0) ≤ 11 ∧ 0 ≤ (S 1056 0) ∧ (S 1056 0) < (S 1032 0) ∧ sm_VB (S 33) (S 21) (S 1032 0) ∧ 0 ≤ (S 1046 0) ∧ (S 1046 0) ≤ 600 ∧ 0 ≤ (S 1047 0) ∧ (S 1047 0) ≤ 1 ∧ 0 ≤ (S 1053 0) ∧ 0 ≤ (S 1066 0) ∧ 0 ≤ p1 ∧ p1 ≤ 1 ∧ 0 ≤ p2 ∧ p2 < (S 1024 0) ∧ (S 1100001 p2) = 1 ∧ ((S 11 p2) = 2 ∨ (S 11 p2) = 7) ∧ sm_LF (S 39) (S 1100002) (S 1066 0) (S 1024 0) (12001 * (S 1100002 p2) + p2) ∧ (S 1047 0) = 0 ∧ sm_KC (S 26) (S 27) (S 28) (S 29) (S 1100007) (S 1100023) (S 1100024) (S 1100025) (S 31) (S 1100009) (S 1100027) (S 1100028) (S 1100026) (S 1100030) (S 21) (S 32) (S 33) (S 1046 0) (S 1053 0) (S 1056 0) (S 1032 0) (S 1007 0) (S 1100033 0) ∧ (S 1100033 0) = (S 1055 0) ∧ 0 ≤ (S 1055 0) ∧ (S 1055 0) ≤ (S 1046 0) ∧ (0 ≤ (S 1100023 (S 1046 0)) → (S 1100007 (S 1100023 (S 1046 0))) ≤ (S 1100007 (S 1046 0))) ∧ (0 ≤ (S 1100025 (S 1046 0)) → (S 1100007 (S 1100025 (S 1046 0))) ≤ (S 1100007 (S 1046 0))) ∧ (S 1100007 (S 1046 0)) ≤ (S 1046 0) ∧ (S 1053 0) + 3 * (600 - (S 1046 0)) + (S 1100002 p2) ≤ 8000) → ((S 1100002 p2) + (600 - (S 1046 0)) + 9) = d → ((sm_WF (S 11) (S 12) (S 13) (S 1100001) (S 1100002) (S 1100005) (S 1100003) (S 1100004) (S 1024 0) (S 1007 0) (S 1009 0) (sm_fn (S 1032 0) (S 21) (S 1056 0)) → 0 ≤ p2 → p2 < (S 1024 0) → ((S 1100001 (p2)) = 1 → 0 ≤ (S 1100002 (p2)) ∧ ((S 11 (p2)) = 3 → (S 12 (5 * (p2) + 1)) < (p2)) ∧ ((S 11 (p2)) = 4 ∨ (S 11 (p2)) = 5 ∨ (S 11 (p2)) = 8 ∨ (S 11 (p2)) = 9 → 17 * (S 1100005 (p2)) + 2 ≤ (S 1100002 (p2))) ∧ 0 ≤ (S 1100005 (p2))) ∧ ((S 1100001 (p2)) = 2 → 0 ≤ (S 1100005 (p2)) ∧ (S 1100002 (p2)) ≤ 17 * (S 1100005 (p2)) + 5 ∧ ((S 11 (p2)) = 33 → 1 ≤ (S 1100005 (p2)))) ∧ ((S 1100001 (p2)) = 6 → 0 ≤ (S 1100002 (p2)) ∧ 1 ≤ (S 1100004 (p2)) ∧ ((S 12 (5 * (p2))) = - 1 → (S 1100004 (p2)) = 2)) ∧ ((S 1100001 (p2)) = 3 → 1 ≤ (S 1100002 (p2)))) → ((sm_WF (S 11) (S 12) (S 13) (S 1100001) (S 1100002) (S 1100005) (S 1100003) (S 1100004) (S 1024 0) (S 1007 0) (S 1009 0) (sm_fn (S 1032 0) (S 21) (S 1056 0)) → 0 ≤ p2 → p2 < (S 1024 0) → (S 1100001 p2) = 1 → (S 11 p2) = 2 → sm_nm (S 1007 0) (S 1009 0) ((S 12 (5 * (p2))))) → ((sm_WF (S 11) (S 12) (S 13) (S 1100001) (S 1100002) (S 1100005) (S 1100003) (S 1100004) (S 1024 0) (S 1007 0) (S 1009 0) (sm_fn (S 1032 0) (S 21) (S 1056 0)) → 0 ≤ p2 → p2 < (S 1024 0) → (S 1100001 p2) = 1 → (S 11 p2) = 7 → sm_ex (S 1100001) (S 1100002) (S 1100005) (S 1024 0) 1 ((S 12 (5 * (p2)))) ((S 1100002 (p2))) ((S 1100005 (p2))) ∧ (S 12 (5 * (p2))) < (p2) ∧ sm_ex (S 1100001) (S 1100002) (S 1100005) (S 1024 0) 1 ((S 12 (5 * (p2) + 1))) (((S 1100002 (p2))) - 1) ((S 1100005 (p2))) ∧ (S 12 (5 * (p2) + 1)) < (p2)) → ((sm_nm (S 1007 0) (S 1009 0) ((S 12 (5 * p2))) → (S 1009 0) = 0 → 0 ≤ (S 12 (5 * p2)) ∧ (S 12 (5 * p2)) < (S 1007 0)) → ((2 ≤ (if (S 11 p2) = 2 then (2 : Int) else 4) ∧ (if (S 11 p2) = 2 then (2 : Int) else 4) ≤ 4 ∧ ((S 11 p2) = 2 → (if (S 11 p2) = 2 then (2 : Int) else 4) = 2) ∧ (¬ (S 11 p2) = 2 → (if (S 11 p2) = 2 then (2 : Int) else 4) = 4)) → ((∀ g6 : sv_S, (0 ≤ (g6 1046 0) ∧ (g6 1046 0) ≤ 600 ∧ 0 ≤ (g6 1047 0) ∧ (g6 1047 0) ≤ 1 ∧ 0 ≤ (g6 1053 0) ∧ 0 ≤ (g6 1066 0) ∧ (S 1046 0) ≤ (g6 1046 0) ∧ ((S 1047 0) = 1 → (g6 1047 0) = 1) ∧ sm_F1 (S 26) (g6 26) (S 1046 0) ∧ sm_F1 (S 27) (g6 27) (S 1046 0) ∧ sm_F1 (S 28) (g6 28) (S 1046 0) ∧ sm_F1 (S 29) (g6 29) (S 1046 0) ∧ sm_F1 (S 1100007) (g6 1100007) ((S 1046 0) + 1) ∧ sm_F1 (S 1100023) (g6 1100023) ((S 1046 0) + 1) ∧ sm_F1 (S 1100024) (g6 1100024) ((S 1046 0) + 1) ∧ sm_F1 (S 1100025) (g6 1100025) ((S 1046 0) + 1) ∧ sm_F1 (S 1100009) (g6 1100009) (S 1053 0) ∧ sm_F1 (S 1100027) (g6 1100027) (S 1053 0) ∧ sm_F1 (S 1100028) (g6 1100028) (S 1053 0) ∧ sm_F1 (S 1100026) (g6 1100026) (S 1053 0) ∧ sm_F1 (S 1100030) (g6 1100030) (S 1053 0) ∧ sm_F1 (S 31) (g6 31) (S 1053 0) ∧ (S 1053 0) ≤ (g6 1053 0) ∧ (g6 1066 0) = (S 1066 0) ∧ sm_F1 (S 39) (g6 39) (S 1066 0) ∧ ((S 1047 0) = 1 → (g6 1053 0) = (S 1053 0)) ∧ ((S 1047 0) = 0 → (g6 1053 0) ≤ (S 1053 0) + 3 * (600 - (S 1046 0)) + (S 1100002 p2)) ∧ ((g6 1047 0) = 0 → (S 1047 0) = 0 ∧ sm_KC (g6 26) (g6 27) (g6 28) (g6 29) (g6 1100007) (g6 1100023) (g6 1100024) (g6 1100025) (g6 31) (g6 1100009) (g6 1100027) (g6 1100028) (g6 1100026) (g6 1100030) (S 21) (S 32) (S 33) (g6 1046 0) (g6 1053 0) (S 1056 0) (S 1032 0) (S 1007 0) (g6 1100033 0) ∧ (g6 1100033 0) = (g6 1055 0) ∧ 0 ≤ (g6 1055 0) ∧ (g6 1055 0) ≤ (g6 1046 0) ∧ (S 1046 0) + (if (S 11 p2) = 2 then (2 : Int) else 4) ≤ (g6 1046 0) ∧ sm_FC (g6 29) (S 1046 0) (g6 1046 0) (S 1056 0) ∧ (g6 1100007 (g6 1046 0)) = (S 1100007 (S 1046 0)) + (if (S 11 p2) = 2 then (2 : Int) else 4) ∧ (g6 1100023 (g6 1046 0)) = (S 1100023 (S 1046 0)) ∧ (g6 1100024 (g6 1046 0)) = (S 1100024 (S 1046 0)) ∧ (g6 1100025 (g6 1046 0)) = (S 1100025 (S 1046 0)) ∧ (g6 1100007 (g6 1100023 (g6 1046 0))) = (S 1100007 (S 1100023 (S 1046 0))) ∧ (g6 1100007 (g6 1100025 (g6 1046 0))) = (S 1100007 (S 1100025 (S 1046 0))) ∧ sm_AP (g6 1100030) (S 1053 0) (g6 1053 0) ∧ sm_HB (g6 1100007) (S 1046 0) (g6 1046 0) (2 * (S 1100007 (S 1046 0)) + ((g6 1046 0) - (S 1046 0)) + 8 * (S 1100005 p2) + 10) ∧ (g6 1053 0) ≤ (S 1053 0) + 3 * ((g6 1046 0) - (S 1046 0)) ∧ True)) → ((∀ g11 : sv_S, (0 ≤ (g11 1046 0) ∧ (g11 1046 0) ≤ 600 ∧ 0 ≤ (g11 1047 0) ∧ (g11 1047 0) ≤ 1 ∧ 0 ≤ (g11 1053 0) ∧ 0 ≤ (g11 1066 0) ∧ (S 1046 0) ≤ (g11 1046 0) ∧ ((S 1047 0) = 1 → (g11 1047 0) = 1) ∧ sm_F1 (S 26) (g11 26) (S 1046 0) ∧ sm_F1 (S 27) (g11 27) (S 1046 0) ∧ sm_F1 (S 28) (g11 28) (S 1046 0) ∧ sm_F1 (S 29) (g11 29) (S 1046 0) ∧ sm_F1 (S 1100007) (g11 1100007) ((S 1046 0) + 1) ∧ sm_F1 (S 1100023) (g11 1100023) ((S 1046 0) + 1) ∧ sm_F1 (S 1100024) (g11 1100024) ((S 1046 0) + 1) ∧ sm_F1 (S 1100025) (g11 1100025) ((S 1046 0) + 1) ∧ sm_F1 (S 1100009) (g11 1100009) (S 1053 0) ∧ sm_F1 (S 1100027) (g11 1100027) (S 1053 0) ∧ sm_F1 (S 1100028) (g11 1100028) (S 1053 0) ∧ sm_F1 (S 1100026) (g11 1100026) (S 1053 0) ∧ sm_F1 (S 1100030) (g11 1100030) (S 1053 0) ∧ sm_F1 (S 31) (g11 31) (S 1053 0) ∧ (S 1053 0) ≤ (g11 1053 0) ∧ (g11 1066 0) = (S 1066 0) ∧ sm_F1 (S 39) (g11 39) (S 1066 0) ∧ ((S 1047 0) = 1 → (g11 1053 0) = (S 1053 0)) ∧ ((S 1047 0) = 0 → (g11 1053 0) ≤ (S 1053 0) + 3 * (600 - (S 1046 0)) + (S 1100002 p2)) ∧ ((g11 1047 0) = 0 → (S 1047 0) = 0 ∧ sm_KC (g11 26) (g11 27) (g11 28) (g11 29) (g11 1100007) (g11 1100023) (g11 1100024) (g11 1100025) (g11 31) (g11 1100009) (g11 1100027) (g11 1100028) (g11 1100026) (g11 1100030) (S 21) (S 32) (S 33) (g11 1046 0) (g11 1053 0) (S 1056 0) (S 1032 0) (S 1007 0) (g11 1100033 0) ∧ (g11 1100033 0) = (g11 1055 0) ∧ 0 ≤ (g11 1055 0) ∧ (g11 1055 0) ≤ (g11 1046 0) ∧ (S 1046 0) + 2 ≤ (g11 1046 0) ∧ sm_FC (g11 29) (S 1046 0) (g11 1046 0) (S 1056 0) ∧ (g11 1100007 (g11 1046 0)) = (S 1100007 (S 1046 0)) + 2 ∧ (g11 1100023 (g11 1046 0)) = (S 1100023 (S 1046 0)) ∧ (g11 1100024 (g11 1046 0)) = (S 1100024 (S 1046 0)) ∧ (g11 1100025 (g11 1046 0)) = (S 1100025 (S 1046 0)) ∧ (g11 1100007 (g11 1100023 (g11 1046 0))) = (S 1100007 (S 1100023 (S 1046 0))) ∧ (g11 1100007 (g11 1100025 (g11 1046 0))) = (S 1100007 (S 1100025 (S 1046 0))) ∧ sm_AP (g11 1100030) (S 1053 0) (g11 1053 0) ∧ sm_HB (g11 1100007) (S 1046 0) (g11 1046 0) (2 * (S 1100007 (S 1046 0)) + ((g11 1046 0) - (S 1046 0)) + 8 * (S 1100005 p2) + 10) ∧ (g11 1053 0) ≤ (S 1053 0) + 3 * ((g11 1046 0) - (S 1046 0)) ∧ True)) → (0 ≤ (g11 1046 0) ∧ (g11 1046 0) ≤ 600 ∧ 0 ≤ (g11 1047 0) ∧ (g11 1047 0) ≤ 1 ∧ ((g11 1047 0) = 0 → sm_KC (g11 26) (g11 27) (g11 28) (g11 29) (g11 1100007) (g11 1100023) (g11 1100024) (g11 1100025) (g11 31) (g11 1100009) (g11 1100027) (g11 1100028) (g11 1100026) (g11 1100030) (S 21) (S 32) (S 33) (g11 1046 0) (g11 1053 0) (S 1056 0) (S 1032 0) (S 1007 0) (g11 1100033 0) ∧ 0 ≤ (17 : Int) ∧ (17 : Int) ≤ 30 ∧ sm_ci (17 : Int) ((0 : Int)) ((0 : Int)) (g11 1100007 (g11 1046 0)) (g11 1100023 (g11 1046 0)) (g11 1100024 (g11 1046 0)) (g11 1100025 (g11 1046 0)) (g11 1100007 (g11 1100023 (g11 1046 0))) (g11 1100007 (g11 1100025 (g11 1046 0))) (g11 1100023 (g11 1100023 (g11 1046 0))) (g11 1100025 (g11 1100025 (g11 1046 0))) (g11 1046 0) (g11 1100033 0) (S 1032 0) (S 1007 0) (S 21 (0 : Int)) (S 1056 0) ((g11 1100007 (g11 1046 0)) + sm_dl (17 : Int) ((0 : Int))) (sm_nt (17 : Int) (g11 1046 0) (g11 1100023 (g11 1046 0)) (g11 1100023 (g11 1100023 (g11 1046 0)))) (sm_nl (17 : Int) (g11 1046 0) (g11 1100007 (g11 1046 0)) (g11 1100025 (g11 1046 0)) (g11 1100007 (g11 1100025 (g11 1046 0))) (g11 1100025 (g11 1100025 (g11 1046 0)))) (g11 1100009 (0 : Int)) (g11 1100027 (0 : Int)) (g11 1100028 (0 : Int)) ∧ ((21 ≤ (17 : Int) ∧ (17 : Int) ≤ 24) ∨ (17 : Int) = 27 ∨ (17 : Int) = 30 → 0 ≤ (0 : Int) ∧ (0 : Int) < (g11 1053 0) ∧ (g11 1100026 (0 : Int)) = (S 1056 0)) ∧ ((17 : Int) = 1 ∨ (17 : Int) = 2 → sm_vv (S 21) (S 32) (S 33) (S 1056 0) (0 : Int) (0 : Int)))) ∧ (1 + 1 ≤ ((S 1100002 p2) + (600 - (S 1046 0)) + 9)) ∧ (∀ g18 : sv_S, (0 ≤ (g18 1047 0) ∧ (g18 1047 0) ≤ 1 ∧ 1 ≤ (g18 1046 0) ∧ (g11 1046 0) ≤ (g18 1046 0) ∧ (g18 1046 0) ≤ (g11 1046 0) + 1 ∧ (g18 1046 0) ≤ 600 ∧ ((g11 1047 0) = 1 → (g18 1047 0) = 1) ∧ ((g18 1047 0) = 1 → (g11 1047 0) = 1 ∨ (g11 1046 0) = 600) ∧ sm_F1 (g11 26) (g18 26) (g11 1046 0) ∧ sm_F1 (g11 27) (g18 27) (g11 1046 0) ∧ sm_F1 (g11 28) (g18 28) (g11 1046 0) ∧ sm_F1 (g11 29) (g18 29) (g11 1046 0) ∧ sm_F1 (g11 1100007) (g18 1100007) ((g11 1046 0) + 1) ∧ sm_F1 (g11 1100023) (g18 1100023) ((g11 1046 0) + 1) ∧ sm_F1 (g11 1100024) (g18 1100024) ((g11 1046 0) + 1) ∧ sm_F1 (g11 1100025) (g18 1100025) ((g11 1046 0) + 1) ∧ ((g18 1047 0) = 0 → (g11 1047 0) = 0 ∧ (g18 1046 0) = (g11 1046 0) + 1 ∧ sm_KC (g18 26) (g18 27) (g18 28) (g18 29) (g18 1100007) (g18 1100023) (g18 1100024) (g18 1100025) (g11 31) (g11 1100009) (g11 1100027) (g11 1100028) (g11 1100026) (g11 1100030) (S 21) (S 32) (S 33) (g18 1046 0) (g11 1053 0) (S 1056 0) (S 1032 0) (S 1007 0) (g11 1100033 0) ∧ sm_MB (g11 31) (g11 1100030) (g11 1053 0) (g18 1046 0) ∧ (g18 26 (g11 1046 0)) = (17 : Int) ∧ (g18 29 (g11 1046 0)) = (S 1056 0) ∧ (g18 1100007 (g18 1046 0)) = ((g11 1100007 (g11 1046 0)) + sm_dl (17 : Int) ((0 : Int))) ∧ (g18 1100023 (g18 1046 0)) = (sm_nt (17 : Int) (g11 1046 0) (g11 1100023 (g11 1046 0)) (g11 1100023 (g11 1100023 (g11 1046 0)))) ∧ (g18 1100024 (g18 1046 0)) = (sm_nd (17 : Int) (g11 1100024 (g11 1046 0))) ∧ (g18 1100025 (g18 1046 0)) = (sm_nl (17 : Int) (g11 1046 0) (g11 1100007 (g11 1046 0)) (g11 1100025 (g11 1046 0)) (g11 1100007 (g11 1100025 (g11 1046 0))) (g11 1100025 (g11 1100025 (g11 1046 0)))) ∧ (g18 1100007 (g18 1100023 (g18 1046 0))) = sm_nt (17 : Int) (g11 1100007 (g11 1046 0)) (g11 1100007 (g11 1100023 (g11 1046 0))) (g11 1100007 (g11 1100023 (g11 1100023 (g11 1046 0)))) ∧ ((17 : Int) = 29 → (g18 1100007 (g18 1100025 (g18 1046 0))) = (g11 1100007 (g11 1046 0))) ∧ ((17 : Int) = 17 → 0 ≤ (g11 1100025 (g11 1046 0)) → (g11 1100007 (g11 1100025 (g11 1046 0))) = (g11 1100007 (g11 1046 0)) → (g18 1100007 (g18 1100025 (g18 1046 0))) = (g11 1100007 (g11 1100025 (g11 1100025 (g11 1046 0))))) ∧ (¬ (17 : Int) = 29 → ((17 : Int) = 17 → 0 ≤ (g11 1100025 (g11 1046 0)) → (g11 1100007 (g11 1100025 (g11 1046 0))) < (g11 1100007 (g11 1046 0))) → (g18 1100007 (g18 1100025 (g18 1046 0))) = (g11 1100007 (g11 1100025 (g11 1046 0)))))) → (0 ≤ (g18 1046 0) ∧ (g18 1046 0) ≤ 600 ∧ 0 ≤ (g18 1047 0) ∧ (g18 1047 0) ≤ 1 ∧ 0 ≤ (g11 1053 0) ∧ 0 ≤ (g11 1066 0) ∧ (S 1046 0) ≤ (g18 1046 0) ∧ ((S 1047 0) = 1 → (g18 1047 0) = 1) ∧ sm_F1 (S 26) (g18 26) (S 1046 0) ∧ sm_F1 (S 27) (g18 27) (S 1046 0) ∧ sm_F1 (S 28) (g18 28) (S 1046 0) ∧ sm_F1 (S 29) (g18 29) (S 1046 0) ∧ sm_F1 (S 1100007) (g18 1100007) ((S 1046 0) + 1) ∧ sm_F1 (S 1100023) (g18 1100023) ((S 1046 0) + 1) ∧ sm_F1 (S 1100024) (g18 1100024) ((S 1046 0) + 1) ∧ sm_F1 (S 1100025) (g18 1100025) ((S 1046 0) + 1) ∧ sm_F1 (S 1100009) (g11 1100009) (S 1053 0) ∧ sm_F1 (S 1100027) (g11 1100027) (S 1053 0) ∧ sm_F1 (S 1100028) (g11 1100028) (S 1053 0) ∧ sm_F1 (S 1100026) (g11 1100026) (S 1053 0) ∧ sm_F1 (S 1100030) (g11 1100030) (S 1053 0) ∧ sm_F1 (S 31) (g11 31) (S 1053 0) ∧ (S 1053 0) ≤ (g11 1053 0) ∧ (g11 1066 0) = (S 1066 0) ∧ sm_F1 (S 39) (g11 39) (S 1066 0) ∧ ((S 1047 0) = 1 → (g11 1053 0) = (S 1053 0)) ∧ ((S 1047 0) = 0 → (g11 1053 0) ≤ (S 1053 0) + 3 * (600 - (S 1046 0)) + (S 1100002 p2)) ∧ ((g18 1047 0) = 0 → (S 1047 0) = 0 ∧ sm_KC (g18 26) (g18 27) (g18 28) (g18 29) (g18 1100007) (g18 1100023) (g18 1100024) (g18 1100025) (g11 31) (g11 1100009) (g11 1100027) (g11 1100028) (g11 1100026) (g11 1100030) (S 21) (S 32) (S 33) (g18 1046 0) (g11 1053 0) (S 1056 0) (S 1032 0) (S 1007 0) (g11 1100033 0) ∧ (g11 1100033 0) = (g11 1055 0) ∧ 0 ≤ (g11 1055 0) ∧ (g11 1055 0) ≤ (g18 1046 0) ∧ (S 1046 0) + 1 ≤ (g18 1046 0) ∧ sm_FC (g18 29) (S 1046 0) (g18 1046 0) (S 1056 0) ∧ (g18 1100007 (g18 1046 0)) = (S 1100007 (S 1046 0)) + 1 ∧ (g18 1100023 (g18 1046 0)) = (S 1100023 (S 1046 0)) ∧ (g18 1100024 (g18 1046 0)) = (S 1100024 (S 1046 0)) ∧ (g18 1100025 (g18 1046 0)) = (S 1100025 (S 1046 0)) ∧ (g18 1100007 (g18 1100023 (g18 1046 0))) = (S 1100007 (S 1100023 (S 1046 0))) ∧ (g18 1100007 (g18 1100025 (g18 1046 0))) = (S 1100007 (S 1100025 (S 1046 0))) ∧ sm_AP (g11 1100030) (S 1053 0) (g11 1053 0) ∧ sm_HB (g18 1100007) (S 1046 0) (g18 1046 0) (2 * (S 1100007 (S 1046 0)) + ((g18 1046 0) - (S 1046 0)) + 8 * (S 1100005 p2) + 10) ∧ (g11 1053 0) ≤ (S 1053 0) + 3 * ((g18 1046 0) - (S 1046 0)) ∧ True)))) ∧ (0 ≤ (g6 1046 0) ∧ (g6 1046 0) ≤ 600 ∧ 0 ≤ (g6 1047 0) ∧ (g6 1047 0) ≤ 1 ∧ ((g6 1047 0) = 0 → sm_KC (g6 26) (g6 27) (g6 28) (g6 29) (g6 1100007) (g6 1100023) (g6 1100024) (g6 1100025) (g6 31) (g6 1100009) (g6 1100027) (g6 1100028) (g6 1100026) (g6 1100030) (S 21) (S 32) (S 33) (g6 1046 0) (g6 1053 0) (S 1056 0) (S 1032 0) (S 1007 0) (g6 1100033 0) ∧ 0 ≤ (5 : Int) ∧ (5 : Int) ≤ 6 ∧ ((5 : Int) = 6 → 0 ≤ (1 : Int) ∧ (1 : Int) < (S 1007 0)) ∧ (0 ≤ (g6 1100023 (g6 1046 0)) → (g6 1100007 (g6 1100023 (g6 1046 0))) ≤ (g6 1100007 (g6 1046 0))) ∧ (0 ≤ (g6 1100025 (g6 1046 0)) → (g6 1100007 (g6 1100025 (g6 1046 0))) ≤ (g6 1100007 (g6 1046 0))))) ∧ (1 + 1 ≤ ((S 1100002 p2) + (600 - (S 1046 0)) + 9)) ∧ (∀ g26 : sv_S, (0 ≤ (g26 1047 0) ∧ (g26 1047 0) ≤ 1 ∧ 1 ≤ (g26 1046 0) ∧ (g6 1046 0) ≤ (g26 1046 0) ∧ (g26 1046 0) ≤ (g6 1046 0) + 1 ∧ (g26 1046 0) ≤ 600 ∧ ((g6 1047 0) = 1 → (g26 1047 0) = 1) ∧ ((g26 1047 0) = 1 → (g6 1047 0) = 1 ∨ (g6 1046 0) = 600) ∧ sm_F1 (g6 26) (g26 26) (g6 1046 0) ∧ sm_F1 (g6 27) (g26 27) (g6 1046 0) ∧ sm_F1 (g6 28) (g26 28) (g6 1046 0) ∧ sm_F1 (g6 29) (g26 29) (g6 1046 0) ∧ sm_F1 (g6 1100007) (g26 1100007) ((g6 1046 0) + 1) ∧ sm_F1 (g6 1100023) (g26 1100023) ((g6 1046 0) + 1) ∧ sm_F1 (g6 1100024) (g26 1100024) ((g6 1046 0) + 1) ∧ sm_F1 (g6 1100025) (g26 1100025) ((g6 1046 0) + 1) ∧ ((g26 1047 0) = 0 → (g6 1047 0) = 0 ∧ (g26 1046 0) = (g6 1046 0) + 1 ∧ sm_KC (g26 26) (g26 27) (g26 28) (g26 29) (g26 1100007) (g26 1100023) (g26 1100024) (g26 1100025) (g6 31) (g6 1100009) (g6 1100027) (g6 1100028) (g6 1100026) (g6 1100030) (S 21) (S 32) (S 33) (g26 1046 0) (g6 1053 0) (S 1056 0) (S 1032 0) (S 1007 0) (g6 1100033 0) ∧ sm_MB (g6 31) (g6 1100030) (g6 1053 0) (g26 1046 0) ∧ (g26 26 (g6 1046 0)) = (0 : Int) ∧ (g26 29 (g6 1046 0)) = (S 1056 0) ∧ (g26 1100007 (g26 1046 0)) = ((g6 1100007 (g6 1046 0)) + sm_dl (0 : Int) ((5 : Int))) ∧ (g26 1100023 (g26 1046 0)) = (sm_nt (0 : Int) (g6 1046 0) (g6 1100023 (g6 1046 0)) (g6 1100023 (g6 1100023 (g6 1046 0)))) ∧ (g26 1100024 (g26 1046 0)) = (sm_nd (0 : Int) (g6 1100024 (g6 1046 0))) ∧ (g26 1100025 (g26 1046 0)) = (sm_nl (0 : Int) (g6 1046 0) (g6 1100007 (g6 1046 0)) (g6 1100025 (g6 1046 0)) (g6 1100007 (g6 1100025 (g6 1046 0))) (g6 1100025 (g6 1100025 (g6 1046 0)))) ∧ (g26 1100007 (g26 1100023 (g26 1046 0))) = sm_nt (0 : Int) (g6 1100007 (g6 1046 0)) (g6 1100007 (g6 1100023 (g6 1046 0))) (g6 1100007 (g6 1100023 (g6 1100023 (g6 1046 0)))) ∧ ((0 : Int) = 29 → (g26 1100007 (g26 1100025 (g26 1046 0))) = (g6 1100007 (g6 1046 0))) ∧ ((0 : Int) = 17 → 0 ≤ (g6 1100025 (g6 1046 0)) → (g6 1100007 (g6 1100025 (g6 1046 0))) = (g6 1100007 (g6 1046 0)) → (g26 1100007 (g26 1100025 (g26 1046 0))) = (g6 1100007 (g6 1100025 (g6 1100025 (g6 1046 0))))) ∧ (¬ (0 : Int) = 29 → ((0 : Int) = 17 → 0 ≤ (g6 1100025 (g6 1046 0)) → (g6 1100007 (g6 1100025 (g6 1046 0))) < (g6 1100007 (g6 1046 0))) → (g26 1100007 (g26 1100025 (g26 1046 0))) = (g6 1100007 (g6 1100025 (g6 1046 0)))))) → (0 ≤ (g26 1046 0) ∧ (g26 1046 0) ≤ 600 ∧ 0 ≤ (g26 1047 0) ∧ (g26 1047 0) ≤ 1 ∧ ((g26 1047 0) = 0 → sm_KC (g26 26) (g26 27) (g26 28) (g26 29) (g26 1100007) (g26 1100023) (g26 1100024) (g26 1100025) (g6 31) (g6 1100009) (g6 1100027) (g6 1100028) (g6 1100026) (g6 1100030) (S 21) (S 32) (S 33) (g26 1046 0) (g6 1053 0) (S 1056 0) (S 1032 0) (S 1007 0) (g6 1100033 0) ∧ 0 ≤ (14 : Int) ∧ (14 : Int) ≤ 30 ∧ sm_ci (14 : Int) (p1) ((0 : Int)) (g26 1100007 (g26 1046 0)) (g26 1100023 (g26 1046 0)) (g26 1100024 (g26 1046 0)) (g26 1100025 (g26 1046 0)) (g26 1100007 (g26 1100023 (g26 1046 0))) (g26 1100007 (g26 1100025 (g26 1046 0))) (g26 1100023 (g26 1100023 (g26 1046 0))) (g26 1100025 (g26 1100025 (g26 1046 0))) (g26 1046 0) (g6 1100033 0) (S 1032 0) (S 1007 0) (S 21 p1) (S 1056 0) ((g26 1100007 (g26 1046 0)) + sm_dl (14 : Int) (p1)) (sm_nt (14 : Int) (g26 1046 0) (g26 1100023 (g26 1046 0)) (g26 1100023 (g26 1100023 (g26 1046 0)))) (sm_nl (14 : Int) (g26 1046 0) (g26 1100007 (g26 1046 0)) (g26 1100025 (g26 1046 0)) (g26 1100007 (g26 1100025 (g26 1046 0))) (g26 1100025 (g26 1100025 (g26 1046 0)))) (g6 1100009 p1) (g6 1100027 p1) (g6 1100028 p1) ∧ ((21 ≤ (14 : Int) ∧ (14 : Int) ≤ 24) ∨ (14 : Int) = 27 ∨ (14 : Int) = 30 → 0 ≤ p1 ∧ p1 < (g6 1053 0) ∧ (g6 1100026 p1) = (S 1056 0)) ∧ ((14 : Int) = 1 ∨ (14 : Int) = 2 → sm_vv (S 21) (S 32) (S 33) (S 1056 0) p1 (0 : Int)))) ∧ (0 + 1 ≤ ((S 1100002 p2) + (600 - (S 1046 0)) + 9)) ∧ (∀ g34 : sv_S, (0 ≤ (g34 1047 0) ∧ (g34 1047 0) ≤ 1 ∧ 1 ≤ (g34 1046 0) ∧ (g26 1046 0) ≤ (g34 1046 0) ∧ (g34 1046 0) ≤ (g26 1046 0) + 1 ∧ (g34 1046 0) ≤ 600 ∧ ((g26 1047 0) = 1 → (g34 1047 0) = 1) ∧ ((g34 1047 0) = 1 → (g26 1047 0) = 1 ∨ (g26 1046 0) = 600) ∧ sm_F1 (g26 26) (g34 26) (g26 1046 0) ∧ sm_F1 (g26 27) (g34 27) (g26 1046 0) ∧ sm_F1 (g26 28) (g34 28) (g26 1046 0) ∧ sm_F1 (g26 29) (g34 29) (g26 1046 0) ∧ sm_F1 (g26 1100007) (g34 1100007) ((g26 1046 0) + 1) ∧ sm_F1 (g26 1100023) (g34 1100023) ((g26 1046 0) + 1) ∧ sm_F1 (g26 1100024) (g34 1100024) ((g26 1046 0) + 1) ∧ sm_F1 (g26 1100025) (g34 1100025) ((g26 1046 0) + 1) ∧ ((g34 1047 0) = 0 → (g26 1047 0) = 0 ∧ (g34 1046 0) = (g26 1046 0) + 1 ∧ sm_KC (g34 26) (g34 27) (g34 28) (g34 29) (g34 1100007) (g34 1100023) (g34 1100024) (g34 1100025) (g6 31) (g6 1100009) (g6 1100027) (g6 1100028) (g6 1100026) (g6 1100030) (S 21) (S 32) (S 33) (g34 1046 0) (g6 1053 0) (S 1056 0) (S 1032 0) (S 1007 0) (g6 1100033 0) ∧ sm_MB (g6 31) (g6 1100030) (g6 1053 0) (g34 1046 0) ∧ (g34 26 (g26 1046 0)) = (14 : Int) ∧ (g34 29 (g26 1046 0)) = (S 1056 0) ∧ (g34 1100007 (g34 1046 0)) = ((g26 1100007 (g26 1046 0)) + sm_dl (14 : Int) (p1)) ∧ (g34 1100023 (g34 1046 0)) = (sm_nt (14 : Int) (g26 1046 0) (g26 1100023 (g26 1046 0)) (g26 1100023 (g26 1100023 (g26 1046 0)))) ∧ (g34 1100024 (g34 1046 0)) = (sm_nd (14 : Int) (g26 1100024 (g26 1046 0))) ∧ (g34 1100025 (g34 1046 0)) = (sm_nl (14 : Int) (g26 1046 0) (g26 1100007 (g26 1046 0)) (g26 1100025 (g26 1046 0)) (g26 1100007 (g26 1100025 (g26 1046 0))) (g26 1100025 (g26 1100025 (g26 1046 0)))) ∧ (g34 1100007 (g34 1100023 (g34 1046 0))) = sm_nt (14 : Int) (g26 1100007 (g26 1046 0)) (g26 1100007 (g26 1100023 (g26 1046 0))) (g26 1100007 (g26 1100023 (g26 1100023 (g26 1046 0)))) ∧ ((14 : Int) = 29 → (g34 1100007 (g34 1100025 (g34 1046 0))) = (g26 1100007 (g26 1046 0))) ∧ ((14 : Int) = 17 → 0 ≤ (g26 1100025 (g26 1046 0)) → (g26 1100007 (g26 1100025 (g26 1046 0))) = (g26 1100007 (g26 1046 0)) → (g34 1100007 (g34 1100025 (g34 1046 0))) = (g26 1100007 (g26 1100025 (g26 1100025 (g26 1046 0))))) ∧ (¬ (14 : Int) = 29 → ((14 : Int) = 17 → 0 ≤ (g26 1100025 (g26 1046 0)) → (g26 1100007 (g26 1100025 (g26 1046 0))) < (g26 1100007 (g26 1046 0))) → (g34 1100007 (g34 1100025 (g34 1046 0))) = (g26 1100007 (g26 1100025 (g26 1046 0)))))) → (0 ≤ p2 ∧ p2 < 12000) ∧ (sv_R (S 11 p2) → (((¬ (S 11 p2) = (2 : Int)) → (0 ≤ (g34 1046 0) ∧ (g34 1046 0) ≤ 600 ∧ 0 ≤ (g34 1047 0) ∧ (g34 1047 0) ≤ 1 ∧ ((g34 1047 0) = 0 → sm_KC (g34 26) (g34 27) (g34 28) (g34 29) (g34 1100007) (g34 1100023) (g34 1100024) (g34 1100025) (g6 31) (g6 1100009) (g6 1100027) (g6 1100028) (g6 1100026) (g6 1100030) (S 21) (S 32) (S 33) (g34 1046 0) (g6 1053 0) (S 1056 0) (S 1032 0) (S 1007 0) (g6 1100033 0) ∧ 0 ≤ (11 : Int) ∧ (11 : Int) ≤ 30 ∧ sm_ci (11 : Int) ((0 : Int)) ((0 : Int)) (g34 1100007 (g34 1046 0)) (g34 1100023 (g34 1046 0)) (g34 1100024 (g34 1046 0)) (g34 1100025 (g34 1046 0)) (g34 1100007 (g34 1100023 (g34 1046 0))) (g34 1100007 (g34 1100025 (g34 1046 0))) (g34 1100023 (g34 1100023 (g34 1046 0))) (g34 1100025 (g34 1100025 (g34 1046 0))) (g34 1046 0) (g6 1100033 0) (S 1032 0) (S 1007 0) (S 21 (0 : Int)) (S 1056 0) ((g34 1100007 (g34 1046 0)) + sm_dl (11 : Int) ((0 : Int))) (sm_nt (11 : Int) (g34 1046 0) (g34 1100023 (g34 1046 0)) (g34 1100023 (g34 1100023 (g34 1046 0)))) (sm_nl (11 : Int) (g34 1046 0) (g34 1100007 (g34 1046 0)) (g34 1100025 (g34 1046 0)) (g34 1100007 (g34 1100025 (g34 1046 0))) (g34 1100025 (g34 1100025 (g34 1046 0)))) (g6 1100009 (0 : Int)) (g6 1100027 (0 : Int)) (g6 1100028 (0 : Int)) ∧ ((21 ≤ (11 : Int) ∧ (11 : Int) ≤ 24) ∨ (11 : Int) = 27 ∨ (11 : Int) = 30 → 0 ≤ (0 : Int) ∧ (0 : Int) < (g6 1053 0) ∧ (g6 1100026 (0 : Int)) = (S 1056 0)) ∧ ((11 : Int) = 1 ∨ (11 : Int) = 2 → sm_vv (S 21) (S 32) (S 33) (S 1056 0) (0 : Int) (0 : Int)))) ∧ (∀ g43 : sv_S, (0 ≤ (g43 1047 0) ∧ (g43 1047 0) ≤ 1 ∧ 1 ≤ (g43 1046 0) ∧ (g34 1046 0) ≤ (g43 1046 0) ∧ (g43 1046 0) ≤ (g34 1046 0) + 1 ∧ (g43 1046 0) ≤ 600 ∧ ((g34 1047 0) = 1 → (g43 1047 0) = 1) ∧ ((g43 1047 0) = 1 → (g34 1047 0) = 1 ∨ (g34 1046 0) = 600) ∧ sm_F1 (g34 26) (g43 26) (g34 1046 0) ∧ sm_F1 (g34 27) (g43 27) (g34 1046 0) ∧ sm_F1 (g34 28) (g43 28) (g34 1046 0) ∧ sm_F1 (g34 29) (g43 29) (g34 1046 0) ∧ sm_F1 (g34 1100007) (g43 1100007) ((g34 1046 0) + 1) ∧ sm_F1 (g34 1100023) (g43 1100023) ((g34 1046 0) + 1) ∧ sm_F1 (g34 1100024) (g43 1100024) ((g34 1046 0) + 1) ∧ sm_F1 (g34 1100025) (g43 1100025) ((g34 1046 0) + 1) ∧ ((g43 1047 0) = 0 → (g34 1047 0) = 0 ∧ (g43 1046 0) = (g34 1046 0) + 1 ∧ sm_KC (g43 26) (g43 27) (g43 28) (g43 29) (g43 1100007) (g43 1100023) (g43 1100024) (g43 1100025) (g6 31) (g6 1100009) (g6 1100027) (g6 1100028) (g6 1100026) (g6 1100030) (S 21) (S 32) (S 33) (g43 1046 0) (g6 1053 0) (S 1056 0) (S 1032 0) (S 1007 0) (g6 1100033 0) ∧ sm_MB (g6 31) (g6 1100030) (g6 1053 0) (g43 1046 0) ∧ (g43 26 (g34 1046 0)) = (11 : Int) ∧ (g43 29 (g34 1046 0)) = (S 1056 0) ∧ (g43 1100007 (g43 1046 0)) = ((g34 1100007 (g34 1046 0)) + sm_dl (11 : Int) ((0 : Int))) ∧ (g43 1100023 (g43 1046 0)) = (sm_nt (11 : Int) (g34 1046 0) (g34 1100023 (g34 1046 0)) (g34 1100023 (g34 1100023 (g34 1046 0)))) ∧ (g43 1100024 (g43 1046 0)) = (sm_nd (11 : Int) (g34 1100024 (g34 1046 0))) ∧ (g43 1100025 (g43 1046 0)) = (sm_nl (11 : Int) (g34 1046 0) (g34 1100007 (g34 1046 0)) (g34 1100025 (g34 1046 0)) (g34 1100007 (g34 1100025 (g34 1046 0))) (g34 1100025 (g34 1100025 (g34 1046 0)))) ∧ (g43 1100007 (g43 1100023 (g43 1046 0))) = sm_nt (11 : Int) (g34 1100007 (g34 1046 0)) (g34 1100007 (g34 1100023 (g34 1046 0))) (g34 1100007 (g34 1100023 (g34 1100023 (g34 1046 0)))) ∧ ((11 : Int) = 29 → (g43 1100007 (g43 1100025 (g43 1046 0))) = (g34 1100007 (g34 1046 0))) ∧ ((11 : Int) = 17 → 0 ≤ (g34 1100025 (g34 1046 0)) → (g34 1100007 (g34 1100025 (g34 1046 0))) = (g34 1100007 (g34 1046 0)) → (g43 1100007 (g43 1100025 (g43 1046 0))) = (g34 1100007 (g34 1100025 (g34 1100025 (g34 1046 0))))) ∧ (¬ (11 : Int) = 29 → ((11 : Int) = 17 → 0 ≤ (g34 1100025 (g34 1046 0)) → (g34 1100007 (g34 1100025 (g34 1046 0))) < (g34 1100007 (g34 1046 0))) → (g43 1100007 (g43 1100025 (g43 1046 0))) = (g34 1100007 (g34 1100025 (g34 1046 0)))))) → (0 ≤ (g43 1046 0) ∧ (g43 1046 0) ≤ 600 ∧ 0 ≤ (g43 1047 0) ∧ (g43 1047 0) ≤ 1 ∧ 0 ≤ (g6 1053 0) ∧ 0 ≤ (g6 1066 0) ∧ (S 1046 0) ≤ (g43 1046 0) ∧ ((S 1047 0) = 1 → (g43 1047 0) = 1) ∧ sm_F1 (S 26) (g43 26) (S 1046 0) ∧ sm_F1 (S 27) (g43 27) (S 1046 0) ∧ sm_F1 (S 28) (g43 28) (S 1046 0) ∧ sm_F1 (S 29) (g43 29) (S 1046 0) ∧ sm_F1 (S 1100007) (g43 1100007) ((S 1046 0) + 1) ∧ sm_F1 (S 1100023) (g43 1100023) ((S 1046 0) + 1) ∧ sm_F1 (S 1100024) (g43 1100024) ((S 1046 0) + 1) ∧ sm_F1 (S 1100025) (g43 1100025) ((S 1046 0) + 1) ∧ sm_F1 (S 1100009) (g6 1100009) (S 1053 0) ∧ sm_F1 (S 1100027) (g6 1100027) (S 1053 0) ∧ sm_F1 (S 1100028) (g6 1100028) (S 1053 0) ∧ sm_F1 (S 1100026) (g6 1100026) (S 1053 0) ∧ sm_F1 (S 1100030) (g6 1100030) (S 1053 0) ∧ sm_F1 (S 31) (g6 31) (S 1053 0) ∧ (S 1053 0) ≤ (g6 1053 0) ∧ (g6 1066 0) = (S 1066 0) ∧ sm_F1 (S 39) (g6 39) (S 1066 0) ∧ ((S 1047 0) = 1 → (g6 1053 0) = (S 1053 0)) ∧ ((S 1047 0) = 0 → (g6 1053 0) ≤ (S 1053 0) + 3 * (600 - (S 1046 0)) + (S 1100002 p2)) ∧ ((g43 1047 0) = 0 → (S 1047 0) = 0 ∧ sm_KC (g43 26) (g43 27) (g43 28) (g43 29) (g43 1100007) (g43 1100023) (g43 1100024) (g43 1100025) (g6 31) (g6 1100009) (g6 1100027) (g6 1100028) (g6 1100026) (g6 1100030) (S 21) (S 32) (S 33) (g43 1046 0) (g6 1053 0) (S 1056 0) (S 1032 0) (S 1007 0) (g6 1100033 0) ∧ (g6 1100033 0) = (g6 1055 0) ∧ 0 ≤ (g6 1055 0) ∧ (g6 1055 0) ≤ (g43 1046 0) ∧ (S 1046 0) + 2 ≤ (g43 1046 0) ∧ sm_FC (g43 29) (S 1046 0) (g43 1046 0) (S 1056 0) ∧ (g43 1100007 (g43 1046 0)) = (S 1100007 (S 1046 0)) + 2 ∧ (g43 1100023 (g43 1046 0)) = (S 1100023 (S 1046 0)) ∧ (g43 1100024 (g43 1046 0)) = (S 1100024 (S 1046 0)) ∧ (g43 1100025 (g43 1046 0)) = (S 1100025 (S 1046 0)) ∧ (g43 1100007 (g43 1100023 (g43 1046 0))) = (S 1100007 (S 1100023 (S 1046 0))) ∧ (g43 1100007 (g43 1100025 (g43 1046 0))) = (S 1100007 (S 1100025 (S 1046 0))) ∧ sm_AP (g6 1100030) (S 1053 0) (g6 1053 0) ∧ sm_HB (g43 1100007) (S 1046 0) (g43 1046 0) (2 * (S 1100007 (S 1046 0)) + ((g43 1046 0) - (S 1046 0)) + 8 * (S 1100005 p2) + 10) ∧ (g6 1053 0) ≤ (S 1053 0) + 3 * ((g43 1046 0) - (S 1046 0)) ∧ True)))) ∧ ((¬ (¬ (S 11 p2) = (2 : Int))) → (0 ≤ p2 ∧ p2 < 12000 ∧ 0 ≤ (0 : Int) ∧ (0 : Int) ≤ 4) ∧ (0 ≤ (g34 1046 0) ∧ (g34 1046 0) ≤ 600 ∧ 0 ≤ (g34 1047 0) ∧ (g34 1047 0) ≤ 1 ∧ 0 ≤ (S 1056 0) ∧ (S 1056 0) < (S 1032 0) ∧ (S 1032 0) ≤ 11 ∧ sm_VB (S 33) (S 21) (S 1032 0) ∧ (((2 : Int) = 1 ∧ ((4 : Int) = 3 ∨ (4 : Int) = 5)) ∨ ((2 : Int) = 2 ∧ (4 : Int) = 4)) ∧ ((g34 1047 0) = 0 → sm_KC (g34 26) (g34 27) (g34 28) (g34 29) (g34 1100007) (g34 1100023) (g34 1100024) (g34 1100025) (g6 31) (g6 1100009) (g6 1100027) (g6 1100028) (g6 1100026) (g6 1100030) (S 21) (S 32) (S 33) (g34 1046 0) (g6 1053 0) (S 1056 0) (S 1032 0) (S 1007 0) (g6 1100033 0) ∧ 0 ≤ ((S 12 (5 * p2 + (0 : Int)))) ∧ ((S 12 (5 * p2 + (0 : Int)))) < (S 1007 0) ∧ ((2 : Int) = 1 → (0 ≤ (g34 1100023 (g34 1046 0)) → (g34 1100007 (g34 1100023 (g34 1046 0))) ≤ (g34 1100007 (g34 1046 0))) ∧ (0 ≤ (g34 1100025 (g34 1046 0)) → (g34 1100007 (g34 1100025 (g34 1046 0))) ≤ (g34 1100007 (g34 1046 0)))) ∧ ((2 : Int) = 2 → 1 ≤ (g34 1100007 (g34 1046 0)) ∧ (0 ≤ (g34 1100023 (g34 1046 0)) → (g34 1100007 (g34 1100023 (g34 1046 0))) ≤ (g34 1100007 (g34 1046 0)) - 1) ∧ (0 ≤ (g34 1100025 (g34 1046 0)) → (g34 1100007 (g34 1100025 (g34 1046 0))) ≤ (g34 1100007 (g34 1046 0)) - 1)))) ∧ (2 + 1 ≤ ((S 1100002 p2) + (600 - (S 1046 0)) + 9)) ∧ (∀ g52 : sv_S, (0 ≤ (g52 1047 0) ∧ (g52 1047 0) ≤ 1 ∧ 1 ≤ (g52 1046 0) ∧ (g34 1046 0) ≤ (g52 1046 0) ∧ (g52 1046 0) ≤ (g34 1046 0) + 1 ∧ (g52 1046 0) ≤ 600 ∧ ((g34 1047 0) = 1 → (g52 1047 0) = 1) ∧ ((g52 1047 0) = 1 → (g34 1047 0) = 1 ∨ (g34 1046 0) = 600) ∧ sm_F1 (g34 26) (g52 26) (g34 1046 0) ∧ sm_F1 (g34 27) (g52 27) (g34 1046 0) ∧ sm_F1 (g34 28) (g52 28) (g34 1046 0) ∧ sm_F1 (g34 29) (g52 29) (g34 1046 0) ∧ sm_F1 (g34 1100007) (g52 1100007) ((g34 1046 0) + 1) ∧ sm_F1 (g34 1100023) (g52 1100023) ((g34 1046 0) + 1) ∧ sm_F1 (g34 1100024) (g52 1100024) ((g34 1046 0) + 1) ∧ sm_F1 (g34 1100025) (g52 1100025) ((g34 1046 0) + 1) ∧ ((g52 1047 0) = 0 → (g34 1047 0) = 0 ∧ (g52 1046 0) = (g34 1046 0) + 1 ∧ sm_KC (g52 26) (g52 27) (g52 28) (g52 29) (g52 1100007) (g52 1100023) (g52 1100024) (g52 1100025) (g6 31) (g6 1100009) (g6 1100027) (g6 1100028) (g6 1100026) (g6 1100030) (S 21) (S 32) (S 33) (g52 1046 0) (g6 1053 0) (S 1056 0) (S 1032 0) (S 1007 0) (g6 1100033 0) ∧ sm_MB (g6 31) (g6 1100030) (g6 1053 0) (g52 1046 0) ∧ ((g52 26 (g34 1046 0)) = (2 : Int) ∨ (g52 26 (g34 1046 0)) = (4 : Int)) ∧ (g52 29 (g34 1046 0)) = (S 1056 0) ∧ (g52 1100007 (g52 1046 0)) = (g34 1100007 (g34 1046 0)) + (if (2 : Int) = 1 then 1 else 0) ∧ (g52 1100023 (g52 1046 0)) = (g34 1100023 (g34 1046 0)) ∧ (g52 1100024 (g52 1046 0)) = (g34 1100024 (g34 1046 0)) ∧ (g52 1100025 (g52 1046 0)) = (g34 1100025 (g34 1046 0)) ∧ (g52 1100007 (g52 1100023 (g52 1046 0))) = (g34 1100007 (g34 1100023 (g34 1046 0))) ∧ (g52 1100007 (g52 1100025 (g52 1046 0))) = (g34 1100007 (g34 1100025 (g34 1046 0))))) → (0 ≤ (g52 1046 0) ∧ (g52 1046 0) ≤ 600 ∧ 0 ≤ (g52 1047 0) ∧ (g52 1047 0) ≤ 1 ∧ 0 ≤ (g6 1053 0) ∧ 0 ≤ (g6 1066 0) ∧ (S 1046 0) ≤ (g52 1046 0) ∧ ((S 1047 0) = 1 → (g52 1047 0) = 1) ∧ sm_F1 (S 26) (g52 26) (S 1046 0) ∧ sm_F1 (S 27) (g52 27) (S 1046 0) ∧ sm_F1 (S 28) (g52 28) (S 1046 0) ∧ sm_F1 (S 29) (g52 29) (S 1046 0) ∧ sm_F1 (S 1100007) (g52 1100007) ((S 1046 0) + 1) ∧ sm_F1 (S 1100023) (g52 1100023) ((S 1046 0) + 1) ∧ sm_F1 (S 1100024) (g52 1100024) ((S 1046 0) + 1) ∧ sm_F1 (S 1100025) (g52 1100025) ((S 1046 0) + 1) ∧ sm_F1 (S 1100009) (g6 1100009) (S 1053 0) ∧ sm_F1 (S 1100027) (g6 1100027) (S 1053 0) ∧ sm_F1 (S 1100028) (g6 1100028) (S 1053 0) ∧ sm_F1 (S 1100026) (g6 1100026) (S 1053 0) ∧ sm_F1 (S 1100030) (g6 1100030) (S 1053 0) ∧ sm_F1 (S 31) (g6 31) (S 1053 0) ∧ (S 1053 0) ≤ (g6 1053 0) ∧ (g6 1066 0) = (S 1066 0) ∧ sm_F1 (S 39) (g6 39) (S 1066 0) ∧ ((S 1047 0) = 1 → (g6 1053 0) = (S 1053 0)) ∧ ((S 1047 0) = 0 → (g6 1053 0) ≤ (S 1053 0) + 3 * (600 - (S 1046 0)) + (S 1100002 p2)) ∧ ((g52 1047 0) = 0 → (S 1047 0) = 0 ∧ sm_KC (g52 26) (g52 27) (g52 28) (g52 29) (g52 1100007) (g52 1100023) (g52 1100024) (g52 1100025) (g6 31) (g6 1100009) (g6 1100027) (g6 1100028) (g6 1100026) (g6 1100030) (S 21) (S 32) (S 33) (g52 1046 0) (g6 1053 0) (S 1056 0) (S 1032 0) (S 1007 0) (g6 1100033 0) ∧ (g6 1100033 0) = (g6 1055 0) ∧ 0 ≤ (g6 1055 0) ∧ (g6 1055 0) ≤ (g52 1046 0) ∧ (S 1046 0) + 2 ≤ (g52 1046 0) ∧ sm_FC (g52 29) (S 1046 0) (g52 1046 0) (S 1056 0) ∧ (g52 1100007 (g52 1046 0)) = (S 1100007 (S 1046 0)) + 2 ∧ (g52 1100023 (g52 1046 0)) = (S 1100023 (S 1046 0)) ∧ (g52 1100024 (g52 1046 0)) = (S 1100024 (S 1046 0)) ∧ (g52 1100025 (g52 1046 0)) = (S 1100025 (S 1046 0)) ∧ (g52 1100007 (g52 1100023 (g52 1046 0))) = (S 1100007 (S 1100023 (S 1046 0))) ∧ (g52 1100007 (g52 1100025 (g52 1046 0))) = (S 1100007 (S 1100025 (S 1046 0))) ∧ sm_AP (g6 1100030) (S 1053 0) (g6 1053 0) ∧ sm_HB (g52 1100007) (S 1046 0) (g52 1046 0) (2 * (S 1100007 (S 1046 0)) + ((g52 1046 0) - (S 1046 0)) + 8 * (S 1100005 p2) + 10) ∧ (g6 1053 0) ≤ (S 1053 0) + 3 * ((g52 1046 0) - (S 1046 0)) ∧ True)))))))))) ∧ ((sm_WF (S 11) (S 12) (S 13) (S 1100001) (S 1100002) (S 1100005) (S 1100003) (S 1100004) (S 1024 0) (S 1007 0) (S 1009 0) (sm_fn (S 1032 0) (S 21) (S 1056 0)) → 0 ≤ p2 → p2 < (S 1024 0) → ((S 1100001 (p2)) = 1 → 0 ≤ (S 1100002 (p2)) ∧ ((S 11 (p2)) = 3 → (S 12 (5 * (p2) + 1)) < (p2)) ∧ ((S 11 (p2)) = 4 ∨ (S 11 (p2)) = 5 ∨ (S 11 (p2)) = 8 ∨ (S 11 (p2)) = 9 → 17 * (S 1100005 (p2)) + 2 ≤ (S 1100002 (p2))) ∧ 0 ≤ (S 1100005 (p2))) ∧ ((S 1100001 (p2)) = 2 → 0 ≤ (S 1100005 (p2)) ∧ (S 1100002 (p2)) ≤ 17 * (S 1100005 (p2)) + 5 ∧ ((S 11 (p2)) = 33 → 1 ≤ (S 1100005 (p2)))) ∧ ((S 1100001 (p2)) = 6 → 0 ≤ (S 1100002 (p2)) ∧ 1 ≤ (S 1100004 (p2)) ∧ ((S 12 (5 * (p2))) = - 1 → (S 1100004 (p2)) = 2)) ∧ ((S 1100001 (p2)) = 3 → 1 ≤ (S 1100002 (p2)))) → ((sm_WF (S 11) (S 12) (S 13) (S 1100001) (S 1100002) (S 1100005) (S 1100003) (S 1100004) (S 1024 0) (S 1007 0) (S 1009 0) (sm_fn (S 1032 0) (S 21) (S 1056 0)) → 0 ≤ p2 → p2 < (S 1024 0) → (S 1100001 p2) = 1 → (S 11 p2) = 2 → sm_nm (S 1007 0) (S 1009 0) ((S 12 (5 * (p2))))) → ((sm_WF (S 11) (S 12) (S 13) (S 1100001) (S 1100002) (S 1100005) (S 1100003) (S 1100004) (S 1024 0) (S 1007 0) (S 1009 0) (sm_fn (S 1032 0) (S 21) (S 1056 0)) → 0 ≤ p2 → p2 < (S 1024 0) → (S 1100001 p2) = 1 → (S 11 p2) = 7 → sm_ex (S 1100001) (S 1100002) (S 1100005) (S 1024 0) 1 ((S 12 (5 * (p2)))) ((S 1100002 (p2))) ((S 1100005 (p2))) ∧ (S 12 (5 * (p2))) < (p2) ∧ sm_ex (S 1100001) (S 1100002) (S 1100005) (S 1024 0) 1 ((S 12 (5 * (p2) + 1))) (((S 1100002 (p2))) - 1) ((S 1100005 (p2))) ∧ (S 12 (5 * (p2) + 1)) < (p2)) → ((sm_nm (S 1007 0) (S 1009 0) ((S 12 (5 * p2))) → (S 1009 0) = 0 → 0 ≤ (S 12 (5 * p2)) ∧ (S 12 (5 * p2)) < (S 1007 0)) → ((2 ≤ (if (S 11 p2) = 2 then (2 : Int) else 4) ∧ (if (S 11 p2) = 2 then (2 : Int) else 4) ≤ 4 ∧ ((S 11 p2) = 2 → (if (S 11 p2) = 2 then (2 : Int) else 4) = 2) ∧ (¬ (S 11 p2) = 2 → (if (S 11 p2) = 2 then (2 : Int) else 4) = 4)) → (0 ≤ p2 ∧ p2 < 12000) ∧ (sv_R (S 11 p2) → (((¬ (S 11 p2) = (2 : Int)) → ((sm_WF (S 11) (S 12) (S 13) (S 1100001) (S 1100002) (S 1100005) (S 1100003) (S 1100004) (S 1024 0) (S 1007 0) (S 1009 0) (sm_fn (S 1032 0) (S 21) (S 1056 0)) → 0 ≤ (S 12 (5 * p2)) → (S 12 (5 * p2)) < (S 1024 0) → ((S 1100001 ((S 12 (5 * p2)))) = 1 → 0 ≤ (S 1100002 ((S 12 (5 * p2)))) ∧ ((S 11 ((S 12 (5 * p2)))) = 3 → (S 12 (5 * ((S 12 (5 * p2))) + 1)) < ((S 12 (5 * p2)))) ∧ ((S 11 ((S 12 (5 * p2)))) = 4 ∨ (S 11 ((S 12 (5 * p2)))) = 5 ∨ (S 11 ((S 12 (5 * p2)))) = 8 ∨ (S 11 ((S 12 (5 * p2)))) = 9 → 17 * (S 1100005 ((S 12 (5 * p2)))) + 2 ≤ (S 1100002 ((S 12 (5 * p2))))) ∧ 0 ≤ (S 1100005 ((S 12 (5 * p2))))) ∧ ((S 1100001 ((S 12 (5 * p2)))) = 2 → 0 ≤ (S 1100005 ((S 12 (5 * p2)))) ∧ (S 1100002 ((S 12 (5 * p2)))) ≤ 17 * (S 1100005 ((S 12 (5 * p2)))) + 5 ∧ ((S 11 ((S 12 (5 * p2)))) = 33 → 1 ≤ (S 1100005 ((S 12 (5 * p2)))))) ∧ ((S 1100001 ((S 12 (5 * p2)))) = 6 → 0 ≤ (S 1100002 ((S 12 (5 * p2)))) ∧ 1 ≤ (S 1100004 ((S 12 (5 * p2)))) ∧ ((S 12 (5 * ((S 12 (5 * p2))))) = - 1 → (S 1100004 ((S 12 (5 * p2)))) = 2)) ∧ ((S 1100001 ((S 12 (5 * p2)))) = 3 → 1 ≤ (S 1100002 ((S 12 (5 * p2)))))) → ((sm_WF (S 11) (S 12) (S 13) (S 1100001) (S 1100002) (S 1100005) (S 1100003) (S 1100004) (S 1024 0) (S 1007 0) (S 1009 0) (sm_fn (S 1032 0) (S 21) (S 1056 0)) → 0 ≤ (S 12 (5 * p2 + 1)) → (S 12 (5 * p2 + 1)) < (S 1024 0) → ((S 1100001 ((S 12 (5 * p2 + 1)))) = 1 → 0 ≤ (S 1100002 ((S 12 (5 * p2 + 1)))) ∧ ((S 11 ((S 12 (5 * p2 + 1)))) = 3 → (S 12 (5 * ((S 12 (5 * p2 + 1))) + 1)) < ((S 12 (5 * p2 + 1)))) ∧ ((S 11 ((S 12 (5 * p2 + 1)))) = 4 ∨ (S 11 ((S 12 (5 * p2 + 1)))) = 5 ∨ (S 11 ((S 12 (5 * p2 + 1)))) = 8 ∨ (S 11 ((S 12 (5 * p2 + 1)))) = 9 → 17 * (S 1100005 ((S 12 (5 * p2 + 1)))) + 2 ≤ (S 1100002 ((S 12 (5 * p2 + 1))))) ∧ 0 ≤ (S 1100005 ((S 12 (5 * p2 + 1))))) ∧ ((S 1100001 ((S 12 (5 * p2 + 1)))) = 2 → 0 ≤ (S 1100005 ((S 12 (5 * p2 + 1)))) ∧ (S 1100002 ((S 12 (5 * p2 + 1)))) ≤ 17 * (S 1100005 ((S 12 (5 * p2 + 1)))) + 5 ∧ ((S 11 ((S 12 (5 * p2 + 1)))) = 33 → 1 ≤ (S 1100005 ((S 12 (5 * p2 + 1)))))) ∧ ((S 1100001 ((S 12 (5 * p2 + 1)))) = 6 → 0 ≤ (S 1100002 ((S 12 (5 * p2 + 1)))) ∧ 1 ≤ (S 1100004 ((S 12 (5 * p2 + 1)))) ∧ ((S 12 (5 * ((S 12 (5 * p2 + 1))))) = - 1 → (S 1100004 ((S 12 (5 * p2 + 1)))) = 2)) ∧ ((S 1100001 ((S 12 (5 * p2 + 1)))) = 3 → 1 ≤ (S 1100002 ((S 12 (5 * p2 + 1)))))) → (((S 1100005 (S 12 (5 * p2 + 0))) = (S 1100005 (S 12 (5 * p2)))) → (((S 1100002 (S 12 (5 * p2 + 0))) = (S 1100002 (S 12 (5 * p2)))) → (0 ≤ p2 ∧ p2 < 12000 ∧ 0 ≤ (0 : Int) ∧ (0 : Int) ≤ 4) ∧ (0 + 1 ≤ ((S 1100002 p2) + (600 - (S 1046 0)) + 9)) ∧ (sm_WF (S 11) (S 12) (S 13) (S 1100001) (S 1100002) (S 1100005) (S 1100003) (S 1100004) (S 1024 0) (S 1007 0) (S 1009 0) (sm_fn (S 1032 0) (S 21) (S 1056 0)) ∧ (S 1009 0) = 0 ∧ 0 ≤ (S 1007 0) ∧ (S 1007 0) ≤ 90 ∧ 0 ≤ (S 1024 0) ∧ (S 1024 0) ≤ 12000 ∧ 1 ≤ (S 1032 0) ∧ (S 1032 0) ≤ 11 ∧ 0 ≤ (S 1056 0) ∧ (S 1056 0) < (S 1032 0) ∧ sm_VB (S 33) (S 21) (S 1032 0) ∧ 0 ≤ (S 1046 0) ∧ (S 1046 0) ≤ 600 ∧ 0 ≤ (S 1047 0) ∧ (S 1047 0) ≤ 1 ∧ 0 ≤ (S 1053 0) ∧ 0 ≤ (S 1066 0) ∧ 0 ≤ ((S 12 (5 * p2 + (0 : Int)))) ∧ ((S 12 (5 * p2 + (0 : Int)))) < (S 1024 0) ∧ (S 1100001 ((S 12 (5 * p2 + (0 : Int))))) = 1 ∧ sm_LF (S 39) (S 1100002) (S 1066 0) (S 1024 0) (12001 * (S 1100002 ((S 12 (5 * p2 + (0 : Int))))) + ((S 12 (5 * p2 + (0 : Int))))) ∧ ((S 1047 0) = 0 → sm_KC (S 26) (S 27) (S 28) (S 29) (S 1100007) (S 1100023) (S 1100024) (S 1100025) (S 31) (S 1100009) (S 1100027) (S 1100028) (S 1100026) (S 1100030) (S 21) (S 32) (S 33) (S 1046 0) (S 1053 0) (S 1056 0) (S 1032 0) (S 1007 0) (S 1100033 0) ∧ (S 1100033 0) = (S 1055 0) ∧ 0 ≤ (S 1055 0) ∧ (S 1055 0) ≤ (S 1046 0) ∧ (0 ≤ (S 1100023 (S 1046 0)) → (S 1100007 (S 1100023 (S 1046 0))) ≤ (S 1100007 (S 1046 0))) ∧ (0 ≤ (S 1100025 (S 1046 0)) → (S 1100007 (S 1100025 (S 1046 0))) ≤ (S 1100007 (S 1046 0))) ∧ (S 1100007 (S 1046 0)) ≤ (S 1046 0) ∧ (S 1053 0) + 3 * (600 - (S 1046 0)) + (S 1100002 ((S 12 (5 * p2 + (0 : Int))))) ≤ 8000)) ∧ (0 ≤ ((if (S 1047 0) = 0 then (S 1100002 ((S 12 (5 * p2 + (0 : Int))))) + (600 - (S 1046 0)) + 8 else 4)) ∧ ((if (S 1047 0) = 0 then (S 1100002 ((S 12 (5 * p2 + (0 : Int))))) + (600 - (S 1046 0)) + 8 else 4)) < d) ∧ (0 ≤ ((if (S 1047 0) = 0 then (S 1100002 ((S 12 (5 * p2 + (0 : Int))))) + (600 - (S 1046 0)) + 8 else 4)) ∧ ((if (S 1047 0) = 0 then (S 1100002 ((S 12 (5 * p2 + (0 : Int))))) + (600 - (S 1046 0)) + 8 else 4)) + 1 ≤ ((S 1100002 p2) + (600 - (S 1046 0)) + 9)) ∧ (∀ g75 : sv_S, (0 ≤ (g75 1046 0) ∧ (g75 1046 0) ≤ 600 ∧ 0 ≤ (g75 1047 0) ∧ (g75 1047 0) ≤ 1 ∧ 0 ≤ (g75 1053 0) ∧ 0 ≤ (g75 1066 0) ∧ (S 1046 0) ≤ (g75 1046 0) ∧ ((S 1047 0) = 1 → (g75 1047 0) = 1) ∧ sm_F1 (S 26) (g75 26) (S 1046 0) ∧ sm_F1 (S 27) (g75 27) (S 1046 0) ∧ sm_F1 (S 28) (g75 28) (S 1046 0) ∧ sm_F1 (S 29) (g75 29) (S 1046 0) ∧ sm_F1 (S 1100007) (g75 1100007) ((S 1046 0) + 1) ∧ sm_F1 (S 1100023) (g75 1100023) ((S 1046 0) + 1) ∧ sm_F1 (S 1100024) (g75 1100024) ((S 1046 0) + 1) ∧ sm_F1 (S 1100025) (g75 1100025) ((S 1046 0) + 1) ∧ sm_F1 (S 1100009) (g75 1100009) (S 1053 0) ∧ sm_F1 (S 1100027) (g75 1100027) (S 1053 0) ∧ sm_F1 (S 1100028) (g75 1100028) (S 1053 0) ∧ sm_F1 (S 1100026) (g75 1100026) (S 1053 0) ∧ sm_F1 (S 1100030) (g75 1100030) (S 1053 0) ∧ sm_F1 (S 31) (g75 31) (S 1053 0) ∧ (S 1053 0) ≤ (g75 1053 0) ∧ (g75 1066 0) = (S 1066 0) ∧ sm_F1 (S 39) (g75 39) (S 1066 0) ∧ ((S 1047 0) = 1 → (g75 1053 0) = (S 1053 0)) ∧ ((S 1047 0) = 0 → (g75 1053 0) ≤ (S 1053 0) + 3 * (600 - (S 1046 0)) + (S 1100002 ((S 12 (5 * p2 + (0 : Int)))))) ∧ ((g75 1047 0) = 0 → (S 1047 0) = 0 ∧ sm_KC (g75 26) (g75 27) (g75 28) (g75 29) (g75 1100007) (g75 1100023) (g75 1100024) (g75 1100025) (g75 31) (g75 1100009) (g75 1100027) (g75 1100028) (g75 1100026) (g75 1100030) (S 21) (S 32) (S 33) (g75 1046 0) (g75 1053 0) (S 1056 0) (S 1032 0) (S 1007 0) (g75 1100033 0) ∧ (g75 1100033 0) = (g75 1055 0) ∧ 0 ≤ (g75 1055 0) ∧ (g75 1055 0) ≤ (g75 1046 0) ∧ (S 1046 0) + 1 ≤ (g75 1046 0) ∧ sm_FC (g75 29) (S 1046 0) (g75 1046 0) (S 1056 0) ∧ (g75 1100007 (g75 1046 0)) = (S 1100007 (S 1046 0)) + 1 ∧ (g75 1100023 (g75 1046 0)) = (S 1100023 (S 1046 0)) ∧ (g75 1100024 (g75 1046 0)) = (S 1100024 (S 1046 0)) ∧ (g75 1100025 (g75 1046 0)) = (S 1100025 (S 1046 0)) ∧ (g75 1100007 (g75 1100023 (g75 1046 0))) = (S 1100007 (S 1100023 (S 1046 0))) ∧ (g75 1100007 (g75 1100025 (g75 1046 0))) = (S 1100007 (S 1100025 (S 1046 0))) ∧ sm_AP (g75 1100030) (S 1053 0) (g75 1053 0) ∧ sm_HB (g75 1100007) (S 1046 0) (g75 1046 0) (2 * (S 1100007 (S 1046 0)) + ((g75 1046 0) - (S 1046 0)) + 8 * (S 1100005 ((S 12 (5 * p2 + (0 : Int))))) + 10) ∧ (g75 1053 0) ≤ (S 1053 0) + 3 * ((g75 1046 0) - (S 1046 0)) ∧ True)) → (0 ≤ p2 ∧ p2 < 12000 ∧ 0 ≤ (1 : Int) ∧ (1 : Int) ≤ 4) ∧ (sm_WF (S 11) (S 12) (S 13) (S 1100001) (S 1100002) (S 1100005) (S 1100003) (S 1100004) (S 1024 0) (S 1007 0) (S 1009 0) (sm_fn (S 1032 0) (S 21) (S 1056 0)) ∧ (S 1009 0) = 0 ∧ 0 ≤ (S 1007 0) ∧ (S 1007 0) ≤ 90 ∧ 0 ≤ (S 1024 0) ∧ (S 1024 0) ≤ 12000 ∧ 1 ≤ (S 1032 0) ∧ (S 1032 0) ≤ 11 ∧ 0 ≤ (S 1056 0) ∧ (S 1056 0) < (S 1032 0) ∧ sm_VB (S 33) (S 21) (S 1032 0) ∧ 0 ≤ (g75 1046 0) ∧ (g75 1046 0) ≤ 600 ∧ 0 ≤ (g75 1047 0) ∧ (g75 1047 0) ≤ 1 ∧ 0 ≤ (g75 1053 0) ∧ 0 ≤ (g75 1066 0) ∧ 0 ≤ ((S 12 (5 * p2 + (1 : Int)))) ∧ ((S 12 (5 * p2 + (1 : Int)))) < (S 1024 0) ∧ (S 1100001 ((S 12 (5 * p2 + (1 : Int))))) = 1 ∧ sm_LF (g75 39) (S 1100002) (g75 1066 0) (S 1024 0) (12001 * (S 1100002 ((S 12 (5 * p2 + (1 : Int))))) + ((S 12 (5 * p2 + (1 : Int))))) ∧ ((g75 1047 0) = 0 → sm_KC (g75 26) (g75 27) (g75 28) (g75 29) (g75 1100007) (g75 1100023) (g75 1100024) (g75 1100025) (g75 31) (g75 1100009) (g75 1100027) (g75 1100028) (g75 1100026) (g75 1100030) (S 21) (S 32) (S 33) (g75 1046 0) (g75 1053 0) (S 1056 0) (S 1032 0) (S 1007 0) (g75 1100033 0) ∧ (g75 1100033 0) = (g75 1055 0) ∧ 0 ≤ (g75 1055 0) ∧ (g75 1055 0) ≤ (g75 1046 0) ∧ (0 ≤ (g75 1100023 (g75 1046 0)) → (g75 1100007 (g75 1100023 (g75 1046 0))) ≤ (g75 1100007 (g75 1046 0))) ∧ (0 ≤ (g75 1100025 (g75 1046 0)) → (g75 1100007 (g75 1100025 (g75 1046 0))) ≤ (g75 1100007 (g75 1046 0))) ∧ (g75 1100007 (g75 1046 0)) ≤ (g75 1046 0) ∧ (g75 1053 0) + 3 * (600 - (g75 1046 0)) + (S 1100002 ((S 12 (5 * p2 + (1 : Int))))) ≤ 8000)) ∧ (0 ≤ ((if (g75 1047 0) = 0 then (S 1100002 ((S 12 (5 * p2 + (1 : Int))))) + (600 - (g75 1046 0)) + 8 else 4)) ∧ ((if (g75 1047 0) = 0 then (S 1100002 ((S 12 (5 * p2 + (1 : Int))))) + (600 - (g75 1046 0)) + 8 else 4)) < d) ∧ (0 ≤ ((if (g75 1047 0) = 0 then (S 1100002 ((S 12 (5 * p2 + (1 : Int))))) + (600 - (g75 1046 0)) + 8 else 4)) ∧ ((if (g75 1047 0) = 0 then (S 1100002 ((S 12 (5 * p2 + (1 : Int))))) + (600 - (g75 1046 0)) + 8 else 4)) + 1 ≤ ((S 1100002 p2) + (600 - (S 1046 0)) + 9)) ∧ (∀ g85 : sv_S, (0 ≤ (g85 1046 0) ∧ (g85 1046 0) ≤ 600 ∧ 0 ≤ (g85 1047 0) ∧ (g85 1047 0) ≤ 1 ∧ 0 ≤ (g85 1053 0) ∧ 0 ≤ (g85 1066 0) ∧ (g75 1046 0) ≤ (g85 1046 0) ∧ ((g75 1047 0) = 1 → (g85 1047 0) = 1) ∧ sm_F1 (g75 26) (g85 26) (g75 1046 0) ∧ sm_F1 (g75 27) (g85 27) (g75 1046 0) ∧ sm_F1 (g75 28) (g85 28) (g75 1046 0) ∧ sm_F1 (g75 29) (g85 29) (g75 1046 0) ∧ sm_F1 (g75 1100007) (g85 1100007) ((g75 1046 0) + 1) ∧ sm_F1 (g75 1100023) (g85 1100023) ((g75 1046 0) + 1) ∧ sm_F1 (g75 1100024) (g85 1100024) ((g75 1046 0) + 1) ∧ sm_F1 (g75 1100025) (g85 1100025) ((g75 1046 0) + 1) ∧ sm_F1 (g75 1100009) (g85 1100009) (g75 1053 0) ∧ sm_F1 (g75 1100027) (g85 1100027) (g75 1053 0) ∧ sm_F1 (g75 1100028) (g85 1100028) (g75 1053 0) ∧ sm_F1 (g75 1100026) (g85 1100026) (g75 1053 0) ∧ sm_F1 (g75 1100030) (g85 1100030) (g75 1053 0) ∧ sm_F1 (g75 31) (g85 31) (g75 1053 0) ∧ (g75 1053 0) ≤ (g85 1053 0) ∧ (g85 1066 0) = (g75 1066 0) ∧ sm_F1 (g75 39) (g85 39) (g75 1066 0) ∧ ((g75 1047 0) = 1 → (g85 1053 0) = (g75 1053 0)) ∧ ((g75 1047 0) = 0 → (g85 1053 0) ≤ (g75 1053 0) + 3 * (600 - (g75 1046 0)) + (S 1100002 ((S 12 (5 * p2 + (1 : Int)))))) ∧ ((g85 1047 0) = 0 → (g75 1047 0) = 0 ∧ sm_KC (g85 26) (g85 27) (g85 28) (g85 29) (g85 1100007) (g85 1100023) (g85 1100024) (g85 1100025) (g85 31) (g85 1100009) (g85 1100027) (g85 1100028) (g85 1100026) (g85 1100030) (S 21) (S 32) (S 33) (g85 1046 0) (g85 1053 0) (S 1056 0) (S 1032 0) (S 1007 0) (g85 1100033 0) ∧ (g85 1100033 0) = (g85 1055 0) ∧ 0 ≤ (g85 1055 0) ∧ (g85 1055 0) ≤ (g85 1046 0) ∧ (g75 1046 0) + 1 ≤ (g85 1046 0) ∧ sm_FC (g85 29) (g75 1046 0) (g85 1046 0) (S 1056 0) ∧ (g85 1100007 (g85 1046 0)) = (g75 1100007 (g75 1046 0)) + 1 ∧ (g85 1100023 (g85 1046 0)) = (g75 1100023 (g75 1046 0)) ∧ (g85 1100024 (g85 1046 0)) = (g75 1100024 (g75 1046 0)) ∧ (g85 1100025 (g85 1046 0)) = (g75 1100025 (g75 1046 0)) ∧ (g85 1100007 (g85 1100023 (g85 1046 0))) = (g75 1100007 (g75 1100023 (g75 1046 0))) ∧ (g85 1100007 (g85 1100025 (g85 1046 0))) = (g75 1100007 (g75 1100025 (g75 1046 0))) ∧ sm_AP (g85 1100030) (g75 1053 0) (g85 1053 0) ∧ sm_HB (g85 1100007) (g75 1046 0) (g85 1046 0) (2 * (g75 1100007 (g75 1046 0)) + ((g85 1046 0) - (g75 1046 0)) + 8 * (S 1100005 ((S 12 (5 * p2 + (1 : Int))))) + 10) ∧ (g85 1053 0) ≤ (g75 1053 0) + 3 * ((g85 1046 0) - (g75 1046 0)) ∧ True)) → (0 ≤ (g85 1046 0) ∧ (g85 1046 0) ≤ 600 ∧ 0 ≤ (g85 1047 0) ∧ (g85 1047 0) ≤ 1 ∧ ((g85 1047 0) = 0 → sm_KC (g85 26) (g85 27) (g85 28) (g85 29) (g85 1100007) (g85 1100023) (g85 1100024) (g85 1100025) (g85 31) (g85 1100009) (g85 1100027) (g85 1100028) (g85 1100026) (g85 1100030) (S 21) (S 32) (S 33) (g85 1046 0) (g85 1053 0) (S 1056 0) (S 1032 0) (S 1007 0) (g85 1100033 0) ∧ 0 ≤ (19 : Int) ∧ (19 : Int) ≤ 30 ∧ sm_ci (19 : Int) ((0 : Int)) ((0 : Int)) (g85 1100007 (g85 1046 0)) (g85 1100023 (g85 1046 0)) (g85 1100024 (g85 1046 0)) (g85 1100025 (g85 1046 0)) (g85 1100007 (g85 1100023 (g85 1046 0))) (g85 1100007 (g85 1100025 (g85 1046 0))) (g85 1100023 (g85 1100023 (g85 1046 0))) (g85 1100025 (g85 1100025 (g85 1046 0))) (g85 1046 0) (g85 1100033 0) (S 1032 0) (S 1007 0) (S 21 (0 : Int)) (S 1056 0) ((g85 1100007 (g85 1046 0)) + sm_dl (19 : Int) ((0 : Int))) (sm_nt (19 : Int) (g85 1046 0) (g85 1100023 (g85 1046 0)) (g85 1100023 (g85 1100023 (g85 1046 0)))) (sm_nl (19 : Int) (g85 1046 0) (g85 1100007 (g85 1046 0)) (g85 1100025 (g85 1046 0)) (g85 1100007 (g85 1100025 (g85 1046 0))) (g85 1100025 (g85 1100025 (g85 1046 0)))) (g85 1100009 (0 : Int)) (g85 1100027 (0 : Int)) (g85 1100028 (0 : Int)) ∧ ((21 ≤ (19 : Int) ∧ (19 : Int) ≤ 24) ∨ (19 : Int) = 27 ∨ (19 : Int) = 30 → 0 ≤ (0 : Int) ∧ (0 : Int) < (g85 1053 0) ∧ (g85 1100026 (0 : Int)) = (S 1056 0)) ∧ ((19 : Int) = 1 ∨ (19 : Int) = 2 → sm_vv (S 21) (S 32) (S 33) (S 1056 0) (0 : Int) (0 : Int)))) ∧ (1 + 1 ≤ ((S 1100002 p2) + (600 - (S 1046 0)) + 9)) ∧ (∀ g93 : sv_S, (0 ≤ (g93 1047 0) ∧ (g93 1047 0) ≤ 1 ∧ 1 ≤ (g93 1046 0) ∧ (g85 1046 0) ≤ (g93 1046 0) ∧ (g93 1046 0) ≤ (g85 1046 0) + 1 ∧ (g93 1046 0) ≤ 600 ∧ ((g85 1047 0) = 1 → (g93 1047 0) = 1) ∧ ((g93 1047 0) = 1 → (g85 1047 0) = 1 ∨ (g85 1046 0) = 600) ∧ sm_F1 (g85 26) (g93 26) (g85 1046 0) ∧ sm_F1 (g85 27) (g93 27) (g85 1046 0) ∧ sm_F1 (g85 28) (g93 28) (g85 1046 0) ∧ sm_F1 (g85 29) (g93 29) (g85 1046 0) ∧ sm_F1 (g85 1100007) (g93 1100007) ((g85 1046 0) + 1) ∧ sm_F1 (g85 1100023) (g93 1100023) ((g85 1046 0) + 1) ∧ sm_F1 (g85 1100024) (g93 1100024) ((g85 1046 0) + 1) ∧ sm_F1 (g85 1100025) (g93 1100025) ((g85 1046 0) + 1) ∧ ((g93 1047 0) = 0 → (g85 1047 0) = 0 ∧ (g93 1046 0) = (g85 1046 0) + 1 ∧ sm_KC (g93 26) (g93 27) (g93 28) (g93 29) (g93 1100007) (g93 1100023) (g93 1100024) (g93 1100025) (g85 31) (g85 1100009) (g85 1100027) (g85 1100028) (g85 1100026) (g85 1100030) (S 21) (S 32) (S 33) (g93 1046 0) (g85 1053 0) (S 1056 0) (S 1032 0) (S 1007 0) (g85 1100033 0) ∧ sm_MB (g85 31) (g85 1100030) (g85 1053 0) (g93 1046 0) ∧ (g93 26 (g85 1046 0)) = (19 : Int) ∧ (g93 29 (g85 1046 0)) = (S 1056 0) ∧ (g93 1100007 (g93 1046 0)) = ((g85 1100007 (g85 1046 0)) + sm_dl (19 : Int) ((0 : Int))) ∧ (g93 1100023 (g93 1046 0)) = (sm_nt (19 : Int) (g85 1046 0) (g85 1100023 (g85 1046 0)) (g85 1100023 (g85 1100023 (g85 1046 0)))) ∧ (g93 1100024 (g93 1046 0)) = (sm_nd (19 : Int) (g85 1100024 (g85 1046 0))) ∧ (g93 1100025 (g93 1046 0)) = (sm_nl (19 : Int) (g85 1046 0) (g85 1100007 (g85 1046 0)) (g85 1100025 (g85 1046 0)) (g85 1100007 (g85 1100025 (g85 1046 0))) (g85 1100025 (g85 1100025 (g85 1046 0)))) ∧ (g93 1100007 (g93 1100023 (g93 1046 0))) = sm_nt (19 : Int) (g85 1100007 (g85 1046 0)) (g85 1100007 (g85 1100023 (g85 1046 0))) (g85 1100007 (g85 1100023 (g85 1100023 (g85 1046 0)))) ∧ ((19 : Int) = 29 → (g93 1100007 (g93 1100025 (g93 1046 0))) = (g85 1100007 (g85 1046 0))) ∧ ((19 : Int) = 17 → 0 ≤ (g85 1100025 (g85 1046 0)) → (g85 1100007 (g85 1100025 (g85 1046 0))) = (g85 1100007 (g85 1046 0)) → (g93 1100007 (g93 1100025 (g93 1046 0))) = (g85 1100007 (g85 1100025 (g85 1100025 (g85 1046 0))))) ∧ (¬ (19 : Int) = 29 → ((19 : Int) = 17 → 0 ≤ (g85 1100025 (g85 1046 0)) → (g85 1100007 (g85 1100025 (g85 1046 0))) < (g85 1100007 (g85 1046 0))) → (g93 1100007 (g93 1100025 (g93 1046 0))) = (g85 1100007 (g85 1100025 (g85 1046 0)))))) → (0 ≤ (g93 1046 0) ∧ (g93 1046 0) ≤ 600 ∧ 0 ≤ (g93 1047 0) ∧ (g93 1047 0) ≤ 1 ∧ ((g93 1047 0) = 0 → sm_KC (g93 26) (g93 27) (g93 28) (g93 29) (g93 1100007) (g93 1100023) (g93 1100024) (g93 1100025) (g85 31) (g85 1100009) (g85 1100027) (g85 1100028) (g85 1100026) (g85 1100030) (S 21) (S 32) (S 33) (g93 1046 0) (g85 1053 0) (S 1056 0) (S 1032 0) (S 1007 0) (g85 1100033 0) ∧ 0 ≤ (10 : Int) ∧ (10 : Int) ≤ 30 ∧ sm_ci (10 : Int) ((0 : Int)) ((0 : Int)) (g93 1100007 (g93 1046 0)) (g93 1100023 (g93 1046 0)) (g93 1100024 (g93 1046 0)) (g93 1100025 (g93 1046 0)) (g93 1100007 (g93 1100023 (g93 1046 0))) (g93 1100007 (g93 1100025 (g93 1046 0))) (g93 1100023 (g93 1100023 (g93 1046 0))) (g93 1100025 (g93 1100025 (g93 1046 0))) (g93 1046 0) (g85 1100033 0) (S 1032 0) (S 1007 0) (S 21 (0 : Int)) (S 1056 0) ((g93 1100007 (g93 1046 0)) + sm_dl (10 : Int) ((0 : Int))) (sm_nt (10 : Int) (g93 1046 0) (g93 1100023 (g93 1046 0)) (g93 1100023 (g93 1100023 (g93 1046 0)))) (sm_nl (10 : Int) (g93 1046 0) (g93 1100007 (g93 1046 0)) (g93 1100025 (g93 1046 0)) (g93 1100007 (g93 1100025 (g93 1046 0))) (g93 1100025 (g93 1100025 (g93 1046 0)))) (g85 1100009 (0 : Int)) (g85 1100027 (0 : Int)) (g85 1100028 (0 : Int)) ∧ ((21 ≤ (10 : Int) ∧ (10 : Int) ≤ 24) ∨ (10 : Int) = 27 ∨ (10 : Int) = 30 → 0 ≤ (0 : Int) ∧ (0 : Int) < (g85 1053 0) ∧ (g85 1100026 (0 : Int)) = (S 1056 0)) ∧ ((10 : Int) = 1 ∨ (10 : Int) = 2 → sm_vv (S 21) (S 32) (S 33) (S 1056 0) (0 : Int) (0 : Int)))) ∧ (∀ g100 : sv_S, (0 ≤ (g100 1047 0) ∧ (g100 1047 0) ≤ 1 ∧ 1 ≤ (g100 1046 0) ∧ (g93 1046 0) ≤ (g100 1046 0) ∧ (g100 1046 0) ≤ (g93 1046 0) + 1 ∧ (g100 1046 0) ≤ 600 ∧ ((g93 1047 0) = 1 → (g100 1047 0) = 1) ∧ ((g100 1047 0) = 1 → (g93 1047 0) = 1 ∨ (g93 1046 0) = 600) ∧ sm_F1 (g93 26) (g100 26) (g93 1046 0) ∧ sm_F1 (g93 27) (g100 27) (g93 1046 0) ∧ sm_F1 (g93 28) (g100 28) (g93 1046 0) ∧ sm_F1 (g93 29) (g100 29) (g93 1046 0) ∧ sm_F1 (g93 1100007) (g100 1100007) ((g93 1046 0) + 1) ∧ sm_F1 (g93 1100023) (g100 1100023) ((g93 1046 0) + 1) ∧ sm_F1 (g93 1100024) (g100 1100024) ((g93 1046 0) + 1) ∧ sm_F1 (g93 1100025) (g100 1100025) ((g93 1046 0) + 1) ∧ ((g100 1047 0) = 0 → (g93 1047 0) = 0 ∧ (g100 1046 0) = (g93 1046 0) + 1 ∧ sm_KC (g100 26) (g100 27) (g100 28) (g100 29) (g100 1100007) (g100 1100023) (g100 1100024) (g100 1100025) (g85 31) (g85 1100009) (g85 1100027) (g85 1100028) (g85 1100026) (g85 1100030) (S 21) (S 32) (S 33) (g100 1046 0) (g85 1053 0) (S 1056 0) (S 1032 0) (S 1007 0) (g85 1100033 0) ∧ sm_MB (g85 31) (g85 1100030) (g85 1053 0) (g100 1046 0) ∧ (g100 26 (g93 1046 0)) = (10 : Int) ∧ (g100 29 (g93 1046 0)) = (S 1056 0) ∧ (g100 1100007 (g100 1046 0)) = ((g93 1100007 (g93 1046 0)) + sm_dl (10 : Int) ((0 : Int))) ∧ (g100 1100023 (g100 1046 0)) = (sm_nt (10 : Int) (g93 1046 0) (g93 1100023 (g93 1046 0)) (g93 1100023 (g93 1100023 (g93 1046 0)))) ∧ (g100 1100024 (g100 1046 0)) = (sm_nd (10 : Int) (g93 1100024 (g93 1046 0))) ∧ (g100 1100025 (g100 1046 0)) = (sm_nl (10 : Int) (g93 1046 0) (g93 1100007 (g93 1046 0)) (g93 1100025 (g93 1046 0)) (g93 1100007 (g93 1100025 (g93 1046 0))) (g93 1100025 (g93 1100025 (g93 1046 0)))) ∧ (g100 1100007 (g100 1100023 (g100 1046 0))) = sm_nt (10 : Int) (g93 1100007 (g93 1046 0)) (g93 1100007 (g93 1100023 (g93 1046 0))) (g93 1100007 (g93 1100023 (g93 1100023 (g93 1046 0)))) ∧ ((10 : Int) = 29 → (g100 1100007 (g100 1100025 (g100 1046 0))) = (g93 1100007 (g93 1046 0))) ∧ ((10 : Int) = 17 → 0 ≤ (g93 1100025 (g93 1046 0)) → (g93 1100007 (g93 1100025 (g93 1046 0))) = (g93 1100007 (g93 1046 0)) → (g100 1100007 (g100 1100025 (g100 1046 0))) = (g93 1100007 (g93 1100025 (g93 1100025 (g93 1046 0))))) ∧ (¬ (10 : Int) = 29 → ((10 : Int) = 17 → 0 ≤ (g93 1100025 (g93 1046 0)) → (g93 1100007 (g93 1100025 (g93 1046 0))) < (g93 1100007 (g93 1046 0))) → (g100 1100007 (g100 1100025 (g100 1046 0))) = (g93 1100007 (g93 1100025 (g93 1046 0)))))) → (0 ≤ (g100 1046 0) ∧ (g100 1046 0) ≤ 600 ∧ 0 ≤ (g100 1047 0) ∧ (g100 1047 0) ≤ 1 ∧ ((g100 1047 0) = 0 → sm_KC (g100 26) (g100 27) (g100 28) (g100 29) (g100 1100007) (g100 1100023) (g100 1100024) (g100 1100025) (g85 31) (g85 1100009) (g85 1100027) (g85 1100028) (g85 1100026) (g85 1100030) (S 21) (S 32) (S 33) (g100 1046 0) (g85 1053 0) (S 1056 0) (S 1032 0) (S 1007 0) (g85 1100033 0) ∧ 0 ≤ (13 : Int) ∧ (13 : Int) ≤ 30 ∧ sm_ci (13 : Int) ((0 : Int)) ((0 : Int)) (g100 1100007 (g100 1046 0)) (g100 1100023 (g100 1046 0)) (g100 1100024 (g100 1046 0)) (g100 1100025 (g100 1046 0)) (g100 1100007 (g100 1100023 (g100 1046 0))) (g100 1100007 (g100 1100025 (g100 1046 0))) (g100 1100023 (g100 1100023 (g100 1046 0))) (g100 1100025 (g100 1100025 (g100 1046 0))) (g100 1046 0) (g85 1100033 0) (S 1032 0) (S 1007 0) (S 21 (0 : Int)) (S 1056 0) ((g100 1100007 (g100 1046 0)) + sm_dl (13 : Int) ((0 : Int))) (sm_nt (13 : Int) (g100 1046 0) (g100 1100023 (g100 1046 0)) (g100 1100023 (g100 1100023 (g100 1046 0)))) (sm_nl (13 : Int) (g100 1046 0) (g100 1100007 (g100 1046 0)) (g100 1100025 (g100 1046 0)) (g100 1100007 (g100 1100025 (g100 1046 0))) (g100 1100025 (g100 1100025 (g100 1046 0)))) (g85 1100009 (0 : Int)) (g85 1100027 (0 : Int)) (g85 1100028 (0 : Int)) ∧ ((21 ≤ (13 : Int) ∧ (13 : Int) ≤ 24) ∨ (13 : Int) = 27 ∨ (13 : Int) = 30 → 0 ≤ (0 : Int) ∧ (0 : Int) < (g85 1053 0) ∧ (g85 1100026 (0 : Int)) = (S 1056 0)) ∧ ((13 : Int) = 1 ∨ (13 : Int) = 2 → sm_vv (S 21) (S 32) (S 33) (S 1056 0) (0 : Int) (0 : Int)))) ∧ (∀ g107 : sv_S, (0 ≤ (g107 1047 0) ∧ (g107 1047 0) ≤ 1 ∧ 1 ≤ (g107 1046 0) ∧ (g100 1046 0) ≤ (g107 1046 0) ∧ (g107 1046 0) ≤ (g100 1046 0) + 1 ∧ (g107 1046 0) ≤ 600 ∧ ((g100 1047 0) = 1 → (g107 1047 0) = 1) ∧ ((g107 1047 0) = 1 → (g100 1047 0) = 1 ∨ (g100 1046 0) = 600) ∧ sm_F1 (g100 26) (g107 26) (g100 1046 0) ∧ sm_F1 (g100 27) (g107 27) (g100 1046 0) ∧ sm_F1 (g100 28) (g107 28) (g100 1046 0) ∧ sm_F1 (g100 29) (g107 29) (g100 1046 0) ∧ sm_F1 (g100 1100007) (g107 1100007) ((g100 1046 0) + 1) ∧ sm_F1 (g100 1100023) (g107 1100023) ((g100 1046 0) + 1) ∧ sm_F1 (g100 1100024) (g107 1100024) ((g100 1046 0) + 1) ∧ sm_F1 (g100 1100025) (g107 1100025) ((g100 1046 0) + 1) ∧ ((g107 1047 0) = 0 → (g100 1047 0) = 0 ∧ (g107 1046 0) = (g100 1046 0) + 1 ∧ sm_KC (g107 26) (g107 27) (g107 28) (g107 29) (g107 1100007) (g107 1100023) (g107 1100024) (g107 1100025) (g85 31) (g85 1100009) (g85 1100027) (g85 1100028) (g85 1100026) (g85 1100030) (S 21) (S 32) (S 33) (g107 1046 0) (g85 1053 0) (S 1056 0) (S 1032 0) (S 1007 0) (g85 1100033 0) ∧ sm_MB (g85 31) (g85 1100030) (g85 1053 0) (g107 1046 0) ∧ (g107 26 (g100 1046 0)) = (13 : Int) ∧ (g107 29 (g100 1046 0)) = (S 1056 0) ∧ (g107 1100007 (g107 1046 0)) = ((g100 1100007 (g100 1046 0)) + sm_dl (13 : Int) ((0 : Int))) ∧ (g107 1100023 (g107 1046 0)) = (sm_nt (13 : Int) (g100 1046 0) (g100 1100023 (g100 1046 0)) (g100 1100023 (g100 1100023 (g100 1046 0)))) ∧ (g107 1100024 (g107 1046 0)) = (sm_nd (13 : Int) (g100 1100024 (g100 1046 0))) ∧ (g107 1100025 (g107 1046 0)) = (sm_nl (13 : Int) (g100 1046 0) (g100 1100007 (g100 1046 0)) (g100 1100025 (g100 1046 0)) (g100 1100007 (g100 1100025 (g100 1046 0))) (g100 1100025 (g100 1100025 (g100 1046 0)))) ∧ (g107 1100007 (g107 1100023 (g107 1046 0))) = sm_nt (13 : Int) (g100 1100007 (g100 1046 0)) (g100 1100007 (g100 1100023 (g100 1046 0))) (g100 1100007 (g100 1100023 (g100 1100023 (g100 1046 0)))) ∧ ((13 : Int) = 29 → (g107 1100007 (g107 1100025 (g107 1046 0))) = (g100 1100007 (g100 1046 0))) ∧ ((13 : Int) = 17 → 0 ≤ (g100 1100025 (g100 1046 0)) → (g100 1100007 (g100 1100025 (g100 1046 0))) = (g100 1100007 (g100 1046 0)) → (g107 1100007 (g107 1100025 (g107 1046 0))) = (g100 1100007 (g100 1100025 (g100 1100025 (g100 1046 0))))) ∧ (¬ (13 : Int) = 29 → ((13 : Int) = 17 → 0 ≤ (g100 1100025 (g100 1046 0)) → (g100 1100007 (g100 1100025 (g100 1046 0))) < (g100 1100007 (g100 1046 0))) → (g107 1100007 (g107 1100025 (g107 1046 0))) = (g100 1100007 (g100 1100025 (g100 1046 0)))))) → (0 ≤ (g107 1046 0) ∧ (g107 1046 0) ≤ 600 ∧ 0 ≤ (g107 1047 0) ∧ (g107 1047 0) ≤ 1 ∧ ((g107 1047 0) = 0 → sm_KC (g107 26) (g107 27) (g107 28) (g107 29) (g107 1100007) (g107 1100023) (g107 1100024) (g107 1100025) (g85 31) (g85 1100009) (g85 1100027) (g85 1100028) (g85 1100026) (g85 1100030) (S 21) (S 32) (S 33) (g107 1046 0) (g85 1053 0) (S 1056 0) (S 1032 0) (S 1007 0) (g85 1100033 0) ∧ 0 ≤ (20 : Int) ∧ (20 : Int) ≤ 30 ∧ sm_ci (20 : Int) ((0 : Int)) ((0 : Int)) (g107 1100007 (g107 1046 0)) (g107 1100023 (g107 1046 0)) (g107 1100024 (g107 1046 0)) (g107 1100025 (g107 1046 0)) (g107 1100007 (g107 1100023 (g107 1046 0))) (g107 1100007 (g107 1100025 (g107 1046 0))) (g107 1100023 (g107 1100023 (g107 1046 0))) (g107 1100025 (g107 1100025 (g107 1046 0))) (g107 1046 0) (g85 1100033 0) (S 1032 0) (S 1007 0) (S 21 (0 : Int)) (S 1056 0) ((g107 1100007 (g107 1046 0)) + sm_dl (20 : Int) ((0 : Int))) (sm_nt (20 : Int) (g107 1046 0) (g107 1100023 (g107 1046 0)) (g107 1100023 (g107 1100023 (g107 1046 0)))) (sm_nl (20 : Int) (g107 1046 0) (g107 1100007 (g107 1046 0)) (g107 1100025 (g107 1046 0)) (g107 1100007 (g107 1100025 (g107 1046 0))) (g107 1100025 (g107 1100025 (g107 1046 0)))) (g85 1100009 (0 : Int)) (g85 1100027 (0 : Int)) (g85 1100028 (0 : Int)) ∧ ((21 ≤ (20 : Int) ∧ (20 : Int) ≤ 24) ∨ (20 : Int) = 27 ∨ (20 : Int) = 30 → 0 ≤ (0 : Int) ∧ (0 : Int) < (g85 1053 0) ∧ (g85 1100026 (0 : Int)) = (S 1056 0)) ∧ ((20 : Int) = 1 ∨ (20 : Int) = 2 → sm_vv (S 21) (S 32) (S 33) (S 1056 0) (0 : Int) (0 : Int)))) ∧ (∀ g114 : sv_S, (0 ≤ (g114 1047 0) ∧ (g114 1047 0) ≤ 1 ∧ 1 ≤ (g114 1046 0) ∧ (g107 1046 0) ≤ (g114 1046 0) ∧ (g114 1046 0) ≤ (g107 1046 0) + 1 ∧ (g114 1046 0) ≤ 600 ∧ ((g107 1047 0) = 1 → (g114 1047 0) = 1) ∧ ((g114 1047 0) = 1 → (g107 1047 0) = 1 ∨ (g107 1046 0) = 600) ∧ sm_F1 (g107 26) (g114 26) (g107 1046 0) ∧ sm_F1 (g107 27) (g114 27) (g107 1046 0) ∧ sm_F1 (g107 28) (g114 28) (g107 1046 0) ∧ sm_F1 (g107 29) (g114 29) (g107 1046 0) ∧ sm_F1 (g107 1100007) (g114 1100007) ((g107 1046 0) + 1) ∧ sm_F1 (g107 1100023) (g114 1100023) ((g107 1046 0) + 1) ∧ sm_F1 (g107 1100024) (g114 1100024) ((g107 1046 0) + 1) ∧ sm_F1 (g107 1100025) (g114 1100025) ((g107 1046 0) + 1) ∧ ((g114 1047 0) = 0 → (g107 1047 0) = 0 ∧ (g114 1046 0) = (g107 1046 0) + 1 ∧ sm_KC (g114 26) (g114 27) (g114 28) (g114 29) (g114 1100007) (g114 1100023) (g114 1100024) (g114 1100025) (g85 31) (g85 1100009) (g85 1100027) (g85 1100028) (g85 1100026) (g85 1100030) (S 21) (S 32) (S 33) (g114 1046 0) (g85 1053 0) (S 1056 0) (S 1032 0) (S 1007 0) (g85 1100033 0) ∧ sm_MB (g85 31) (g85 1100030) (g85 1053 0) (g114 1046 0) ∧ (g114 26 (g107 1046 0)) = (20 : Int) ∧ (g114 29 (g107 1046 0)) = (S 1056 0) ∧ (g114 1100007 (g114 1046 0)) = ((g107 1100007 (g107 1046 0)) + sm_dl (20 : Int) ((0 : Int))) ∧ (g114 1100023 (g114 1046 0)) = (sm_nt (20 : Int) (g107 1046 0) (g107 1100023 (g107 1046 0)) (g107 1100023 (g107 1100023 (g107 1046 0)))) ∧ (g114 1100024 (g114 1046 0)) = (sm_nd (20 : Int) (g107 1100024 (g107 1046 0))) ∧ (g114 1100025 (g114 1046 0)) = (sm_nl (20 : Int) (g107 1046 0) (g107 1100007 (g107 1046 0)) (g107 1100025 (g107 1046 0)) (g107 1100007 (g107 1100025 (g107 1046 0))) (g107 1100025 (g107 1100025 (g107 1046 0)))) ∧ (g114 1100007 (g114 1100023 (g114 1046 0))) = sm_nt (20 : Int) (g107 1100007 (g107 1046 0)) (g107 1100007 (g107 1100023 (g107 1046 0))) (g107 1100007 (g107 1100023 (g107 1100023 (g107 1046 0)))) ∧ ((20 : Int) = 29 → (g114 1100007 (g114 1100025 (g114 1046 0))) = (g107 1100007 (g107 1046 0))) ∧ ((20 : Int) = 17 → 0 ≤ (g107 1100025 (g107 1046 0)) → (g107 1100007 (g107 1100025 (g107 1046 0))) = (g107 1100007 (g107 1046 0)) → (g114 1100007 (g114 1100025 (g114 1046 0))) = (g107 1100007 (g107 1100025 (g107 1100025 (g107 1046 0))))) ∧ (¬ (20 : Int) = 29 → ((20 : Int) = 17 → 0 ≤ (g107 1100025 (g107 1046 0)) → (g107 1100007 (g107 1100025 (g107 1046 0))) < (g107 1100007 (g107 1046 0))) → (g114 1100007 (g114 1100025 (g114 1046 0))) = (g107 1100007 (g107 1100025 (g107 1046 0)))))) → (0 ≤ (g114 1046 0) ∧ (g114 1046 0) ≤ 600 ∧ 0 ≤ (g114 1047 0) ∧ (g114 1047 0) ≤ 1 ∧ 0 ≤ (g85 1053 0) ∧ 0 ≤ (g85 1066 0) ∧ (S 1046 0) ≤ (g114 1046 0) ∧ ((S 1047 0) = 1 → (g114 1047 0) = 1) ∧ sm_F1 (S 26) (g114 26) (S 1046 0) ∧ sm_F1 (S 27) (g114 27) (S 1046 0) ∧ sm_F1 (S 28) (g114 28) (S 1046 0) ∧ sm_F1 (S 29) (g114 29) (S 1046 0) ∧ sm_F1 (S 1100007) (g114 1100007) ((S 1046 0) + 1) ∧ sm_F1 (S 1100023) (g114 1100023) ((S 1046 0) + 1) ∧ sm_F1 (S 1100024) (g114 1100024) ((S 1046 0) + 1) ∧ sm_F1 (S 1100025) (g114 1100025) ((S 1046 0) + 1) ∧ sm_F1 (S 1100009) (g85 1100009) (S 1053 0) ∧ sm_F1 (S 1100027) (g85 1100027) (S 1053 0) ∧ sm_F1 (S 1100028) (g85 1100028) (S 1053 0) ∧ sm_F1 (S 1100026) (g85 1100026) (S 1053 0) ∧ sm_F1 (S 1100030) (g85 1100030) (S 1053 0) ∧ sm_F1 (S 31) (g85 31) (S 1053 0) ∧ (S 1053 0) ≤ (g85 1053 0) ∧ (g85 1066 0) = (S 1066 0) ∧ sm_F1 (S 39) (g85 39) (S 1066 0) ∧ ((S 1047 0) = 1 → (g85 1053 0) = (S 1053 0)) ∧ ((S 1047 0) = 0 → (g85 1053 0) ≤ (S 1053 0) + 3 * (600 - (S 1046 0)) + (S 1100002 p2)) ∧ ((g114 1047 0) = 0 → (S 1047 0) = 0 ∧ sm_KC (g114 26) (g114 27) (g114 28) (g114 29) (g114 1100007) (g114 1100023) (g114 1100024) (g114 1100025) (g85 31) (g85 1100009) (g85 1100027) (g85 1100028) (g85 1100026) (g85 1100030) (S 21) (S 32) (S 33) (g114 1046 0) (g85 1053 0) (S 1056 0) (S 1032 0) (S 1007 0) (g85 1100033 0) ∧ (g85 1100033 0) = (g85 1055 0) ∧ 0 ≤ (g85 1055 0) ∧ (g85 1055 0) ≤ (g114 1046 0) ∧ (S 1046 0) + (if (S 11 p2) = 2 then (2 : Int) else 4) ≤ (g114 1046 0) ∧ sm_FC (g114 29) (S 1046 0) (g114 1046 0) (S 1056 0) ∧ (g114 1100007 (g114 1046 0)) = (S 1100007 (S 1046 0)) + (if (S 11 p2) = 2 then (2 : Int) else 4) ∧ (g114 1100023 (g114 1046 0)) = (S 1100023 (S 1046 0)) ∧ (g114 1100024 (g114 1046 0)) = (S 1100024 (S 1046 0)) ∧ (g114 1100025 (g114 1046 0)) = (S 1100025 (S 1046 0)) ∧ (g114 1100007 (g114 1100023 (g114 1046 0))) = (S 1100007 (S 1100023 (S 1046 0))) ∧ (g114 1100007 (g114 1100025 (g114 1046 0))) = (S 1100007 (S 1100025 (S 1046 0))) ∧ sm_AP (g85 1100030) (S 1053 0) (g85 1053 0) ∧ sm_HB (g114 1100007) (S 1046 0) (g114 1046 0) (2 * (S 1100007 (S 1046 0)) + ((g114 1046 0) - (S 1046 0)) + 8 * (S 1100005 p2) + 10) ∧ (g85 1053 0) ≤ (S 1053 0) + 3 * ((g114 1046 0) - (S 1046 0)) ∧ True))))))))))))) ∧ ((¬ (¬ (S 11 p2) = (2 : Int))) → (0 ≤ p2 ∧ p2 < 12000 ∧ 0 ≤ (0 : Int) ∧ (0 : Int) ≤ 4) ∧ (0 + 1 ≤ ((S 1100002 p2) + (600 - (S 1046 0)) + 9)) ∧ (0 ≤ (S 1046 0) ∧ (S 1046 0) ≤ 600 ∧ 0 ≤ (S 1047 0) ∧ (S 1047 0) ≤ 1 ∧ 0 ≤ (S 1056 0) ∧ (S 1056 0) < (S 1032 0) ∧ (S 1032 0) ≤ 11 ∧ sm_VB (S 33) (S 21) (S 1032 0) ∧ (((1 : Int) = 1 ∧ ((3 : Int) = 3 ∨ (3 : Int) = 5)) ∨ ((1 : Int) = 2 ∧ (3 : Int) = 4)) ∧ ((S 1047 0) = 0 → sm_KC (S 26) (S 27) (S 28) (S 29) (S 1100007) (S 1100023) (S 1100024) (S 1100025) (S 31) (S 1100009) (S 1100027) (S 1100028) (S 1100026) (S 1100030) (S 21) (S 32) (S 33) (S 1046 0) (S 1053 0) (S 1056 0) (S 1032 0) (S 1007 0) (S 1100033 0) ∧ 0 ≤ ((S 12 (5 * p2 + (0 : Int)))) ∧ ((S 12 (5 * p2 + (0 : Int)))) < (S 1007 0) ∧ ((1 : Int) = 1 → (0 ≤ (S 1100023 (S 1046 0)) → (S 1100007 (S 1100023 (S 1046 0))) ≤ (S 1100007 (S 1046 0))) ∧ (0 ≤ (S 1100025 (S 1046 0)) → (S 1100007 (S 1100025 (S 1046 0))) ≤ (S 1100007 (S 1046 0)))) ∧ ((1 : Int) = 2 → 1 ≤ (S 1100007 (S 1046 0)) ∧ (0 ≤ (S 1100023 (S 1046 0)) → (S 1100007 (S 1100023 (S 1046 0))) ≤ (S 1100007 (S 1046 0)) - 1) ∧ (0 ≤ (S 1100025 (S 1046 0)) → (S 1100007 (S 1100025 (S 1046 0))) ≤ (S 1100007 (S 1046 0)) - 1)))) ∧ (2 + 1 ≤ ((S 1100002 p2) + (600 - (S 1046 0)) + 9)) ∧ (∀ g124 : sv_S, (0 ≤ (g124 1047 0) ∧ (g124 1047 0) ≤ 1 ∧ 1 ≤ (g124 1046 0) ∧ (S 1046 0) ≤ (g124 1046 0) ∧ (g124 1046 0) ≤ (S 1046 0) + 1 ∧ (g124 1046 0) ≤ 600 ∧ ((S 1047 0) = 1 → (g124 1047 0) = 1) ∧ ((g124 1047 0) = 1 → (S 1047 0) = 1 ∨ (S 1046 0) = 600) ∧ sm_F1 (S 26) (g124 26) (S 1046 0) ∧ sm_F1 (S 27) (g124 27) (S 1046 0) ∧ sm_F1 (S 28) (g124 28) (S 1046 0) ∧ sm_F1 (S 29) (g124 29) (S 1046 0) ∧ sm_F1 (S 1100007) (g124 1100007) ((S 1046 0) + 1) ∧ sm_F1 (S 1100023) (g124 1100023) ((S 1046 0) + 1) ∧ sm_F1 (S 1100024) (g124 1100024) ((S 1046 0) + 1) ∧ sm_F1 (S 1100025) (g124 1100025) ((S 1046 0) + 1) ∧ ((g124 1047 0) = 0 → (S 1047 0) = 0 ∧ (g124 1046 0) = (S 1046 0) + 1 ∧ sm_KC (g124 26) (g124 27) (g124 28) (g124 29) (g124 1100007) (g124 1100023) (g124 1100024) (g124 1100025) (S 31) (S 1100009) (S 1100027) (S 1100028) (S 1100026) (S 1100030) (S 21) (S 32) (S 33) (g124 1046 0) (S 1053 0) (S 1056 0) (S 1032 0) (S 1007 0) (S 1100033 0) ∧ sm_MB (S 31) (S 1100030) (S 1053 0) (g124 1046 0) ∧ ((g124 26 (S 1046 0)) = (1 : Int) ∨ (g124 26 (S 1046 0)) = (3 : Int)) ∧ (g124 29 (S 1046 0)) = (S 1056 0) ∧ (g124 1100007 (g124 1046 0)) = (S 1100007 (S 1046 0)) + (if (1 : Int) = 1 then 1 else 0) ∧ (g124 1100023 (g124 1046 0)) = (S 1100023 (S 1046 0)) ∧ (g124 1100024 (g124 1046 0)) = (S 1100024 (S 1046 0)) ∧ (g124 1100025 (g124 1046 0)) = (S 1100025 (S 1046 0)) ∧ (g124 1100007 (g124 1100023 (g124 1046 0))) = (S 1100007 (S 1100023 (S 1046 0))) ∧ (g124 1100007 (g124 1100025 (g124 1046 0))) = (S 1100007 (S 1100025 (S 1046 0))))) → (0 ≤ (g124 1046 0) ∧ (g124 1046 0) ≤ 600 ∧ 0 ≤ (g124 1047 0) ∧ (g124 1047 0) ≤ 1 ∧ ((g124 1047 0) = 0 → sm_KC (g124 26) (g124 27) (g124 28) (g124 29) (g124 1100007) (g124 1100023) (g124 1100024) (g124 1100025) (S 31) (S 1100009) (S 1100027) (S 1100028) (S 1100026) (S 1100030) (S 21) (S 32) (S 33) (g124 1046 0) (S 1053 0) (S 1056 0) (S 1032 0) (S 1007 0) (S 1100033 0) ∧ 0 ≤ (13 : Int) ∧ (13 : Int) ≤ 30 ∧ sm_ci (13 : Int) ((0 : Int)) ((0 : Int)) (g124 1100007 (g124 1046 0)) (g124 1100023 (g124 1046 0)) (g124 1100024 (g124 1046 0)) (g124 1100025 (g124 1046 0)) (g124 1100007 (g124 1100023 (g124 1046 0))) (g124 1100007 (g124 1100025 (g124 1046 0))) (g124 1100023 (g124 1100023 (g124 1046 0))) (g124 1100025 (g124 1100025 (g124 1046 0))) (g124 1046 0) (S 1100033 0) (S 1032 0) (S 1007 0) (S 21 (0 : Int)) (S 1056 0) ((g124 1100007 (g124 1046 0)) + sm_dl (13 : Int) ((0 : Int))) (sm_nt (13 : Int) (g124 1046 0) (g124 1100023 (g124 1046 0)) (g124 1100023 (g124 1100023 (g124 1046 0)))) (sm_nl (13 : Int) (g124 1046 0) (g124 1100007 (g124 1046 0)) (g124 1100025 (g124 1046 0)) (g124 1100007 (g124 1100025 (g124 1046 0))) (g124 1100025 (g124 1100025 (g124 1046 0)))) (S 1100009 (0 : Int)) (S 1100027 (0 : Int)) (S 1100028 (0 : Int)) ∧ ((21 ≤ (13 : Int) ∧ (13 : Int) ≤ 24) ∨ (13 : Int) = 27 ∨ (13 : Int) = 30 → 0 ≤ (0 : Int) ∧ (0 : Int) < (S 1053 0) ∧ (S 1100026 (0 : Int)) = (S 1056 0)) ∧ ((13 : Int) = 1 ∨ (13 : Int) = 2 → sm_vv (S 21) (S 32) (S 33) (S 1056 0) (0 : Int) (0 : Int)))) ∧ (∀ g131 : sv_S, (0 ≤ (g131 1047 0) ∧ (g131 1047 0) ≤ 1 ∧ 1 ≤ (g131 1046 0) ∧ (g124 1046 0) ≤ (g131 1046 0) ∧ (g131 1046 0) ≤ (g124 1046 0) + 1 ∧ (g131 1046 0) ≤ 600 ∧ ((g124 1047 0) = 1 → (g131 1047 0) = 1) ∧ ((g131 1047 0) = 1 → (g124 1047 0) = 1 ∨ (g124 1046 0) = 600) ∧ sm_F1 (g124 26) (g131 26) (g124 1046 0) ∧ sm_F1 (g124 27) (g131 27) (g124 1046 0) ∧ sm_F1 (g124 28) (g131 28) (g124 1046 0) ∧ sm_F1 (g124 29) (g131 29) (g124 1046 0) ∧ sm_F1 (g124 1100007) (g131 1100007) ((g124 1046 0) + 1) ∧ sm_F1 (g124 1100023) (g131 1100023) ((g124 1046 0) + 1) ∧ sm_F1 (g124 1100024) (g131 1100024) ((g124 1046 0) + 1) ∧ sm_F1 (g124 1100025) (g131 1100025) ((g124 1046 0) + 1) ∧ ((g131 1047 0) = 0 → (g124 1047 0) = 0 ∧ (g131 1046 0) = (g124 1046 0) + 1 ∧ sm_KC (g131 26) (g131 27) (g131 28) (g131 29) (g131 1100007) (g131 1100023) (g131 1100024) (g131 1100025) (S 31) (S 1100009) (S 1100027) (S 1100028) (S 1100026) (S 1100030) (S 21) (S 32) (S 33) (g131 1046 0) (S 1053 0) (S 1056 0) (S 1032 0) (S 1007 0) (S 1100033 0) ∧ sm_MB (S 31) (S 1100030) (S 1053 0) (g131 1046 0) ∧ (g131 26 (g124 1046 0)) = (13 : Int) ∧ (g131 29 (g124 1046 0)) = (S 1056 0) ∧ (g131 1100007 (g131 1046 0)) = ((g124 1100007 (g124 1046 0)) + sm_dl (13 : Int) ((0 : Int))) ∧ (g131 1100023 (g131 1046 0)) = (sm_nt (13 : Int) (g124 1046 0) (g124 1100023 (g124 1046 0)) (g124 1100023 (g124 1100023 (g124 1046 0)))) ∧ (g131 1100024 (g131 1046 0)) = (sm_nd (13 : Int) (g124 1100024 (g124 1046 0))) ∧ (g131 1100025 (g131 1046 0)) = (sm_nl (13 : Int) (g124 1046 0) (g124 1100007 (g124 1046 0)) (g124 1100025 (g124 1046 0)) (g124 1100007 (g124 1100025 (g124 1046 0))) (g124 1100025 (g124 1100025 (g124 1046 0)))) ∧ (g131 1100007 (g131 1100023 (g131 1046 0))) = sm_nt (13 : Int) (g124 1100007 (g124 1046 0)) (g124 1100007 (g124 1100023 (g124 1046 0))) (g124 1100007 (g124 1100023 (g124 1100023 (g124 1046 0)))) ∧ ((13 : Int) = 29 → (g131 1100007 (g131 1100025 (g131 1046 0))) = (g124 1100007 (g124 1046 0))) ∧ ((13 : Int) = 17 → 0 ≤ (g124 1100025 (g124 1046 0)) → (g124 1100007 (g124 1100025 (g124 1046 0))) = (g124 1100007 (g124 1046 0)) → (g131 1100007 (g131 1100025 (g131 1046 0))) = (g124 1100007 (g124 1100025 (g124 1100025 (g124 1046 0))))) ∧ (¬ (13 : Int) = 29 → ((13 : Int) = 17 → 0 ≤ (g124 1100025 (g124 1046 0)) → (g124 1100007 (g124 1100025 (g124 1046 0))) < (g124 1100007 (g124 1046 0))) → (g131 1100007 (g131 1100025 (g131 1046 0))) = (g124 1100007 (g124 1100025 (g124 1046 0)))))) → (0 ≤ (g131 1046 0) ∧ (g131 1046 0) ≤ 600 ∧ 0 ≤ (g131 1047 0) ∧ (g131 1047 0) ≤ 1 ∧ ((g131 1047 0) = 0 → sm_KC (g131 26) (g131 27) (g131 28) (g131 29) (g131 1100007) (g131 1100023) (g131 1100024) (g131 1100025) (S 31) (S 1100009) (S 1100027) (S 1100028) (S 1100026) (S 1100030) (S 21) (S 32) (S 33) (g131 1046 0) (S 1053 0) (S 1056 0) (S 1032 0) (S 1007 0) (S 1100033 0) ∧ 0 ≤ (18 : Int) ∧ (18 : Int) ≤ 30 ∧ sm_ci (18 : Int) ((0 : Int)) ((0 : Int)) (g131 1100007 (g131 1046 0)) (g131 1100023 (g131 1046 0)) (g131 1100024 (g131 1046 0)) (g131 1100025 (g131 1046 0)) (g131 1100007 (g131 1100023 (g131 1046 0))) (g131 1100007 (g131 1100025 (g131 1046 0))) (g131 1100023 (g131 1100023 (g131 1046 0))) (g131 1100025 (g131 1100025 (g131 1046 0))) (g131 1046 0) (S 1100033 0) (S 1032 0) (S 1007 0) (S 21 (0 : Int)) (S 1056 0) ((g131 1100007 (g131 1046 0)) + sm_dl (18 : Int) ((0 : Int))) (sm_nt (18 : Int) (g131 1046 0) (g131 1100023 (g131 1046 0)) (g131 1100023 (g131 1100023 (g131 1046 0)))) (sm_nl (18 : Int) (g131 1046 0) (g131 1100007 (g131 1046 0)) (g131 1100025 (g131 1046 0)) (g131 1100007 (g131 1100025 (g131 1046 0))) (g131 1100025 (g131 1100025 (g131 1046 0)))) (S 1100009 (0 : Int)) (S 1100027 (0 : Int)) (S 1100028 (0 : Int)) ∧ ((21 ≤ (18 : Int) ∧ (18 : Int) ≤ 24) ∨ (18 : Int) = 27 ∨ (18 : Int) = 30 → 0 ≤ (0 : Int) ∧ (0 : Int) < (S 1053 0) ∧ (S 1100026 (0 : Int)) = (S 1056 0)) ∧ ((18 : Int) = 1 ∨ (18 : Int) = 2 → sm_vv (S 21) (S 32) (S 33) (S 1056 0) (0 : Int) (0 : Int)))) ∧ (1 + 1 ≤ ((S 1100002 p2) + (600 - (S 1046 0)) + 9)) ∧ (∀ g139 : sv_S, (0 ≤ (g139 1047 0) ∧ (g139 1047 0) ≤ 1 ∧ 1 ≤ (g139 1046 0) ∧ (g131 1046 0) ≤ (g139 1046 0) ∧ (g139 1046 0) ≤ (g131 1046 0) + 1 ∧ (g139 1046 0) ≤ 600 ∧ ((g131 1047 0) = 1 → (g139 1047 0) = 1) ∧ ((g139 1047 0) = 1 → (g131 1047 0) = 1 ∨ (g131 1046 0) = 600) ∧ sm_F1 (g131 26) (g139 26) (g131 1046 0) ∧ sm_F1 (g131 27) (g139 27) (g131 1046 0) ∧ sm_F1 (g131 28) (g139 28) (g131 1046 0) ∧ sm_F1 (g131 29) (g139 29) (g131 1046 0) ∧ sm_F1 (g131 1100007) (g139 1100007) ((g131 1046 0) + 1) ∧ sm_F1 (g131 1100023) (g139 1100023) ((g131 1046 0) + 1) ∧ sm_F1 (g131 1100024) (g139 1100024) ((g131 1046 0) + 1) ∧ sm_F1 (g131 1100025) (g139 1100025) ((g131 1046 0) + 1) ∧ ((g139 1047 0) = 0 → (g131 1047 0) = 0 ∧ (g139 1046 0) = (g131 1046 0) + 1 ∧ sm_KC (g139 26) (g139 27) (g139 28) (g139 29) (g139 1100007) (g139 1100023) (g139 1100024) (g139 1100025) (S 31) (S 1100009) (S 1100027) (S 1100028) (S 1100026) (S 1100030) (S 21) (S 32) (S 33) (g139 1046 0) (S 1053 0) (S 1056 0) (S 1032 0) (S 1007 0) (S 1100033 0) ∧ sm_MB (S 31) (S 1100030) (S 1053 0) (g139 1046 0) ∧ (g139 26 (g131 1046 0)) = (18 : Int) ∧ (g139 29 (g131 1046 0)) = (S 1056 0) ∧ (g139 1100007 (g139 1046 0)) = ((g131 1100007 (g131 1046 0)) + sm_dl (18 : Int) ((0 : Int))) ∧ (g139 1100023 (g139 1046 0)) = (sm_nt (18 : Int) (g131 1046 0) (g131 1100023 (g131 1046 0)) (g131 1100023 (g131 1100023 (g131 1046 0)))) ∧ (g139 1100024 (g139 1046 0)) = (sm_nd (18 : Int) (g131 1100024 (g131 1046 0))) ∧ (g139 1100025 (g139 1046 0)) = (sm_nl (18 : Int) (g131 1046 0) (g131 1100007 (g131 1046 0)) (g131 1100025 (g131 1046 0)) (g131 1100007 (g131 1100025 (g131 1046 0))) (g131 1100025 (g131 1100025 (g131 1046 0)))) ∧ (g139 1100007 (g139 1100023 (g139 1046 0))) = sm_nt (18 : Int) (g131 1100007 (g131 1046 0)) (g131 1100007 (g131 1100023 (g131 1046 0))) (g131 1100007 (g131 1100023 (g131 1100023 (g131 1046 0)))) ∧ ((18 : Int) = 29 → (g139 1100007 (g139 1100025 (g139 1046 0))) = (g131 1100007 (g131 1046 0))) ∧ ((18 : Int) = 17 → 0 ≤ (g131 1100025 (g131 1046 0)) → (g131 1100007 (g131 1100025 (g131 1046 0))) = (g131 1100007 (g131 1046 0)) → (g139 1100007 (g139 1100025 (g139 1046 0))) = (g131 1100007 (g131 1100025 (g131 1100025 (g131 1046 0))))) ∧ (¬ (18 : Int) = 29 → ((18 : Int) = 17 → 0 ≤ (g131 1100025 (g131 1046 0)) → (g131 1100007 (g131 1100025 (g131 1046 0))) < (g131 1100007 (g131 1046 0))) → (g139 1100007 (g139 1100025 (g139 1046 0))) = (g131 1100007 (g131 1100025 (g131 1046 0)))))) → (0 ≤ (g139 1046 0) ∧ (g139 1046 0) ≤ 600 ∧ 0 ≤ (g139 1047 0) ∧ (g139 1047 0) ≤ 1 ∧ 0 ≤ (S 1053 0) ∧ 0 ≤ (S 1066 0) ∧ (S 1046 0) ≤ (g139 1046 0) ∧ ((S 1047 0) = 1 → (g139 1047 0) = 1) ∧ sm_F1 (S 26) (g139 26) (S 1046 0) ∧ sm_F1 (S 27) (g139 27) (S 1046 0) ∧ sm_F1 (S 28) (g139 28) (S 1046 0) ∧ sm_F1 (S 29) (g139 29) (S 1046 0) ∧ sm_F1 (S 1100007) (g139 1100007) ((S 1046 0) + 1) ∧ sm_F1 (S 1100023) (g139 1100023) ((S 1046 0) + 1) ∧ sm_F1 (S 1100024) (g139 1100024) ((S 1046 0) + 1) ∧ sm_F1 (S 1100025) (g139 1100025) ((S 1046 0) + 1) ∧ sm_F1 (S 1100009) (S 1100009) (S 1053 0) ∧ sm_F1 (S 1100027) (S 1100027) (S 1053 0) ∧ sm_F1 (S 1100028) (S 1100028) (S 1053 0) ∧ sm_F1 (S 1100026) (S 1100026) (S 1053 0) ∧ sm_F1 (S 1100030) (S 1100030) (S 1053 0) ∧ sm_F1 (S 31) (S 31) (S 1053 0) ∧ (S 1053 0) ≤ (S 1053 0) ∧ (S 1066 0) = (S 1066 0) ∧ sm_F1 (S 39) (S 39) (S 1066 0) ∧ ((S 1047 0) = 1 → (S 1053 0) = (S 1053 0)) ∧ ((S 1047 0) = 0 → (S 1053 0) ≤ (S 1053 0) + 3 * (600 - (S 1046 0)) + (S 1100002 p2)) ∧ ((g139 1047 0) = 0 → (S 1047 0) = 0 ∧ sm_KC (g139 26) (g139 27) (g139 28) (g139 29) (g139 1100007) (g139 1100023) (g139 1100024) (g139 1100025) (S 31) (S 1100009) (S 1100027) (S 1100028) (S 1100026) (S 1100030) (S 21) (S 32) (S 33) (g139 1046 0) (S 1053 0) (S 1056 0) (S 1032 0) (S 1007 0) (S 1100033 0) ∧ (S 1100033 0) = (S 1055 0) ∧ 0 ≤ (S 1055 0) ∧ (S 1055 0) ≤ (g139 1046 0) ∧ (S 1046 0) + (if (S 11 p2) = 2 then (2 : Int) else 4) ≤ (g139 1046 0) ∧ sm_FC (g139 29) (S 1046 0) (g139 1046 0) (S 1056 0) ∧ (g139 1100007 (g139 1046 0)) = (S 1100007 (S 1046 0)) + (if (S 11 p2) = 2 then (2 : Int) else 4) ∧ (g139 1100023 (g139 1046 0)) = (S 1100023 (S 1046 0)) ∧ (g139 1100024 (g139 1046 0)) = (S 1100024 (S 1046 0)) ∧ (g139 1100025 (g139 1046 0)) = (S 1100025 (S 1046 0)) ∧ (g139 1100007 (g139 1100023 (g139 1046 0))) = (S 1100007 (S 1100023 (S 1046 0))) ∧ (g139 1100007 (g139 1100025 (g139 1046 0))) = (S 1100007 (S 1100025 (S 1046 0))) ∧ sm_AP (S 1100030) (S 1053 0) (S 1053 0) ∧ sm_HB (g139 1100007) (S 1046 0) (g139 1046 0) (2 * (S 1100007 (S 1046 0)) + ((g139 1046 0) - (S 1046 0)) + 8 * (S 1100005 p2) + 10) ∧ (S 1053 0) ≤ (S 1053 0) + 3 * ((g139 1046 0) - (S 1046 0)) ∧ True))))))))))))))))))) := by
  intro d
  intro p1
  intro p2
  intro S
  intro h1_
  intro h2_
  intro h3_
  rintro ⟨h4_, ⟨h5_, ⟨h6_, ⟨h7_, ⟨h8_, ⟨h9_, ⟨h10_, ⟨h11_, ⟨h12_, ⟨h13_, ⟨h14_, ⟨h15_, ⟨h16_, ⟨h17_, ⟨h18_, ⟨h19_, ⟨h20_, ⟨h21_, ⟨h22_, ⟨h23_, ⟨h24_, ⟨h25_, ⟨h26_, ⟨h27_, ⟨h28_, ⟨h29_, ⟨h30_, ⟨h31_, ⟨h32_, ⟨h33_, ⟨h34_, ⟨h35_, h36_⟩⟩⟩⟩⟩⟩⟩⟩⟩⟩⟩⟩⟩⟩⟩⟩⟩⟩⟩⟩⟩⟩⟩⟩⟩⟩⟩⟩⟩⟩⟩⟩
  intro h37_
  intro h38_
  have h39_ := (h38_ h4_)
  have h40_ := (h39_ h23_)
  obtain ⟨h41_, ⟨h42_, ⟨h43_, h44_⟩⟩⟩ := (h40_ h24_)
  obtain ⟨h45_, ⟨h46_, ⟨h47_, h48_⟩⟩⟩ := (h41_ h25_)
  intro h49_
  have h50_ := (h49_ h4_)
  have h51_ := (h50_ h23_)
  have h52_ := (h51_ h24_)
  have h53_ := (h52_ h25_)
  intro h54_
  have h55_ := (h54_ h4_)
  have h56_ := (h55_ h23_)
  have h57_ := (h56_ h24_)
  have h58_ := (h57_ h25_)
  intro h59_
  rintro ⟨h60_, ⟨h61_, ⟨h62_, h63_⟩⟩⟩
  refine ⟨?_, ?_⟩
  · skip
    intro g6
    rintro ⟨h64_, ⟨h65_, ⟨h66_, ⟨h67_, ⟨h68_, ⟨h69_, ⟨h70_, ⟨h71_, ⟨h72_, ⟨h73_, ⟨h74_, ⟨h75_, ⟨h76_, ⟨h77_, ⟨h78_, ⟨h79_, ⟨h80_, ⟨h81_, ⟨h82_, ⟨h83_, ⟨h84_, ⟨h85_, ⟨h86_, ⟨h87_, ⟨h88_, ⟨h89_, ⟨h90_, h91_⟩⟩⟩⟩⟩⟩⟩⟩⟩⟩⟩⟩⟩⟩⟩⟩⟩⟩⟩⟩⟩⟩⟩⟩⟩⟩⟩
    have h92_ := (h90_ h28_)
    refine ⟨?_, ?_⟩
    · skip
      intro g11
      rintro ⟨h93_, ⟨h94_, ⟨h95_, ⟨h96_, ⟨h97_, ⟨h98_, ⟨h99_, ⟨h100_, ⟨h101_, ⟨h102_, ⟨h103_, ⟨h104_, ⟨h105_, ⟨h106_, ⟨h107_, ⟨h108_, ⟨h109_, ⟨h110_, ⟨h111_, ⟨h112_, ⟨h113_, ⟨h114_, ⟨h115_, ⟨h116_, ⟨h117_, ⟨h118_, ⟨h119_, h120_⟩⟩⟩⟩⟩⟩⟩⟩⟩⟩⟩⟩⟩⟩⟩⟩⟩⟩⟩⟩⟩⟩⟩⟩⟩⟩⟩
      have h121_ := (h119_ h28_)
      refine ⟨?_, ?_⟩
      · skip
        refine ⟨h93_, ?_⟩
        refine ⟨h94_, ?_⟩
        refine ⟨h95_, ?_⟩
        refine ⟨h96_, ?_⟩
        intro h122_
        obtain ⟨h123_, ⟨h124_, ⟨h125_, ⟨h126_, ⟨h127_, ⟨h128_, ⟨h129_, ⟨h130_, ⟨h131_, ⟨h132_, ⟨h133_, ⟨h134_, ⟨h135_, ⟨h136_, ⟨h137_, ⟨h138_, -⟩⟩⟩⟩⟩⟩⟩⟩⟩⟩⟩⟩⟩⟩⟩⟩ := (h120_ h122_)
        refine ⟨h124_, ?_⟩
        refine ⟨la_stepBehind_4, ?_⟩
        refine ⟨la_stepBehind_5, ?_⟩
        refine ⟨(sm_ci_17 (la_stepBehind_6 (sm_KC_n h29_).2.1.1 h33_ h34_ h130_ h131_ h133_ h134_ h135_ (sm_dl_17 : sm_dl 17 0 = (-1)) (sm_nt_17 : sm_nt 17 (g11 1046 0) (g11 1100023 (g11 1046 0)) (g11 1100023 (g11 1100023 (g11 1046 0))) = g11 1100023 (g11 1046 0)) (sm_nl_17b : (0 ≤ g11 1100025 (g11 1046 0) → g11 1100007 (g11 1100025 (g11 1046 0)) < g11 1100007 (g11 1046 0)) → sm_nl 17 (g11 1046 0) (g11 1100007 (g11 1046 0)) (g11 1100025 (g11 1046 0)) (g11 1100007 (g11 1100025 (g11 1046 0))) (g11 1100025 (g11 1100025 (g11 1046 0))) = g11 1100025 (g11 1046 0)))), ?_⟩
        refine ⟨la_stepBehind_7, ?_⟩
        intro h139_
        have h140_ := (h139_.resolve_left la_stepBehind_8)
        have h141_ := (h59_ (sm_nm_i (la_stepBehind_9 h140_) (la_stepBehind_10 h140_) (la_stepBehind_11 h140_)))
        obtain ⟨h142_, h143_⟩ := (h141_ h5_)
        have h144_ := (h33_ (la_stepBehind_13 h140_))
        have h145_ := (h34_ (la_stepBehind_13 h140_))
        have h146_ := (h46_ (la_stepBehind_14 h140_))
        have h147_ := (h47_ (la_stepBehind_15 h140_))
        have h148_ := ((sm_nl_17b : (0 ≤ g11 1100025 (g11 1046 0) → g11 1100007 (g11 1100025 (g11 1046 0)) < g11 1100007 (g11 1046 0)) → sm_nl 17 (g11 1046 0) (g11 1100007 (g11 1046 0)) (g11 1100025 (g11 1046 0)) (g11 1100007 (g11 1100025 (g11 1046 0))) (g11 1100025 (g11 1100025 (g11 1046 0))) = g11 1100025 (g11 1046 0)) (la_stepBehind_16 h140_))
        have e149_ : S 1100007 (S 1100023 (S 1046 0)) = S 1100007 (S 1046 0) := congrArg ((S 1100007)) (la_stepBehind_17 h140_)
        have e150_ : S 1100007 (S 1100025 (S 1046 0)) = S 1100007 (S 1046 0) := congrArg ((S 1100007)) (la_stepBehind_17 h140_)
        have e151_ : S 1100007 (S 1100025 (S 1046 0)) = S 1100007 (S 1100023 (S 1046 0)) := congrArg ((S 1100007)) (la_stepBehind_17 h140_)
        have e152_ : S 1100007 (g11 1046 0) = S 1100007 (S 1046 0) := congrArg ((S 1100007)) (la_stepBehind_17 h140_)
        have e153_ : S 1100007 (g11 1046 0) = S 1100007 (S 1100023 (S 1046 0)) := congrArg ((S 1100007)) (la_stepBehind_17 h140_)
        have e154_ : S 1100007 (g11 1046 0) = S 1100007 (S 1100025 (S 1046 0)) := congrArg ((S 1100007)) (la_stepBehind_17 h140_)
        have e155_ : S 1100007 (g11 1100023 (g11 1046 0)) = S 1100007 (S 1046 0) := congrArg ((S 1100007)) (la_stepBehind_17 h140_)
        have e156_ : S 1100007 (g11 1100023 (g11 1046 0)) = S 1100007 (S 1100023 (S 1046 0)) := congrArg ((S 1100007)) h131_
        have e157_ : S 1100007 (g11 1100023 (g11 1046 0)) = S 1100007 (S 1100025 (S 1046 0)) := congrArg ((S 1100007)) (la_stepBehind_17 h140_)
        have e158_ : S 1100007 (g11 1100023 (g11 1046 0)) = S 1100007 (g11 1046 0) := congrArg ((S 1100007)) (la_stepBehind_17 h140_)
        have e159_ : S 1100007 (g11 1100025 (g11 1046 0)) = S 1100007 (S 1046 0) := congrArg ((S 1100007)) (la_stepBehind_17 h140_)
        have e160_ : S 1100007 (g11 1100025 (g11 1046 0)) = S 1100007 (S 1100023 (S 1046 0)) := congrArg ((S 1100007)) (la_stepBehind_17 h140_)
        have e161_ : S 1100007 (g11 1100025 (g11 1046 0)) = S 1100007 (S 1100025 (S 1046 0)) := congrArg ((S 1100007)) h133_
        have e162_ : S 1100007 (g11 1100025 (g11 1046 0)) = S 1100007 (g11 1046 0) := congrArg ((S 1100007)) (la_stepBehind_17 h140_)
        have e163_ : S 1100007 (g11 1100025 (g11 1046 0)) = S 1100007 (g11 1100023 (g11 1046 0)) := congrArg ((S 1100007)) (la_stepBehind_17 h140_)
        have e164_ : S 1100023 (g11 1046 0) = S 1100023 (S 1046 0) := congrArg ((S 1100023)) (la_stepBehind_17 h140_)
        have e165_ : S 1100024 (g11 1046 0) = S 1100024 (S 1046 0) := congrArg ((S 1100024)) (la_stepBehind_17 h140_)
        have e166_ : S 1100025 (g11 1046 0) = S 1100025 (S 1046 0) := congrArg ((S 1100025)) (la_stepBehind_17 h140_)
        have e167_ : S 12 (5 * p2 + 1) = S 12 (5 * p2) := congrArg ((S 12)) (la_stepBehind_18 h140_)
        have e168_ : g11 1100007 (g11 1100023 (g11 1046 0)) = g11 1100007 (g11 1046 0) := congrArg ((g11 1100007)) (la_stepBehind_17 h140_)
        have e169_ : g11 1100007 (g11 1100025 (g11 1046 0)) = g11 1100007 (g11 1046 0) := congrArg ((g11 1100007)) (la_stepBehind_17 h140_)
        have e170_ : g11 1100007 (g11 1100025 (g11 1046 0)) = g11 1100007 (g11 1100023 (g11 1046 0)) := congrArg ((g11 1100007)) (la_stepBehind_17 h140_)
        have e171_ : g11 1100023 (g11 1100023 (g11 1046 0)) = g11 1100023 (g11 1046 0) := congrArg ((g11 1100023)) (la_stepBehind_17 h140_)
        have e172_ : g11 1100025 (g11 1100025 (g11 1046 0)) = g11 1100025 (g11 1046 0) := congrArg ((g11 1100025)) (la_stepBehind_17 h140_)
        have e173_ : S 1100023 (g11 1100023 (g11 1046 0)) = S 1100023 (S 1046 0) := congrArg ((S 1100023)) (la_stepBehind_17 h140_)
        have e174_ : S 1100023 (g11 1100023 (g11 1046 0)) = S 1100023 (g11 1046 0) := congrArg ((S 1100023)) (la_stepBehind_17 h140_)
        have e175_ : S 1100025 (g11 1100025 (g11 1046 0)) = S 1100025 (S 1046 0) := congrArg ((S 1100025)) (la_stepBehind_17 h140_)
        have e176_ : S 1100025 (g11 1100025 (g11 1046 0)) = S 1100025 (g11 1046 0) := congrArg ((S 1100025)) (la_stepBehind_17 h140_)
        exact ((la_stepBehind_19 h140_)).elim
      refine ⟨(la_stepBehind_20 h45_ h115_ h121_), ?_⟩
      intro g18
      rintro ⟨h177_, ⟨h178_, ⟨h179_, ⟨h180_, ⟨h181_, ⟨h182_, ⟨h183_, ⟨h184_, ⟨h185_, ⟨h186_, ⟨h187_, ⟨h188_, ⟨h189_, ⟨h190_, ⟨h191_, ⟨h192_, h193_⟩⟩⟩⟩⟩⟩⟩⟩⟩⟩⟩⟩⟩⟩⟩⟩
      refine ⟨(la_stepBehind_21 h179_), ?_⟩
      refine ⟨h182_, ?_⟩
      refine ⟨h177_, ?_⟩
      refine ⟨h178_, ?_⟩
      refine ⟨h97_, ?_⟩
      refine ⟨h98_, ?_⟩
      refine ⟨(la_stepBehind_22 h99_ h180_), ?_⟩
      refine ⟨(la_stepBehind_23 h28_ h178_), ?_⟩
      refine ⟨(sm_F1_tr (sm_F1_le h101_ (Int.le_refl _)) h185_ h99_), ?_⟩
      refine ⟨(sm_F1_tr (sm_F1_le h102_ (Int.le_refl _)) h186_ h99_), ?_⟩
      refine ⟨(sm_F1_tr (sm_F1_le h103_ (Int.le_refl _)) h187_ h99_), ?_⟩
      refine ⟨(sm_F1_tr (sm_F1_le h104_ (Int.le_refl _)) h188_ h99_), ?_⟩
      refine ⟨(sm_F1_tr (sm_F1_le h105_ (Int.le_refl _)) h189_ (la_stepBehind_24 h99_)), ?_⟩
      refine ⟨(sm_F1_tr (sm_F1_le h106_ (Int.le_refl _)) h190_ (la_stepBehind_24 h99_)), ?_⟩
      refine ⟨(sm_F1_tr (sm_F1_le h107_ (Int.le_refl _)) h191_ (la_stepBehind_24 h99_)), ?_⟩
      refine ⟨(sm_F1_tr (sm_F1_le h108_ (Int.le_refl _)) h192_ (la_stepBehind_24 h99_)), ?_⟩
      refine ⟨h109_, ?_⟩
      refine ⟨h110_, ?_⟩
      refine ⟨h111_, ?_⟩
      refine ⟨h112_, ?_⟩
      refine ⟨h113_, ?_⟩
      refine ⟨h114_, ?_⟩
      refine ⟨h115_, ?_⟩
      refine ⟨h116_, ?_⟩
      refine ⟨h117_, ?_⟩
      refine ⟨h118_, ?_⟩
      refine ⟨h119_, ?_⟩
      intro h194_
      have h195_ : ¬ (g11 1047 0 = 1) := fun q_ => (la_stepBehind_3 h194_) (h183_ q_)
      obtain ⟨h196_, ⟨h197_, ⟨h198_, ⟨h199_, ⟨h200_, ⟨h201_, ⟨h202_, ⟨h203_, ⟨h204_, ⟨h205_, ⟨h206_, ⟨h207_, ⟨h208_, h209_⟩⟩⟩⟩⟩⟩⟩⟩⟩⟩⟩⟩⟩ := (h193_ h194_)
      have h210_ := (h208_ la_stepBehind_27)
      have h211_ := (h209_ la_stepBehind_26)
      obtain ⟨h212_, ⟨h213_, ⟨h214_, ⟨h215_, ⟨h216_, ⟨h217_, ⟨h218_, ⟨h219_, ⟨h220_, ⟨h221_, ⟨h222_, ⟨h223_, ⟨h224_, ⟨h225_, ⟨h226_, ⟨h227_, -⟩⟩⟩⟩⟩⟩⟩⟩⟩⟩⟩⟩⟩⟩⟩⟩ := (h120_ h196_)
      refine ⟨h28_, ?_⟩
      refine ⟨h198_, ?_⟩
      refine ⟨h214_, ?_⟩
      refine ⟨h215_, ?_⟩
      refine ⟨(la_stepBehind_28 h197_ h216_), ?_⟩
      refine ⟨(la_stepBehind_29 h197_ h217_), ?_⟩
      refine ⟨(sm_FC_s (sm_FC_F h218_ (sm_F1_le h188_ (Int.le_refl _)) (Int.le_refl _) (Int.le_refl _) (Int.le_refl _) rfl) (sm_FC_1 h201_ (sm_FC_0 h181_))), ?_⟩
      refine ⟨(la_stepBehind_31 h202_ (sm_dl_17 : sm_dl 17 0 = (-1)) h219_), ?_⟩
      refine ⟨(la_stepBehind_32 h203_ (sm_nt_17 : sm_nt 17 (g11 1046 0) (g11 1100023 (g11 1046 0)) (g11 1100023 (g11 1100023 (g11 1046 0))) = g11 1100023 (g11 1046 0)) h220_), ?_⟩
      refine ⟨(la_stepBehind_32 h204_ (sm_nd_17 : sm_nd 17 (g11 1100024 (g11 1046 0)) = g11 1100024 (g11 1046 0)) h221_), ?_⟩
      refine ⟨?_, ?_⟩
      · skip
        have e228_ : S 1100007 (g11 1100023 (g11 1046 0)) = S 1100007 (S 1100023 (S 1046 0)) := congrArg ((S 1100007)) h220_
        have e229_ : S 1100007 (g11 1100025 (g11 1046 0)) = S 1100007 (S 1100025 (S 1046 0)) := congrArg ((S 1100007)) h222_
        have e230_ : S 1100007 (g18 1100023 (g18 1046 0)) = S 1100007 (S 1100023 (S 1046 0)) := congrArg ((S 1100007)) (la_stepBehind_32 h203_ (sm_nt_17 : sm_nt 17 (g11 1046 0) (g11 1100023 (g11 1046 0)) (g11 1100023 (g11 1100023 (g11 1046 0))) = g11 1100023 (g11 1046 0)) h220_)
        have e231_ : S 1100007 (g18 1100023 (g18 1046 0)) = S 1100007 (g11 1100023 (g11 1046 0)) := congrArg ((S 1100007)) (la_stepBehind_37 h203_ (sm_nt_17 : sm_nt 17 (g11 1046 0) (g11 1100023 (g11 1046 0)) (g11 1100023 (g11 1100023 (g11 1046 0))) = g11 1100023 (g11 1046 0)))
        have e232_ : g11 1100007 (g18 1100023 (g18 1046 0)) = g11 1100007 (g11 1100023 (g11 1046 0)) := congrArg ((g11 1100007)) (la_stepBehind_37 h203_ (sm_nt_17 : sm_nt 17 (g11 1046 0) (g11 1100023 (g11 1046 0)) (g11 1100023 (g11 1100023 (g11 1046 0))) = g11 1100023 (g11 1046 0)))
        have e233_ : g11 1100007 (g18 1100025 (g18 1046 0)) = g11 1100007 (g11 1100025 (g11 1046 0)) := congrArg ((g11 1100007)) (la_stepBehind_38 h34_ (sm_KC_n h198_).2.1.2.2.2.2.2.2.1 h205_ (sm_nl_17b : (0 ≤ g11 1100025 (g11 1046 0) → g11 1100007 (g11 1100025 (g11 1046 0)) < g11 1100007 (g11 1046 0)) → sm_nl 17 (g11 1046 0) (g11 1100007 (g11 1046 0)) (g11 1100025 (g11 1046 0)) (g11 1100007 (g11 1100025 (g11 1046 0))) (g11 1100025 (g11 1100025 (g11 1046 0))) = g11 1100025 (g11 1046 0)) h219_ h222_ h224_)
        exact (la_stepBehind_39 h34_ (sm_KC_n h198_).2.1.2.2.2.2.2.2.1 h205_ (sm_nl_17b : (0 ≤ g11 1100025 (g11 1046 0) → g11 1100007 (g11 1100025 (g11 1046 0)) < g11 1100007 (g11 1046 0)) → sm_nl 17 (g11 1046 0) (g11 1100007 (g11 1046 0)) (g11 1100025 (g11 1046 0)) (g11 1100007 (g11 1100025 (g11 1046 0))) (g11 1100025 (g11 1100025 (g11 1046 0))) = g11 1100025 (g11 1046 0)) h219_ h222_ h224_)
      refine ⟨(la_stepBehind_32 h206_ (sm_nt_17 : sm_nt 17 (g11 1100007 (g11 1046 0)) (g11 1100007 (g11 1100023 (g11 1046 0))) (g11 1100007 (g11 1100023 (g11 1100023 (g11 1046 0)))) = g11 1100007 (g11 1100023 (g11 1046 0))) h223_), ?_⟩
      refine ⟨?_, ?_⟩
      · skip
        have e234_ : S 1100007 (g11 1100023 (g11 1046 0)) = S 1100007 (S 1100023 (S 1046 0)) := congrArg ((S 1100007)) h220_
        have e235_ : S 1100007 (g11 1100025 (g11 1046 0)) = S 1100007 (S 1100025 (S 1046 0)) := congrArg ((S 1100007)) h222_
        have e236_ : S 1100007 (g18 1100023 (g18 1046 0)) = S 1100007 (S 1100023 (S 1046 0)) := congrArg ((S 1100007)) (la_stepBehind_32 h203_ (sm_nt_17 : sm_nt 17 (g11 1046 0) (g11 1100023 (g11 1046 0)) (g11 1100023 (g11 1100023 (g11 1046 0))) = g11 1100023 (g11 1046 0)) h220_)
        have e237_ : S 1100007 (g18 1100023 (g18 1046 0)) = S 1100007 (g11 1100023 (g11 1046 0)) := congrArg ((S 1100007)) (la_stepBehind_37 h203_ (sm_nt_17 : sm_nt 17 (g11 1046 0) (g11 1100023 (g11 1046 0)) (g11 1100023 (g11 1100023 (g11 1046 0))) = g11 1100023 (g11 1046 0)))
        have e238_ : g11 1100007 (g18 1100023 (g18 1046 0)) = g11 1100007 (g11 1100023 (g11 1046 0)) := congrArg ((g11 1100007)) (la_stepBehind_37 h203_ (sm_nt_17 : sm_nt 17 (g11 1046 0) (g11 1100023 (g11 1046 0)) (g11 1100023 (g11 1100023 (g11 1046 0))) = g11 1100023 (g11 1046 0)))
        have e239_ : g11 1100007 (g18 1100025 (g18 1046 0)) = g11 1100007 (g11 1100025 (g11 1046 0)) := congrArg ((g11 1100007)) (la_stepBehind_38 h34_ (sm_KC_n h198_).2.1.2.2.2.2.2.2.1 h205_ (sm_nl_17b : (0 ≤ g11 1100025 (g11 1046 0) → g11 1100007 (g11 1100025 (g11 1046 0)) < g11 1100007 (g11 1046 0)) → sm_nl 17 (g11 1046 0) (g11 1100007 (g11 1046 0)) (g11 1100025 (g11 1046 0)) (g11 1100007 (g11 1100025 (g11 1046 0))) (g11 1100025 (g11 1100025 (g11 1046 0))) = g11 1100025 (g11 1046 0)) h219_ h222_ h224_)
        exact (la_stepBehind_40 h224_ (sm_F1_at h189_ (g18 1100025 (g18 1046 0)) (la_stepBehind_34 h181_ (sm_KC_n h198_).2.1.2.2.2.2.2.2.2)) e239_)
      refine ⟨h225_, ?_⟩
      refine ⟨(sm_HB_1 (by rw [((sm_F1_at h189_ (S 1046 0) (la_stepBehind_41 h217_)).trans ((sm_F1_at h105_ (S 1046 0) la_stepBehind_42).trans rfl))]; exact (la_stepBehind_43 h48_ h197_ h217_)) (sm_HB_s (sm_HB_F h226_ (sm_F1_le h189_ la_stepBehind_45) (Int.le_refl _) la_stepBehind_45 (Int.le_refl _) (la_stepBehind_47 h197_)) (sm_HB_1 (by rw [((sm_F1_at h189_ (g11 1046 0) la_stepBehind_42).trans rfl)]; exact (la_stepBehind_48 h48_ h197_ h217_ h219_)) (sm_HB_0 h181_)))), ?_⟩
      refine ⟨(la_stepBehind_49 h197_ h227_), ?_⟩
      exact trivial
    refine ⟨?_, ?_⟩
    · skip
      refine ⟨h64_, ?_⟩
      refine ⟨h65_, ?_⟩
      refine ⟨h66_, ?_⟩
      refine ⟨h67_, ?_⟩
      intro h240_
      obtain ⟨h241_, ⟨h242_, ⟨h243_, ⟨h244_, ⟨h245_, ⟨h246_, ⟨h247_, ⟨h248_, ⟨h249_, ⟨h250_, ⟨h251_, ⟨h252_, ⟨h253_, ⟨h254_, ⟨h255_, ⟨h256_, -⟩⟩⟩⟩⟩⟩⟩⟩⟩⟩⟩⟩⟩⟩⟩⟩ := (h91_ h240_)
      refine ⟨h242_, ?_⟩
      refine ⟨la_stepBehind_50, ?_⟩
      refine ⟨la_stepBehind_51, ?_⟩
      refine ⟨la_stepBehind_52, ?_⟩
      refine ⟨(la_stepBehind_53 h33_ h60_ h248_ h249_ h252_), ?_⟩
      intro h257_
      have h258_ := (h34_ (la_stepBehind_54 h251_ h257_))
      exact (la_stepBehind_55 h60_ h248_ h253_ h258_)
    refine ⟨(la_stepBehind_20 h45_ h86_ h92_), ?_⟩
    intro g26
    rintro ⟨h259_, ⟨h260_, ⟨h261_, ⟨h262_, ⟨h263_, ⟨h264_, ⟨h265_, ⟨h266_, ⟨h267_, ⟨h268_, ⟨h269_, ⟨h270_, ⟨h271_, ⟨h272_, ⟨h273_, ⟨h274_, h275_⟩⟩⟩⟩⟩⟩⟩⟩⟩⟩⟩⟩⟩⟩⟩⟩
    refine ⟨?_, ?_⟩
    · skip
      refine ⟨(la_stepBehind_21 h261_), ?_⟩
      refine ⟨h264_, ?_⟩
      refine ⟨h259_, ?_⟩
      refine ⟨h260_, ?_⟩
      intro h276_
      have h277_ : ¬ (g6 1047 0 = 1) := fun q_ => (la_stepBehind_3 h276_) (h265_ q_)
      obtain ⟨h278_, ⟨h279_, ⟨h280_, ⟨h281_, ⟨h282_, ⟨h283_, ⟨h284_, ⟨h285_, ⟨h286_, ⟨h287_, ⟨h288_, ⟨h289_, ⟨h290_, h291_⟩⟩⟩⟩⟩⟩⟩⟩⟩⟩⟩⟩⟩ := (h275_ h276_)
      have h292_ := (h291_ la_stepBehind_56)
      obtain ⟨h293_, ⟨h294_, ⟨h295_, ⟨h296_, ⟨h297_, ⟨h298_, ⟨h299_, ⟨h300_, ⟨h301_, ⟨h302_, ⟨h303_, ⟨h304_, ⟨h305_, ⟨h306_, ⟨h307_, ⟨h308_, -⟩⟩⟩⟩⟩⟩⟩⟩⟩⟩⟩⟩⟩⟩⟩⟩ := (h91_ h278_)
      have h309_ := (h292_ la_stepBehind_58)
      refine ⟨h280_, ?_⟩
      refine ⟨la_stepBehind_59, ?_⟩
      refine ⟨la_stepBehind_60, ?_⟩
      refine ⟨(sm_ci_14 (la_stepBehind_61 h21_ h22_ (sm_KC_n h29_).2.1.1 h33_ h34_ h60_ h284_ (sm_dl_0 : sm_dl 0 5 = 1) h285_ (sm_nt_0 : sm_nt 0 (g6 1046 0) (g6 1100023 (g6 1046 0)) (g6 1100023 (g6 1100023 (g6 1046 0))) = g6 1100023 (g6 1046 0)) h287_ (sm_nl_0 : sm_nl 0 (g6 1046 0) (g6 1100007 (g6 1046 0)) (g6 1100025 (g6 1046 0)) (g6 1100007 (g6 1100025 (g6 1046 0))) (g6 1100025 (g6 1100025 (g6 1046 0))) = g6 1100025 (g6 1046 0)) h288_ (sm_nt_0 : sm_nt 0 (g6 1100007 (g6 1046 0)) (g6 1100007 (g6 1100023 (g6 1046 0))) (g6 1100007 (g6 1100023 (g6 1100023 (g6 1046 0)))) = g6 1100007 (g6 1100023 (g6 1046 0))) h300_ h301_ h303_ h304_ h305_ h309_ (sm_dl_14 : sm_dl 14 p1 = (-1)) (sm_nt_14 : sm_nt 14 (g26 1046 0) (g26 1100023 (g26 1046 0)) (g26 1100023 (g26 1100023 (g26 1046 0))) = g26 1100023 (g26 1046 0)) (sm_nl_14 : sm_nl 14 (g26 1046 0) (g26 1100007 (g26 1046 0)) (g26 1100025 (g26 1046 0)) (g26 1100007 (g26 1100025 (g26 1046 0))) (g26 1100025 (g26 1100025 (g26 1046 0))) = g26 1100025 (g26 1046 0)))), ?_⟩
      refine ⟨la_stepBehind_62, ?_⟩
      intro h310_
      have h311_ := (h310_.resolve_left la_stepBehind_63)
      have h312_ := (h59_ (sm_nm_i (la_stepBehind_64 h311_) (la_stepBehind_65 h311_) (la_stepBehind_66 h311_)))
      obtain ⟨h313_, h314_⟩ := (h312_ h5_)
      have e315_ : (if S 11 p2 = 2 then 2 else 4 : Int) = 2 := if_pos (la_stepBehind_69 h311_)
      have h316_ := (h26_.resolve_left (la_stepBehind_70 h311_))
      have h317_ := (h33_ (la_stepBehind_71 h311_))
      have h318_ := (h34_ (la_stepBehind_71 h311_))
      have h319_ := (h46_ (la_stepBehind_72 h311_))
      have h320_ := (h47_ (la_stepBehind_73 h311_))
      have h321_ := (h62_ (la_stepBehind_69 h311_))
      have h322_ := (h63_ (la_stepBehind_70 h311_))
      have h323_ := (h53_ (la_stepBehind_69 h311_))
      obtain ⟨h324_, ⟨h325_, ⟨h326_, h327_⟩⟩⟩ := (h58_ h316_)
      have e328_ : S 1100001 (S 12 (5 * p2 + 1)) = S 1100001 (S 12 (5 * p2)) := congrArg ((S 1100001)) (la_stepBehind_74 h311_)
      have e329_ : S 1100001 p2 = S 1100001 (S 12 (5 * p2)) := congrArg ((S 1100001)) (la_stepBehind_74 h311_)
      have e330_ : S 1100001 p2 = S 1100001 (S 12 (5 * p2 + 1)) := congrArg ((S 1100001)) (la_stepBehind_74 h311_)
      have e331_ : S 1100002 (S 12 (5 * p2 + 1)) = S 1100002 (S 12 (5 * p2)) := congrArg ((S 1100002)) (la_stepBehind_74 h311_)
      have e332_ : S 1100002 p2 = S 1100002 (S 12 (5 * p2)) := congrArg ((S 1100002)) (la_stepBehind_74 h311_)
      have e333_ : S 1100002 p2 = S 1100002 (S 12 (5 * p2 + 1)) := congrArg ((S 1100002)) (la_stepBehind_74 h311_)
      have e334_ : S 1100005 (S 12 (5 * p2 + 1)) = S 1100005 (S 12 (5 * p2)) := congrArg ((S 1100005)) (la_stepBehind_74 h311_)
      have e335_ : S 1100005 p2 = S 1100005 (S 12 (5 * p2)) := congrArg ((S 1100005)) (la_stepBehind_74 h311_)
      have e336_ : S 1100005 p2 = S 1100005 (S 12 (5 * p2 + 1)) := congrArg ((S 1100005)) (la_stepBehind_74 h311_)
      have e337_ : S 1100007 (S 1100023 (S 1046 0)) = S 1100007 (S 1046 0) := congrArg ((S 1100007)) (la_stepBehind_74 h311_)
      have e338_ : S 1100007 (S 1100025 (S 1046 0)) = S 1100007 (S 1046 0) := congrArg ((S 1100007)) (la_stepBehind_74 h311_)
      have e339_ : S 1100007 (S 1100025 (S 1046 0)) = S 1100007 (S 1100023 (S 1046 0)) := congrArg ((S 1100007)) (la_stepBehind_74 h311_)
      have e340_ : S 1100007 (g26 1046 0) = S 1100007 (S 1046 0) := congrArg ((S 1100007)) (la_stepBehind_74 h311_)
      have e341_ : S 1100007 (g26 1046 0) = S 1100007 (S 1100023 (S 1046 0)) := congrArg ((S 1100007)) (la_stepBehind_74 h311_)
      have e342_ : S 1100007 (g26 1046 0) = S 1100007 (S 1100025 (S 1046 0)) := congrArg ((S 1100007)) (la_stepBehind_74 h311_)
      have e343_ : S 1100007 (g26 1100023 (g26 1046 0)) = S 1100007 (S 1046 0) := congrArg ((S 1100007)) (la_stepBehind_74 h311_)
      have e344_ : S 1100007 (g26 1100023 (g26 1046 0)) = S 1100007 (S 1100023 (S 1046 0)) := congrArg ((S 1100007)) (la_stepBehind_74 h311_)
      have e345_ : S 1100007 (g26 1100023 (g26 1046 0)) = S 1100007 (S 1100025 (S 1046 0)) := congrArg ((S 1100007)) (la_stepBehind_74 h311_)
      have e346_ : S 1100007 (g26 1100023 (g26 1046 0)) = S 1100007 (g26 1046 0) := congrArg ((S 1100007)) (la_stepBehind_74 h311_)
      have e347_ : S 1100007 (g26 1100025 (g26 1046 0)) = S 1100007 (S 1046 0) := congrArg ((S 1100007)) (la_stepBehind_74 h311_)
      have e348_ : S 1100007 (g26 1100025 (g26 1046 0)) = S 1100007 (S 1100023 (S 1046 0)) := congrArg ((S 1100007)) (la_stepBehind_74 h311_)
      have e349_ : S 1100007 (g26 1100025 (g26 1046 0)) = S 1100007 (S 1100025 (S 1046 0)) := congrArg ((S 1100007)) (la_stepBehind_74 h311_)
      have e350_ : S 1100007 (g26 1100025 (g26 1046 0)) = S 1100007 (g26 1046 0) := congrArg ((S 1100007)) (la_stepBehind_74 h311_)
      have e351_ : S 1100007 (g26 1100025 (g26 1046 0)) = S 1100007 (g26 1100023 (g26 1046 0)) := congrArg ((S 1100007)) (la_stepBehind_74 h311_)
      have e352_ : S 1100007 (g6 1046 0) = S 1100007 (S 1046 0) := congrArg ((S 1100007)) (la_stepBehind_74 h311_)
      have e353_ : S 1100007 (g6 1046 0) = S 1100007 (S 1100023 (S 1046 0)) := congrArg ((S 1100007)) (la_stepBehind_74 h311_)
      have e354_ : S 1100007 (g6 1046 0) = S 1100007 (S 1100025 (S 1046 0)) := congrArg ((S 1100007)) (la_stepBehind_74 h311_)
      have e355_ : S 1100007 (g6 1046 0) = S 1100007 (g26 1046 0) := congrArg ((S 1100007)) (la_stepBehind_74 h311_)
      have e356_ : S 1100007 (g6 1046 0) = S 1100007 (g26 1100023 (g26 1046 0)) := congrArg ((S 1100007)) (la_stepBehind_74 h311_)
      have e357_ : S 1100007 (g6 1046 0) = S 1100007 (g26 1100025 (g26 1046 0)) := congrArg ((S 1100007)) (la_stepBehind_74 h311_)
      have e358_ : S 1100007 (g6 1100023 (g6 1046 0)) = S 1100007 (S 1046 0) := congrArg ((S 1100007)) (la_stepBehind_74 h311_)
      have e359_ : S 1100007 (g6 1100023 (g6 1046 0)) = S 1100007 (S 1100023 (S 1046 0)) := congrArg ((S 1100007)) h301_
      have e360_ : S 1100007 (g6 1100023 (g6 1046 0)) = S 1100007 (S 1100025 (S 1046 0)) := congrArg ((S 1100007)) (la_stepBehind_74 h311_)
      have e361_ : S 1100007 (g6 1100023 (g6 1046 0)) = S 1100007 (g26 1046 0) := congrArg ((S 1100007)) (la_stepBehind_74 h311_)
      have e362_ : S 1100007 (g6 1100023 (g6 1046 0)) = S 1100007 (g26 1100023 (g26 1046 0)) := congrArg ((S 1100007)) (la_stepBehind_74 h311_)
      have e363_ : S 1100007 (g6 1100023 (g6 1046 0)) = S 1100007 (g26 1100025 (g26 1046 0)) := congrArg ((S 1100007)) (la_stepBehind_74 h311_)
      have e364_ : S 1100007 (g6 1100023 (g6 1046 0)) = S 1100007 (g6 1046 0) := congrArg ((S 1100007)) (la_stepBehind_74 h311_)
      have e365_ : S 1100007 (g6 1100025 (g6 1046 0)) = S 1100007 (S 1046 0) := congrArg ((S 1100007)) (la_stepBehind_74 h311_)
      have e366_ : S 1100007 (g6 1100025 (g6 1046 0)) = S 1100007 (S 1100023 (S 1046 0)) := congrArg ((S 1100007)) (la_stepBehind_74 h311_)
      have e367_ : S 1100007 (g6 1100025 (g6 1046 0)) = S 1100007 (S 1100025 (S 1046 0)) := congrArg ((S 1100007)) h303_
      have e368_ : S 1100007 (g6 1100025 (g6 1046 0)) = S 1100007 (g26 1046 0) := congrArg ((S 1100007)) (la_stepBehind_74 h311_)
      have e369_ : S 1100007 (g6 1100025 (g6 1046 0)) = S 1100007 (g26 1100023 (g26 1046 0)) := congrArg ((S 1100007)) (la_stepBehind_74 h311_)
      have e370_ : S 1100007 (g6 1100025 (g6 1046 0)) = S 1100007 (g26 1100025 (g26 1046 0)) := congrArg ((S 1100007)) (la_stepBehind_74 h311_)
      have e371_ : S 1100007 (g6 1100025 (g6 1046 0)) = S 1100007 (g6 1046 0) := congrArg ((S 1100007)) (la_stepBehind_74 h311_)
      have e372_ : S 1100007 (g6 1100025 (g6 1046 0)) = S 1100007 (g6 1100023 (g6 1046 0)) := congrArg ((S 1100007)) (la_stepBehind_74 h311_)
      have e373_ : S 1100023 (g26 1046 0) = S 1100023 (S 1046 0) := congrArg ((S 1100023)) (la_stepBehind_74 h311_)
      have e374_ : S 1100023 (g6 1046 0) = S 1100023 (S 1046 0) := congrArg ((S 1100023)) (la_stepBehind_74 h311_)
      have e375_ : S 1100023 (g6 1046 0) = S 1100023 (g26 1046 0) := congrArg ((S 1100023)) (la_stepBehind_74 h311_)
      have e376_ : S 1100024 (g26 1046 0) = S 1100024 (S 1046 0) := congrArg ((S 1100024)) (la_stepBehind_74 h311_)
      have e377_ : S 1100024 (g6 1046 0) = S 1100024 (S 1046 0) := congrArg ((S 1100024)) (la_stepBehind_74 h311_)
      have e378_ : S 1100024 (g6 1046 0) = S 1100024 (g26 1046 0) := congrArg ((S 1100024)) (la_stepBehind_74 h311_)
      have e379_ : S 1100025 (g26 1046 0) = S 1100025 (S 1046 0) := congrArg ((S 1100025)) (la_stepBehind_74 h311_)
      have e380_ : S 1100025 (g6 1046 0) = S 1100025 (S 1046 0) := congrArg ((S 1100025)) (la_stepBehind_74 h311_)
      have e381_ : S 1100025 (g6 1046 0) = S 1100025 (g26 1046 0) := congrArg ((S 1100025)) (la_stepBehind_74 h311_)
      have e382_ : S 12 (5 * p2 + 1) = S 12 (5 * p2) := congrArg ((S 12)) (la_stepBehind_75 h311_)
      have e383_ : g26 1100007 (g26 1100023 (g26 1046 0)) = g26 1100007 (g26 1046 0) := congrArg ((g26 1100007)) (la_stepBehind_74 h311_)
      have e384_ : g26 1100007 (g26 1100025 (g26 1046 0)) = g26 1100007 (g26 1046 0) := congrArg ((g26 1100007)) (la_stepBehind_74 h311_)
      have e385_ : g26 1100007 (g26 1100025 (g26 1046 0)) = g26 1100007 (g26 1100023 (g26 1046 0)) := congrArg ((g26 1100007)) (la_stepBehind_74 h311_)
      have e386_ : g26 1100023 (g26 1100023 (g26 1046 0)) = g26 1100023 (g26 1046 0) := congrArg ((g26 1100023)) (la_stepBehind_74 h311_)
      have e387_ : g26 1100025 (g26 1100025 (g26 1046 0)) = g26 1100025 (g26 1046 0) := congrArg ((g26 1100025)) (la_stepBehind_74 h311_)
      have e388_ : g6 1100007 (g26 1100023 (g26 1046 0)) = g6 1100007 (g26 1046 0) := congrArg ((g6 1100007)) (la_stepBehind_74 h311_)
      have e389_ : g6 1100007 (g26 1100025 (g26 1046 0)) = g6 1100007 (g26 1046 0) := congrArg ((g6 1100007)) (la_stepBehind_74 h311_)
      have e390_ : g6 1100007 (g26 1100025 (g26 1046 0)) = g6 1100007 (g26 1100023 (g26 1046 0)) := congrArg ((g6 1100007)) (la_stepBehind_74 h311_)
      have e391_ : g6 1100007 (g6 1046 0) = g6 1100007 (g26 1046 0) := congrArg ((g6 1100007)) (la_stepBehind_74 h311_)
      have e392_ : g6 1100007 (g6 1046 0) = g6 1100007 (g26 1100023 (g26 1046 0)) := congrArg ((g6 1100007)) (la_stepBehind_74 h311_)
      have e393_ : g6 1100007 (g6 1046 0) = g6 1100007 (g26 1100025 (g26 1046 0)) := congrArg ((g6 1100007)) (la_stepBehind_74 h311_)
      have e394_ : g6 1100007 (g6 1100023 (g6 1046 0)) = g6 1100007 (g26 1046 0) := congrArg ((g6 1100007)) (la_stepBehind_74 h311_)
      have e395_ : g6 1100007 (g6 1100023 (g6 1046 0)) = g6 1100007 (g26 1100023 (g26 1046 0)) := congrArg ((g6 1100007)) (la_stepBehind_74 h311_)
      have e396_ : g6 1100007 (g6 1100023 (g6 1046 0)) = g6 1100007 (g26 1100025 (g26 1046 0)) := congrArg ((g6 1100007)) (la_stepBehind_74 h311_)
      have e397_ : g6 1100007 (g6 1100023 (g6 1046 0)) = g6 1100007 (g6 1046 0) := congrArg ((g6 1100007)) (la_stepBehind_74 h311_)
      have e398_ : g6 1100007 (g6 1100023 (g6 1100023 (g6 1046 0))) = g6 1100007 (g26 1046 0) := congrArg ((g6 1100007)) (la_stepBehind_74 h311_)
      have e399_ : g6 1100007 (g6 1100023 (g6 1100023 (g6 1046 0))) = g6 1100007 (g26 1100023 (g26 1046 0)) := congrArg ((g6 1100007)) (la_stepBehind_74 h311_)
      have e400_ : g6 1100007 (g6 1100023 (g6 1100023 (g6 1046 0))) = g6 1100007 (g26 1100025 (g26 1046 0)) := congrArg ((g6 1100007)) (la_stepBehind_74 h311_)
      have e401_ : g6 1100007 (g6 1100023 (g6 1100023 (g6 1046 0))) = g6 1100007 (g6 1046 0) := congrArg ((g6 1100007)) (la_stepBehind_74 h311_)
      have e402_ : g6 1100007 (g6 1100023 (g6 1100023 (g6 1046 0))) = g6 1100007 (g6 1100023 (g6 1046 0)) := congrArg ((g6 1100007)) (la_stepBehind_74 h311_)
      have e403_ : g6 1100007 (g6 1100025 (g6 1046 0)) = g6 1100007 (g26 1046 0) := congrArg ((g6 1100007)) (la_stepBehind_74 h311_)
      have e404_ : g6 1100007 (g6 1100025 (g6 1046 0)) = g6 1100007 (g26 1100023 (g26 1046 0)) := congrArg ((g6 1100007)) (la_stepBehind_74 h311_)
      have e405_ : g6 1100007 (g6 1100025 (g6 1046 0)) = g6 1100007 (g26 1100025 (g26 1046 0)) := congrArg ((g6 1100007)) (la_stepBehind_74 h311_)
      have e406_ : g6 1100007 (g6 1100025 (g6 1046 0)) = g6 1100007 (g6 1046 0) := congrArg ((g6 1100007)) (la_stepBehind_74 h311_)
      have e407_ : g6 1100007 (g6 1100025 (g6 1046 0)) = g6 1100007 (g6 1100023 (g6 1046 0)) := congrArg ((g6 1100007)) (la_stepBehind_74 h311_)
      have e408_ : g6 1100007 (g6 1100025 (g6 1046 0)) = g6 1100007 (g6 1100023 (g6 1100023 (g6 1046 0))) := congrArg ((g6 1100007)) (la_stepBehind_74 h311_)
      have e409_ : g6 1100023 (g6 1046 0) = g6 1100023 (g26 1046 0) := congrArg ((g6 1100023)) (la_stepBehind_74 h311_)
      have e410_ : g6 1100023 (g6 1100023 (g6 1046 0)) = g6 1100023 (g26 1046 0) := congrArg ((g6 1100023)) (la_stepBehind_74 h311_)
      have e411_ : g6 1100023 (g6 1100023 (g6 1046 0)) = g6 1100023 (g6 1046 0) := congrArg ((g6 1100023)) (la_stepBehind_74 h311_)
      have e412_ : g6 1100024 (g6 1046 0) = g6 1100024 (g26 1046 0) := congrArg ((g6 1100024)) (la_stepBehind_74 h311_)
      have e413_ : g6 1100025 (g6 1046 0) = g6 1100025 (g26 1046 0) := congrArg ((g6 1100025)) (la_stepBehind_74 h311_)
      have e414_ : g6 1100025 (g6 1100025 (g6 1046 0)) = g6 1100025 (g26 1046 0) := congrArg ((g6 1100025)) (la_stepBehind_74 h311_)
      have e415_ : g6 1100025 (g6 1100025 (g6 1046 0)) = g6 1100025 (g6 1046 0) := congrArg ((g6 1100025)) (la_stepBehind_74 h311_)
      have e416_ : S 1100007 (g6 1100023 (g6 1100023 (g6 1046 0))) = S 1100007 (S 1046 0) := congrArg ((S 1100007)) (la_stepBehind_74 h311_)
      have e417_ : S 1100007 (g6 1100023 (g6 1100023 (g6 1046 0))) = S 1100007 (S 1100023 (S 1046 0)) := congrArg ((S 1100007)) (la_stepBehind_74 h311_)
      have e418_ : S 1100007 (g6 1100023 (g6 1100023 (g6 1046 0))) = S 1100007 (S 1100025 (S 1046 0)) := congrArg ((S 1100007)) (la_stepBehind_74 h311_)
      have e419_ : S 1100007 (g6 1100023 (g6 1100023 (g6 1046 0))) = S 1100007 (g26 1046 0) := congrArg ((S 1100007)) (la_stepBehind_74 h311_)
      have e420_ : S 1100007 (g6 1100023 (g6 1100023 (g6 1046 0))) = S 1100007 (g26 1100023 (g26 1046 0)) := congrArg ((S 1100007)) (la_stepBehind_74 h311_)
      have e421_ : S 1100007 (g6 1100023 (g6 1100023 (g6 1046 0))) = S 1100007 (g26 1100025 (g26 1046 0)) := congrArg ((S 1100007)) (la_stepBehind_74 h311_)
      have e422_ : S 1100007 (g6 1100023 (g6 1100023 (g6 1046 0))) = S 1100007 (g6 1046 0) := congrArg ((S 1100007)) (la_stepBehind_74 h311_)
      have e423_ : S 1100007 (g6 1100023 (g6 1100023 (g6 1046 0))) = S 1100007 (g6 1100023 (g6 1046 0)) := congrArg ((S 1100007)) e411_
      have e424_ : S 1100007 (g6 1100025 (g6 1046 0)) = S 1100007 (g6 1100023 (g6 1100023 (g6 1046 0))) := congrArg ((S 1100007)) (la_stepBehind_74 h311_)
      have e425_ : S 1100023 (g26 1100023 (g26 1046 0)) = S 1100023 (S 1046 0) := congrArg ((S 1100023)) (la_stepBehind_74 h311_)
      have e426_ : S 1100023 (g26 1100023 (g26 1046 0)) = S 1100023 (g26 1046 0) := congrArg ((S 1100023)) (la_stepBehind_74 h311_)
      have e427_ : S 1100023 (g6 1046 0) = S 1100023 (g26 1100023 (g26 1046 0)) := congrArg ((S 1100023)) (la_stepBehind_74 h311_)
      have e428_ : S 1100023 (g6 1100023 (g6 1046 0)) = S 1100023 (S 1046 0) := congrArg ((S 1100023)) (la_stepBehind_74 h311_)
      have e429_ : S 1100023 (g6 1100023 (g6 1046 0)) = S 1100023 (g26 1046 0) := congrArg ((S 1100023)) (la_stepBehind_74 h311_)
      have e430_ : S 1100023 (g6 1100023 (g6 1046 0)) = S 1100023 (g26 1100023 (g26 1046 0)) := congrArg ((S 1100023)) (la_stepBehind_74 h311_)
      have e431_ : S 1100023 (g6 1100023 (g6 1046 0)) = S 1100023 (g6 1046 0) := congrArg ((S 1100023)) (la_stepBehind_74 h311_)
      have e432_ : S 1100025 (g26 1100025 (g26 1046 0)) = S 1100025 (S 1046 0) := congrArg ((S 1100025)) (la_stepBehind_74 h311_)
      have e433_ : S 1100025 (g26 1100025 (g26 1046 0)) = S 1100025 (g26 1046 0) := congrArg ((S 1100025)) (la_stepBehind_74 h311_)
      have e434_ : S 1100025 (g6 1046 0) = S 1100025 (g26 1100025 (g26 1046 0)) := congrArg ((S 1100025)) (la_stepBehind_74 h311_)
      have e435_ : S 1100025 (g6 1100025 (g6 1046 0)) = S 1100025 (S 1046 0) := congrArg ((S 1100025)) (la_stepBehind_74 h311_)
      have e436_ : S 1100025 (g6 1100025 (g6 1046 0)) = S 1100025 (g26 1046 0) := congrArg ((S 1100025)) (la_stepBehind_74 h311_)
      have e437_ : S 1100025 (g6 1100025 (g6 1046 0)) = S 1100025 (g26 1100025 (g26 1046 0)) := congrArg ((S 1100025)) (la_stepBehind_74 h311_)
      have e438_ : S 1100025 (g6 1100025 (g6 1046 0)) = S 1100025 (g6 1046 0) := congrArg ((S 1100025)) (la_stepBehind_74 h311_)
      have e439_ : g6 1100023 (g26 1100023 (g26 1046 0)) = g6 1100023 (g26 1046 0) := congrArg ((g6 1100023)) (la_stepBehind_74 h311_)
      have e440_ : g6 1100023 (g6 1046 0) = g6 1100023 (g26 1100023 (g26 1046 0)) := congrArg ((g6 1100023)) (la_stepBehind_74 h311_)
      have e441_ : g6 1100023 (g6 1100023 (g6 1046 0)) = g6 1100023 (g26 1100023 (g26 1046 0)) := congrArg ((g6 1100023)) (la_stepBehind_74 h311_)
      have e442_ : g6 1100025 (g26 1100025 (g26 1046 0)) = g6 1100025 (g26 1046 0) := congrArg ((g6 1100025)) (la_stepBehind_74 h311_)
      have e443_ : g6 1100025 (g6 1046 0) = g6 1100025 (g26 1100025 (g26 1046 0)) := congrArg ((g6 1100025)) (la_stepBehind_74 h311_)
      have e444_ : g6 1100025 (g6 1100025 (g6 1046 0)) = g6 1100025 (g26 1100025 (g26 1046 0)) := congrArg ((g6 1100025)) (la_stepBehind_74 h311_)
      exact ((la_stepBehind_76 h311_)).elim
    refine ⟨(la_stepBehind_77 h45_ h86_ h92_), ?_⟩
    intro g34
    rintro ⟨h445_, ⟨h446_, ⟨h447_, ⟨h448_, ⟨h449_, ⟨h450_, ⟨h451_, ⟨h452_, ⟨h453_, ⟨h454_, ⟨h455_, ⟨h456_, ⟨h457_, ⟨h458_, ⟨h459_, ⟨h460_, h461_⟩⟩⟩⟩⟩⟩⟩⟩⟩⟩⟩⟩⟩⟩⟩⟩
    refine ⟨(la_stepBehind_78 h9_ h23_ h24_), ?_⟩
    intro h462_
    refine ⟨?_, ?_⟩
    · skip
      intro h463_
      have e464_ : (if S 11 p2 = 2 then 2 else 4 : Int) = 4 := if_neg h463_
      have h465_ := (h26_.resolve_left h463_)
      have h466_ := (h63_ h463_)
      obtain ⟨h467_, ⟨h468_, ⟨h469_, h470_⟩⟩⟩ := (h58_ h465_)
      refine ⟨?_, ?_⟩
      · skip
        refine ⟨(la_stepBehind_21 h447_), ?_⟩
        refine ⟨h450_, ?_⟩
        refine ⟨h445_, ?_⟩
        refine ⟨h446_, ?_⟩
        intro h471_
        have h472_ : ¬ (g26 1047 0 = 1) := fun q_ => (la_stepBehind_3 h471_) (h451_ q_)
        obtain ⟨h473_, ⟨h474_, ⟨h475_, ⟨h476_, ⟨h477_, ⟨h478_, ⟨h479_, ⟨h480_, ⟨h481_, ⟨h482_, ⟨h483_, ⟨h484_, ⟨h485_, h486_⟩⟩⟩⟩⟩⟩⟩⟩⟩⟩⟩⟩⟩ := (h461_ h471_)
        have h487_ : ¬ (g6 1047 0 = 1) := fun q_ => h472_ (h265_ q_)
        have h488_ := (h486_ la_stepBehind_85)
        obtain ⟨h489_, ⟨h490_, ⟨h491_, ⟨h492_, ⟨h493_, ⟨h494_, ⟨h495_, ⟨h496_, ⟨h497_, ⟨h498_, ⟨h499_, ⟨h500_, ⟨h501_, h502_⟩⟩⟩⟩⟩⟩⟩⟩⟩⟩⟩⟩⟩ := (h275_ h473_)
        have h503_ := (h488_ la_stepBehind_87)
        have h504_ := (h502_ la_stepBehind_56)
        obtain ⟨h505_, ⟨h506_, ⟨h507_, ⟨h508_, ⟨h509_, ⟨h510_, ⟨h511_, ⟨h512_, ⟨h513_, ⟨h514_, ⟨h515_, ⟨h516_, ⟨h517_, ⟨h518_, ⟨h519_, ⟨h520_, -⟩⟩⟩⟩⟩⟩⟩⟩⟩⟩⟩⟩⟩⟩⟩⟩ := (h91_ h489_)
        have h521_ := (h504_ la_stepBehind_58)
        refine ⟨h475_, ?_⟩
        refine ⟨la_stepBehind_88, ?_⟩
        refine ⟨la_stepBehind_89, ?_⟩
        refine ⟨(sm_ci_11 (la_stepBehind_90 (sm_KC_n h29_).2.1.1 h33_ h34_ e464_ h479_ (sm_dl_14 : sm_dl 14 p1 = (-1)) h480_ (sm_nt_14 : sm_nt 14 (g26 1046 0) (g26 1100023 (g26 1046 0)) (g26 1100023 (g26 1100023 (g26 1046 0))) = g26 1100023 (g26 1046 0)) h482_ (sm_nl_14 : sm_nl 14 (g26 1046 0) (g26 1100007 (g26 1046 0)) (g26 1100025 (g26 1046 0)) (g26 1100007 (g26 1100025 (g26 1046 0))) (g26 1100025 (g26 1100025 (g26 1046 0))) = g26 1100025 (g26 1046 0)) h483_ (sm_nt_14 : sm_nt 14 (g26 1100007 (g26 1046 0)) (g26 1100007 (g26 1100023 (g26 1046 0))) (g26 1100007 (g26 1100023 (g26 1100023 (g26 1046 0)))) = g26 1100007 (g26 1100023 (g26 1046 0))) h495_ (sm_dl_0 : sm_dl 0 5 = 1) h496_ (sm_nt_0 : sm_nt 0 (g6 1046 0) (g6 1100023 (g6 1046 0)) (g6 1100023 (g6 1100023 (g6 1046 0))) = g6 1100023 (g6 1046 0)) h498_ (sm_nl_0 : sm_nl 0 (g6 1046 0) (g6 1100007 (g6 1046 0)) (g6 1100025 (g6 1046 0)) (g6 1100007 (g6 1100025 (g6 1046 0))) (g6 1100025 (g6 1100025 (g6 1046 0))) = g6 1100025 (g6 1046 0)) h499_ (sm_nt_0 : sm_nt 0 (g6 1100007 (g6 1046 0)) (g6 1100007 (g6 1100023 (g6 1046 0))) (g6 1100007 (g6 1100023 (g6 1100023 (g6 1046 0)))) = g6 1100007 (g6 1100023 (g6 1046 0))) h503_ h512_ h513_ h515_ h516_ h517_ h521_ (sm_dl_11 : sm_dl 11 0 = (-2)) (sm_nt_11 : sm_nt 11 (g34 1046 0) (g34 1100023 (g34 1046 0)) (g34 1100023 (g34 1100023 (g34 1046 0))) = g34 1100023 (g34 1046 0)) (sm_nl_11 : sm_nl 11 (g34 1046 0) (g34 1100007 (g34 1046 0)) (g34 1100025 (g34 1046 0)) (g34 1100007 (g34 1100025 (g34 1046 0))) (g34 1100025 (g34 1100025 (g34 1046 0))) = g34 1100025 (g34 1046 0)))), ?_⟩
        refine ⟨la_stepBehind_91, ?_⟩
        intro h522_
        have h523_ := (h522_.resolve_left la_stepBehind_92)
        have h524_ := (h59_ (sm_nm_i (la_stepBehind_93 h523_) (la_stepBehind_94 h523_) (la_stepBehind_95 h523_)))
        obtain ⟨h525_, h526_⟩ := (h524_ h5_)
        have h527_ := (h33_ (la_stepBehind_98 h523_))
        have h528_ := (h34_ (la_stepBehind_98 h523_))
        have e529_ : S 1100001 (S 12 (5 * p2 + 1)) = S 1100001 (S 12 (5 * p2)) := congrArg ((S 1100001)) (la_stepBehind_99 h523_)
        have e530_ : S 1100001 p2 = S 1100001 (S 12 (5 * p2)) := congrArg ((S 1100001)) (la_stepBehind_99 h523_)
        have e531_ : S 1100001 p2 = S 1100001 (S 12 (5 * p2 + 1)) := congrArg ((S 1100001)) (la_stepBehind_99 h523_)
        have e532_ : S 1100002 (S 12 (5 * p2 + 1)) = S 1100002 (S 12 (5 * p2)) := congrArg ((S 1100002)) (la_stepBehind_99 h523_)
        have e533_ : S 1100002 p2 = S 1100002 (S 12 (5 * p2)) := congrArg ((S 1100002)) (la_stepBehind_99 h523_)
        have e534_ : S 1100002 p2 = S 1100002 (S 12 (5 * p2 + 1)) := congrArg ((S 1100002)) (la_stepBehind_99 h523_)
        have e535_ : S 1100005 (S 12 (5 * p2 + 1)) = S 1100005 (S 12 (5 * p2)) := congrArg ((S 1100005)) (la_stepBehind_99 h523_)
        have e536_ : S 1100005 p2 = S 1100005 (S 12 (5 * p2)) := congrArg ((S 1100005)) (la_stepBehind_99 h523_)
        have e537_ : S 1100005 p2 = S 1100005 (S 12 (5 * p2 + 1)) := congrArg ((S 1100005)) (la_stepBehind_99 h523_)
        have e538_ : S 1100007 (S 1100023 (S 1046 0)) = S 1100007 (S 1046 0) := congrArg ((S 1100007)) (la_stepBehind_99 h523_)
        have e539_ : S 1100007 (S 1100025 (S 1046 0)) = S 1100007 (S 1046 0) := congrArg ((S 1100007)) (la_stepBehind_99 h523_)
        have e540_ : S 1100007 (S 1100025 (S 1046 0)) = S 1100007 (S 1100023 (S 1046 0)) := congrArg ((S 1100007)) (la_stepBehind_99 h523_)
        have e541_ : S 1100007 (g26 1046 0) = S 1100007 (S 1046 0) := congrArg ((S 1100007)) (la_stepBehind_99 h523_)
        have e542_ : S 1100007 (g26 1046 0) = S 1100007 (S 1100023 (S 1046 0)) := congrArg ((S 1100007)) (la_stepBehind_99 h523_)
        have e543_ : S 1100007 (g26 1046 0) = S 1100007 (S 1100025 (S 1046 0)) := congrArg ((S 1100007)) (la_stepBehind_99 h523_)
        have e544_ : S 1100007 (g26 1100023 (g26 1046 0)) = S 1100007 (S 1046 0) := congrArg ((S 1100007)) (la_stepBehind_99 h523_)
        have e545_ : S 1100007 (g26 1100023 (g26 1046 0)) = S 1100007 (S 1100023 (S 1046 0)) := congrArg ((S 1100007)) (la_stepBehind_99 h523_)
        have e546_ : S 1100007 (g26 1100023 (g26 1046 0)) = S 1100007 (S 1100025 (S 1046 0)) := congrArg ((S 1100007)) (la_stepBehind_99 h523_)
        have e547_ : S 1100007 (g26 1100023 (g26 1046 0)) = S 1100007 (g26 1046 0) := congrArg ((S 1100007)) (la_stepBehind_99 h523_)
        have e548_ : S 1100007 (g26 1100025 (g26 1046 0)) = S 1100007 (S 1046 0) := congrArg ((S 1100007)) (la_stepBehind_99 h523_)
        have e549_ : S 1100007 (g26 1100025 (g26 1046 0)) = S 1100007 (S 1100023 (S 1046 0)) := congrArg ((S 1100007)) (la_stepBehind_99 h523_)
        have e550_ : S 1100007 (g26 1100025 (g26 1046 0)) = S 1100007 (S 1100025 (S 1046 0)) := congrArg ((S 1100007)) (la_stepBehind_99 h523_)
        have e551_ : S 1100007 (g26 1100025 (g26 1046 0)) = S 1100007 (g26 1046 0) := congrArg ((S 1100007)) (la_stepBehind_99 h523_)
        have e552_ : S 1100007 (g26 1100025 (g26 1046 0)) = S 1100007 (g26 1100023 (g26 1046 0)) := congrArg ((S 1100007)) (la_stepBehind_99 h523_)
        have e553_ : S 1100007 (g34 1046 0) = S 1100007 (S 1046 0) := congrArg ((S 1100007)) (la_stepBehind_99 h523_)
        have e554_ : S 1100007 (g34 1046 0) = S 1100007 (S 1100023 (S 1046 0)) := congrArg ((S 1100007)) (la_stepBehind_99 h523_)
        have e555_ : S 1100007 (g34 1046 0) = S 1100007 (S 1100025 (S 1046 0)) := congrArg ((S 1100007)) (la_stepBehind_99 h523_)
        have e556_ : S 1100007 (g34 1046 0) = S 1100007 (g26 1046 0) := congrArg ((S 1100007)) (la_stepBehind_99 h523_)
        have e557_ : S 1100007 (g34 1046 0) = S 1100007 (g26 1100023 (g26 1046 0)) := congrArg ((S 1100007)) (la_stepBehind_99 h523_)
        have e558_ : S 1100007 (g34 1046 0) = S 1100007 (g26 1100025 (g26 1046 0)) := congrArg ((S 1100007)) (la_stepBehind_99 h523_)
        have e559_ : S 1100007 (g34 1100023 (g34 1046 0)) = S 1100007 (S 1046 0) := congrArg ((S 1100007)) (la_stepBehind_99 h523_)
        have e560_ : S 1100007 (g34 1100023 (g34 1046 0)) = S 1100007 (S 1100023 (S 1046 0)) := congrArg ((S 1100007)) (la_stepBehind_99 h523_)
        have e561_ : S 1100007 (g34 1100023 (g34 1046 0)) = S 1100007 (S 1100025 (S 1046 0)) := congrArg ((S 1100007)) (la_stepBehind_99 h523_)
        have e562_ : S 1100007 (g34 1100023 (g34 1046 0)) = S 1100007 (g26 1046 0) := congrArg ((S 1100007)) (la_stepBehind_99 h523_)
        have e563_ : S 1100007 (g34 1100023 (g34 1046 0)) = S 1100007 (g26 1100023 (g26 1046 0)) := congrArg ((S 1100007)) (la_stepBehind_99 h523_)
        have e564_ : S 1100007 (g34 1100023 (g34 1046 0)) = S 1100007 (g26 1100025 (g26 1046 0)) := congrArg ((S 1100007)) (la_stepBehind_99 h523_)
        have e565_ : S 1100007 (g34 1100023 (g34 1046 0)) = S 1100007 (g34 1046 0) := congrArg ((S 1100007)) (la_stepBehind_99 h523_)
        have e566_ : S 1100007 (g34 1100025 (g34 1046 0)) = S 1100007 (S 1046 0) := congrArg ((S 1100007)) (la_stepBehind_99 h523_)
        have e567_ : S 1100007 (g34 1100025 (g34 1046 0)) = S 1100007 (S 1100023 (S 1046 0)) := congrArg ((S 1100007)) (la_stepBehind_99 h523_)
        have e568_ : S 1100007 (g34 1100025 (g34 1046 0)) = S 1100007 (S 1100025 (S 1046 0)) := congrArg ((S 1100007)) (la_stepBehind_99 h523_)
        have e569_ : S 1100007 (g34 1100025 (g34 1046 0)) = S 1100007 (g26 1046 0) := congrArg ((S 1100007)) (la_stepBehind_99 h523_)
        have e570_ : S 1100007 (g34 1100025 (g34 1046 0)) = S 1100007 (g26 1100023 (g26 1046 0)) := congrArg ((S 1100007)) (la_stepBehind_99 h523_)
        have e571_ : S 1100007 (g34 1100025 (g34 1046 0)) = S 1100007 (g26 1100025 (g26 1046 0)) := congrArg ((S 1100007)) (la_stepBehind_99 h523_)
        have e572_ : S 1100007 (g34 1100025 (g34 1046 0)) = S 1100007 (g34 1046 0) := congrArg ((S 1100007)) (la_stepBehind_99 h523_)
        have e573_ : S 1100007 (g34 1100025 (g34 1046 0)) = S 1100007 (g34 1100023 (g34 1046 0)) := congrArg ((S 1100007)) (la_stepBehind_99 h523_)
        have e574_ : S 1100007 (g6 1046 0) = S 1100007 (S 1046 0) := congrArg ((S 1100007)) (la_stepBehind_99 h523_)
        have e575_ : S 1100007 (g6 1046 0) = S 1100007 (S 1100023 (S 1046 0)) := congrArg ((S 1100007)) (la_stepBehind_99 h523_)
        have e576_ : S 1100007 (g6 1046 0) = S 1100007 (S 1100025 (S 1046 0)) := congrArg ((S 1100007)) (la_stepBehind_99 h523_)
        have e577_ : S 1100007 (g6 1046 0) = S 1100007 (g26 1046 0) := congrArg ((S 1100007)) (la_stepBehind_99 h523_)
        have e578_ : S 1100007 (g6 1046 0) = S 1100007 (g26 1100023 (g26 1046 0)) := congrArg ((S 1100007)) (la_stepBehind_99 h523_)
        have e579_ : S 1100007 (g6 1046 0) = S 1100007 (g26 1100025 (g26 1046 0)) := congrArg ((S 1100007)) (la_stepBehind_99 h523_)
        have e580_ : S 1100007 (g6 1046 0) = S 1100007 (g34 1046 0) := congrArg ((S 1100007)) (la_stepBehind_99 h523_)
        have e581_ : S 1100007 (g6 1046 0) = S 1100007 (g34 1100023 (g34 1046 0)) := congrArg ((S 1100007)) (la_stepBehind_99 h523_)
        have e582_ : S 1100007 (g6 1046 0) = S 1100007 (g34 1100025 (g34 1046 0)) := congrArg ((S 1100007)) (la_stepBehind_99 h523_)
        have e583_ : S 1100007 (g6 1100023 (g6 1046 0)) = S 1100007 (S 1046 0) := congrArg ((S 1100007)) (la_stepBehind_99 h523_)
        have e584_ : S 1100007 (g6 1100023 (g6 1046 0)) = S 1100007 (S 1100023 (S 1046 0)) := congrArg ((S 1100007)) h513_
        have e585_ : S 1100007 (g6 1100023 (g6 1046 0)) = S 1100007 (S 1100025 (S 1046 0)) := congrArg ((S 1100007)) (la_stepBehind_99 h523_)
        have e586_ : S 1100007 (g6 1100023 (g6 1046 0)) = S 1100007 (g26 1046 0) := congrArg ((S 1100007)) (la_stepBehind_99 h523_)
        have e587_ : S 1100007 (g6 1100023 (g6 1046 0)) = S 1100007 (g26 1100023 (g26 1046 0)) := congrArg ((S 1100007)) (la_stepBehind_99 h523_)
        have e588_ : S 1100007 (g6 1100023 (g6 1046 0)) = S 1100007 (g26 1100025 (g26 1046 0)) := congrArg ((S 1100007)) (la_stepBehind_99 h523_)
        have e589_ : S 1100007 (g6 1100023 (g6 1046 0)) = S 1100007 (g34 1046 0) := congrArg ((S 1100007)) (la_stepBehind_99 h523_)
        have e590_ : S 1100007 (g6 1100023 (g6 1046 0)) = S 1100007 (g34 1100023 (g34 1046 0)) := congrArg ((S 1100007)) (la_stepBehind_99 h523_)
        have e591_ : S 1100007 (g6 1100023 (g6 1046 0)) = S 1100007 (g34 1100025 (g34 1046 0)) := congrArg ((S 1100007)) (la_stepBehind_99 h523_)
        have e592_ : S 1100007 (g6 1100023 (g6 1046 0)) = S 1100007 (g6 1046 0) := congrArg ((S 1100007)) (la_stepBehind_99 h523_)
        have e593_ : S 1100007 (g6 1100025 (g6 1046 0)) = S 1100007 (S 1046 0) := congrArg ((S 1100007)) (la_stepBehind_99 h523_)
        have e594_ : S 1100007 (g6 1100025 (g6 1046 0)) = S 1100007 (S 1100023 (S 1046 0)) := congrArg ((S 1100007)) (la_stepBehind_99 h523_)
        have e595_ : S 1100007 (g6 1100025 (g6 1046 0)) = S 1100007 (S 1100025 (S 1046 0)) := congrArg ((S 1100007)) h515_
        have e596_ : S 1100007 (g6 1100025 (g6 1046 0)) = S 1100007 (g26 1046 0) := congrArg ((S 1100007)) (la_stepBehind_99 h523_)
        have e597_ : S 1100007 (g6 1100025 (g6 1046 0)) = S 1100007 (g26 1100023 (g26 1046 0)) := congrArg ((S 1100007)) (la_stepBehind_99 h523_)
        have e598_ : S 1100007 (g6 1100025 (g6 1046 0)) = S 1100007 (g26 1100025 (g26 1046 0)) := congrArg ((S 1100007)) (la_stepBehind_99 h523_)
        have e599_ : S 1100007 (g6 1100025 (g6 1046 0)) = S 1100007 (g34 1046 0) := congrArg ((S 1100007)) (la_stepBehind_99 h523_)
        have e600_ : S 1100007 (g6 1100025 (g6 1046 0)) = S 1100007 (g34 1100023 (g34 1046 0)) := congrArg ((S 1100007)) (la_stepBehind_99 h523_)
        have e601_ : S 1100007 (g6 1100025 (g6 1046 0)) = S 1100007 (g34 1100025 (g34 1046 0)) := congrArg ((S 1100007)) (la_stepBehind_99 h523_)
        have e602_ : S 1100007 (g6 1100025 (g6 1046 0)) = S 1100007 (g6 1046 0) := congrArg ((S 1100007)) (la_stepBehind_99 h523_)
        have e603_ : S 1100007 (g6 1100025 (g6 1046 0)) = S 1100007 (g6 1100023 (g6 1046 0)) := congrArg ((S 1100007)) (la_stepBehind_99 h523_)
        have e604_ : S 1100023 (g26 1046 0) = S 1100023 (S 1046 0) := congrArg ((S 1100023)) (la_stepBehind_99 h523_)
        have e605_ : S 1100023 (g34 1046 0) = S 1100023 (S 1046 0) := congrArg ((S 1100023)) (la_stepBehind_99 h523_)
        have e606_ : S 1100023 (g34 1046 0) = S 1100023 (g26 1046 0) := congrArg ((S 1100023)) (la_stepBehind_99 h523_)
        have e607_ : S 1100023 (g6 1046 0) = S 1100023 (S 1046 0) := congrArg ((S 1100023)) (la_stepBehind_99 h523_)
        have e608_ : S 1100023 (g6 1046 0) = S 1100023 (g26 1046 0) := congrArg ((S 1100023)) (la_stepBehind_99 h523_)
        have e609_ : S 1100023 (g6 1046 0) = S 1100023 (g34 1046 0) := congrArg ((S 1100023)) (la_stepBehind_99 h523_)
        have e610_ : S 1100024 (g26 1046 0) = S 1100024 (S 1046 0) := congrArg ((S 1100024)) (la_stepBehind_99 h523_)
        have e611_ : S 1100024 (g34 1046 0) = S 1100024 (S 1046 0) := congrArg ((S 1100024)) (la_stepBehind_99 h523_)
        have e612_ : S 1100024 (g34 1046 0) = S 1100024 (g26 1046 0) := congrArg ((S 1100024)) (la_stepBehind_99 h523_)
        have e613_ : S 1100024 (g6 1046 0) = S 1100024 (S 1046 0) := congrArg ((S 1100024)) (la_stepBehind_99 h523_)
        have e614_ : S 1100024 (g6 1046 0) = S 1100024 (g26 1046 0) := congrArg ((S 1100024)) (la_stepBehind_99 h523_)
        have e615_ : S 1100024 (g6 1046 0) = S 1100024 (g34 1046 0) := congrArg ((S 1100024)) (la_stepBehind_99 h523_)
        have e616_ : S 1100025 (g26 1046 0) = S 1100025 (S 1046 0) := congrArg ((S 1100025)) (la_stepBehind_99 h523_)
        have e617_ : S 1100025 (g34 1046 0) = S 1100025 (S 1046 0) := congrArg ((S 1100025)) (la_stepBehind_99 h523_)
        have e618_ : S 1100025 (g34 1046 0) = S 1100025 (g26 1046 0) := congrArg ((S 1100025)) (la_stepBehind_99 h523_)
        have e619_ : S 1100025 (g6 1046 0) = S 1100025 (S 1046 0) := congrArg ((S 1100025)) (la_stepBehind_99 h523_)
        have e620_ : S 1100025 (g6 1046 0) = S 1100025 (g26 1046 0) := congrArg ((S 1100025)) (la_stepBehind_99 h523_)
        have e621_ : S 1100025 (g6 1046 0) = S 1100025 (g34 1046 0) := congrArg ((S 1100025)) (la_stepBehind_99 h523_)
        have e622_ : S 12 (5 * p2 + 1) = S 12 (5 * p2) := congrArg ((S 12)) (la_stepBehind_100 h523_)
        have e623_ : S 26 (g6 1046 0) = S 26 (g26 1046 0) := congrArg ((S 26)) (la_stepBehind_99 h523_)
        have e624_ : S 29 (g6 1046 0) = S 29 (g26 1046 0) := congrArg ((S 29)) (la_stepBehind_99 h523_)
        have e625_ : g26 1100007 (g26 1100023 (g26 1046 0)) = g26 1100007 (g26 1046 0) := congrArg ((g26 1100007)) (la_stepBehind_99 h523_)
        have e626_ : g26 1100007 (g26 1100023 (g26 1100023 (g26 1046 0))) = g26 1100007 (g26 1046 0) := congrArg ((g26 1100007)) (la_stepBehind_99 h523_)
        have e627_ : g26 1100007 (g26 1100023 (g26 1100023 (g26 1046 0))) = g26 1100007 (g26 1100023 (g26 1046 0)) := congrArg ((g26 1100007)) (la_stepBehind_99 h523_)
        have e628_ : g26 1100007 (g26 1100025 (g26 1046 0)) = g26 1100007 (g26 1046 0) := congrArg ((g26 1100007)) (la_stepBehind_99 h523_)
        have e629_ : g26 1100007 (g26 1100025 (g26 1046 0)) = g26 1100007 (g26 1100023 (g26 1046 0)) := congrArg ((g26 1100007)) (la_stepBehind_99 h523_)
        have e630_ : g26 1100007 (g26 1100025 (g26 1046 0)) = g26 1100007 (g26 1100023 (g26 1100023 (g26 1046 0))) := congrArg ((g26 1100007)) (la_stepBehind_99 h523_)
        have e631_ : g26 1100007 (g34 1046 0) = g26 1100007 (g26 1046 0) := congrArg ((g26 1100007)) (la_stepBehind_99 h523_)
        have e632_ : g26 1100007 (g34 1046 0) = g26 1100007 (g26 1100023 (g26 1046 0)) := congrArg ((g26 1100007)) (la_stepBehind_99 h523_)
        have e633_ : g26 1100007 (g34 1046 0) = g26 1100007 (g26 1100023 (g26 1100023 (g26 1046 0))) := congrArg ((g26 1100007)) (la_stepBehind_99 h523_)
        have e634_ : g26 1100007 (g34 1046 0) = g26 1100007 (g26 1100025 (g26 1046 0)) := congrArg ((g26 1100007)) (la_stepBehind_99 h523_)
        have e635_ : g26 1100007 (g34 1100023 (g34 1046 0)) = g26 1100007 (g26 1046 0) := congrArg ((g26 1100007)) (la_stepBehind_99 h523_)
        have e636_ : g26 1100007 (g34 1100023 (g34 1046 0)) = g26 1100007 (g26 1100023 (g26 1046 0)) := congrArg ((g26 1100007)) (la_stepBehind_99 h523_)
        have e637_ : g26 1100007 (g34 1100023 (g34 1046 0)) = g26 1100007 (g26 1100023 (g26 1100023 (g26 1046 0))) := congrArg ((g26 1100007)) (la_stepBehind_99 h523_)
        have e638_ : g26 1100007 (g34 1100023 (g34 1046 0)) = g26 1100007 (g26 1100025 (g26 1046 0)) := congrArg ((g26 1100007)) (la_stepBehind_99 h523_)
        have e639_ : g26 1100007 (g34 1100023 (g34 1046 0)) = g26 1100007 (g34 1046 0) := congrArg ((g26 1100007)) (la_stepBehind_99 h523_)
        have e640_ : g26 1100007 (g34 1100025 (g34 1046 0)) = g26 1100007 (g26 1046 0) := congrArg ((g26 1100007)) (la_stepBehind_99 h523_)
        have e641_ : g26 1100007 (g34 1100025 (g34 1046 0)) = g26 1100007 (g26 1100023 (g26 1046 0)) := congrArg ((g26 1100007)) (la_stepBehind_99 h523_)
        have e642_ : g26 1100007 (g34 1100025 (g34 1046 0)) = g26 1100007 (g26 1100023 (g26 1100023 (g26 1046 0))) := congrArg ((g26 1100007)) (la_stepBehind_99 h523_)
        have e643_ : g26 1100007 (g34 1100025 (g34 1046 0)) = g26 1100007 (g26 1100025 (g26 1046 0)) := congrArg ((g26 1100007)) (la_stepBehind_99 h523_)
        have e644_ : g26 1100007 (g34 1100025 (g34 1046 0)) = g26 1100007 (g34 1046 0) := congrArg ((g26 1100007)) (la_stepBehind_99 h523_)
        have e645_ : g26 1100007 (g34 1100025 (g34 1046 0)) = g26 1100007 (g34 1100023 (g34 1046 0)) := congrArg ((g26 1100007)) (la_stepBehind_99 h523_)
        have e646_ : g26 1100023 (g26 1100023 (g26 1046 0)) = g26 1100023 (g26 1046 0) := congrArg ((g26 1100023)) (la_stepBehind_99 h523_)
        have e647_ : g26 1100023 (g34 1046 0) = g26 1100023 (g26 1046 0) := congrArg ((g26 1100023)) (la_stepBehind_99 h523_)
        have e648_ : g26 1100023 (g34 1046 0) = g26 1100023 (g26 1100023 (g26 1046 0)) := congrArg ((g26 1100023)) (la_stepBehind_99 h523_)
        have e649_ : g26 1100024 (g34 1046 0) = g26 1100024 (g26 1046 0) := congrArg ((g26 1100024)) (la_stepBehind_99 h523_)
        have e650_ : g26 1100025 (g26 1100025 (g26 1046 0)) = g26 1100025 (g26 1046 0) := congrArg ((g26 1100025)) (la_stepBehind_99 h523_)
        have e651_ : g26 1100025 (g34 1046 0) = g26 1100025 (g26 1046 0) := congrArg ((g26 1100025)) (la_stepBehind_99 h523_)
        have e652_ : g26 1100025 (g34 1046 0) = g26 1100025 (g26 1100025 (g26 1046 0)) := congrArg ((g26 1100025)) (la_stepBehind_99 h523_)
        have e653_ : g26 26 (g6 1046 0) = g26 26 (g26 1046 0) := congrArg ((g26 26)) (la_stepBehind_99 h523_)
        have e654_ : g26 29 (g6 1046 0) = g26 29 (g26 1046 0) := congrArg ((g26 29)) (la_stepBehind_99 h523_)
        have e655_ : g34 1100007 (g34 1100023 (g34 1046 0)) = g34 1100007 (g34 1046 0) := congrArg ((g34 1100007)) (la_stepBehind_99 h523_)
        have e656_ : g34 1100007 (g34 1100025 (g34 1046 0)) = g34 1100007 (g34 1046 0) := congrArg ((g34 1100007)) (la_stepBehind_99 h523_)
        have e657_ : g34 1100007 (g34 1100025 (g34 1046 0)) = g34 1100007 (g34 1100023 (g34 1046 0)) := congrArg ((g34 1100007)) (la_stepBehind_99 h523_)
        have e658_ : g34 1100023 (g34 1100023 (g34 1046 0)) = g34 1100023 (g34 1046 0) := congrArg ((g34 1100023)) (la_stepBehind_99 h523_)
        have e659_ : g34 1100025 (g34 1100025 (g34 1046 0)) = g34 1100025 (g34 1046 0) := congrArg ((g34 1100025)) (la_stepBehind_99 h523_)
        have e660_ : g6 1100007 (g26 1100023 (g26 1046 0)) = g6 1100007 (g26 1046 0) := congrArg ((g6 1100007)) (la_stepBehind_99 h523_)
        have e661_ : g6 1100007 (g26 1100025 (g26 1046 0)) = g6 1100007 (g26 1046 0) := congrArg ((g6 1100007)) (la_stepBehind_99 h523_)
        have e662_ : g6 1100007 (g26 1100025 (g26 1046 0)) = g6 1100007 (g26 1100023 (g26 1046 0)) := congrArg ((g6 1100007)) (la_stepBehind_99 h523_)
        have e663_ : g6 1100007 (g34 1046 0) = g6 1100007 (g26 1046 0) := congrArg ((g6 1100007)) (la_stepBehind_99 h523_)
        have e664_ : g6 1100007 (g34 1046 0) = g6 1100007 (g26 1100023 (g26 1046 0)) := congrArg ((g6 1100007)) (la_stepBehind_99 h523_)
        have e665_ : g6 1100007 (g34 1046 0) = g6 1100007 (g26 1100025 (g26 1046 0)) := congrArg ((g6 1100007)) (la_stepBehind_99 h523_)
        have e666_ : g6 1100007 (g34 1100023 (g34 1046 0)) = g6 1100007 (g26 1046 0) := congrArg ((g6 1100007)) (la_stepBehind_99 h523_)
        have e667_ : g6 1100007 (g34 1100023 (g34 1046 0)) = g6 1100007 (g26 1100023 (g26 1046 0)) := congrArg ((g6 1100007)) (la_stepBehind_99 h523_)
        have e668_ : g6 1100007 (g34 1100023 (g34 1046 0)) = g6 1100007 (g26 1100025 (g26 1046 0)) := congrArg ((g6 1100007)) (la_stepBehind_99 h523_)
        have e669_ : g6 1100007 (g34 1100023 (g34 1046 0)) = g6 1100007 (g34 1046 0) := congrArg ((g6 1100007)) (la_stepBehind_99 h523_)
        have e670_ : g6 1100007 (g34 1100025 (g34 1046 0)) = g6 1100007 (g26 1046 0) := congrArg ((g6 1100007)) (la_stepBehind_99 h523_)
        have e671_ : g6 1100007 (g34 1100025 (g34 1046 0)) = g6 1100007 (g26 1100023 (g26 1046 0)) := congrArg ((g6 1100007)) (la_stepBehind_99 h523_)
        have e672_ : g6 1100007 (g34 1100025 (g34 1046 0)) = g6 1100007 (g26 1100025 (g26 1046 0)) := congrArg ((g6 1100007)) (la_stepBehind_99 h523_)
        have e673_ : g6 1100007 (g34 1100025 (g34 1046 0)) = g6 1100007 (g34 1046 0) := congrArg ((g6 1100007)) (la_stepBehind_99 h523_)
        have e674_ : g6 1100007 (g34 1100025 (g34 1046 0)) = g6 1100007 (g34 1100023 (g34 1046 0)) := congrArg ((g6 1100007)) (la_stepBehind_99 h523_)
        have e675_ : g6 1100007 (g6 1046 0) = g6 1100007 (g26 1046 0) := congrArg ((g6 1100007)) (la_stepBehind_99 h523_)
        have e676_ : g6 1100007 (g6 1046 0) = g6 1100007 (g26 1100023 (g26 1046 0)) := congrArg ((g6 1100007)) (la_stepBehind_99 h523_)
        have e677_ : g6 1100007 (g6 1046 0) = g6 1100007 (g26 1100025 (g26 1046 0)) := congrArg ((g6 1100007)) (la_stepBehind_99 h523_)
        have e678_ : g6 1100007 (g6 1046 0) = g6 1100007 (g34 1046 0) := congrArg ((g6 1100007)) (la_stepBehind_99 h523_)
        have e679_ : g6 1100007 (g6 1046 0) = g6 1100007 (g34 1100023 (g34 1046 0)) := congrArg ((g6 1100007)) (la_stepBehind_99 h523_)
        have e680_ : g6 1100007 (g6 1046 0) = g6 1100007 (g34 1100025 (g34 1046 0)) := congrArg ((g6 1100007)) (la_stepBehind_99 h523_)
        have e681_ : g6 1100007 (g6 1100023 (g6 1046 0)) = g6 1100007 (g26 1046 0) := congrArg ((g6 1100007)) (la_stepBehind_99 h523_)
        have e682_ : g6 1100007 (g6 1100023 (g6 1046 0)) = g6 1100007 (g26 1100023 (g26 1046 0)) := congrArg ((g6 1100007)) (la_stepBehind_99 h523_)
        have e683_ : g6 1100007 (g6 1100023 (g6 1046 0)) = g6 1100007 (g26 1100025 (g26 1046 0)) := congrArg ((g6 1100007)) (la_stepBehind_99 h523_)
        have e684_ : g6 1100007 (g6 1100023 (g6 1046 0)) = g6 1100007 (g34 1046 0) := congrArg ((g6 1100007)) (la_stepBehind_99 h523_)
        have e685_ : g6 1100007 (g6 1100023 (g6 1046 0)) = g6 1100007 (g34 1100023 (g34 1046 0)) := congrArg ((g6 1100007)) (la_stepBehind_99 h523_)
        have e686_ : g6 1100007 (g6 1100023 (g6 1046 0)) = g6 1100007 (g34 1100025 (g34 1046 0)) := congrArg ((g6 1100007)) (la_stepBehind_99 h523_)
        have e687_ : g6 1100007 (g6 1100023 (g6 1046 0)) = g6 1100007 (g6 1046 0) := congrArg ((g6 1100007)) (la_stepBehind_99 h523_)
        have e688_ : g6 1100007 (g6 1100023 (g6 1100023 (g6 1046 0))) = g6 1100007 (g26 1046 0) := congrArg ((g6 1100007)) (la_stepBehind_99 h523_)
        have e689_ : g6 1100007 (g6 1100023 (g6 1100023 (g6 1046 0))) = g6 1100007 (g26 1100023 (g26 1046 0)) := congrArg ((g6 1100007)) (la_stepBehind_99 h523_)
        have e690_ : g6 1100007 (g6 1100023 (g6 1100023 (g6 1046 0))) = g6 1100007 (g26 1100025 (g26 1046 0)) := congrArg ((g6 1100007)) (la_stepBehind_99 h523_)
        have e691_ : g6 1100007 (g6 1100023 (g6 1100023 (g6 1046 0))) = g6 1100007 (g34 1046 0) := congrArg ((g6 1100007)) (la_stepBehind_99 h523_)
        have e692_ : g6 1100007 (g6 1100023 (g6 1100023 (g6 1046 0))) = g6 1100007 (g34 1100023 (g34 1046 0)) := congrArg ((g6 1100007)) (la_stepBehind_99 h523_)
        have e693_ : g6 1100007 (g6 1100023 (g6 1100023 (g6 1046 0))) = g6 1100007 (g34 1100025 (g34 1046 0)) := congrArg ((g6 1100007)) (la_stepBehind_99 h523_)
        have e694_ : g6 1100007 (g6 1100023 (g6 1100023 (g6 1046 0))) = g6 1100007 (g6 1046 0) := congrArg ((g6 1100007)) (la_stepBehind_99 h523_)
        have e695_ : g6 1100007 (g6 1100023 (g6 1100023 (g6 1046 0))) = g6 1100007 (g6 1100023 (g6 1046 0)) := congrArg ((g6 1100007)) (la_stepBehind_99 h523_)
        have e696_ : g6 1100007 (g6 1100025 (g6 1046 0)) = g6 1100007 (g26 1046 0) := congrArg ((g6 1100007)) (la_stepBehind_99 h523_)
        have e697_ : g6 1100007 (g6 1100025 (g6 1046 0)) = g6 1100007 (g26 1100023 (g26 1046 0)) := congrArg ((g6 1100007)) (la_stepBehind_99 h523_)
        have e698_ : g6 1100007 (g6 1100025 (g6 1046 0)) = g6 1100007 (g26 1100025 (g26 1046 0)) := congrArg ((g6 1100007)) (la_stepBehind_99 h523_)
        have e699_ : g6 1100007 (g6 1100025 (g6 1046 0)) = g6 1100007 (g34 1046 0) := congrArg ((g6 1100007)) (la_stepBehind_99 h523_)
        have e700_ : g6 1100007 (g6 1100025 (g6 1046 0)) = g6 1100007 (g34 1100023 (g34 1046 0)) := congrArg ((g6 1100007)) (la_stepBehind_99 h523_)
        have e701_ : g6 1100007 (g6 1100025 (g6 1046 0)) = g6 1100007 (g34 1100025 (g34 1046 0)) := congrArg ((g6 1100007)) (la_stepBehind_99 h523_)
        have e702_ : g6 1100007 (g6 1100025 (g6 1046 0)) = g6 1100007 (g6 1046 0) := congrArg ((g6 1100007)) (la_stepBehind_99 h523_)
        have e703_ : g6 1100007 (g6 1100025 (g6 1046 0)) = g6 1100007 (g6 1100023 (g6 1046 0)) := congrArg ((g6 1100007)) (la_stepBehind_99 h523_)
        have e704_ : g6 1100007 (g6 1100025 (g6 1046 0)) = g6 1100007 (g6 1100023 (g6 1100023 (g6 1046 0))) := congrArg ((g6 1100007)) (la_stepBehind_99 h523_)
        have e705_ : g6 1100023 (g34 1046 0) = g6 1100023 (g26 1046 0) := congrArg ((g6 1100023)) (la_stepBehind_99 h523_)
        have e706_ : g6 1100023 (g6 1046 0) = g6 1100023 (g26 1046 0) := congrArg ((g6 1100023)) (la_stepBehind_99 h523_)
        have e707_ : g6 1100023 (g6 1046 0) = g6 1100023 (g34 1046 0) := congrArg ((g6 1100023)) (la_stepBehind_99 h523_)
        have e708_ : g6 1100023 (g6 1100023 (g6 1046 0)) = g6 1100023 (g26 1046 0) := congrArg ((g6 1100023)) (la_stepBehind_99 h523_)
        have e709_ : g6 1100023 (g6 1100023 (g6 1046 0)) = g6 1100023 (g34 1046 0) := congrArg ((g6 1100023)) (la_stepBehind_99 h523_)
        have e710_ : g6 1100023 (g6 1100023 (g6 1046 0)) = g6 1100023 (g6 1046 0) := congrArg ((g6 1100023)) (la_stepBehind_99 h523_)
        have e711_ : g6 1100024 (g34 1046 0) = g6 1100024 (g26 1046 0) := congrArg ((g6 1100024)) (la_stepBehind_99 h523_)
        have e712_ : g6 1100024 (g6 1046 0) = g6 1100024 (g26 1046 0) := congrArg ((g6 1100024)) (la_stepBehind_99 h523_)
        have e713_ : g6 1100024 (g6 1046 0) = g6 1100024 (g34 1046 0) := congrArg ((g6 1100024)) (la_stepBehind_99 h523_)
        have e714_ : g6 1100025 (g34 1046 0) = g6 1100025 (g26 1046 0) := congrArg ((g6 1100025)) (la_stepBehind_99 h523_)
        have e715_ : g6 1100025 (g6 1046 0) = g6 1100025 (g26 1046 0) := congrArg ((g6 1100025)) (la_stepBehind_99 h523_)
        have e716_ : g6 1100025 (g6 1046 0) = g6 1100025 (g34 1046 0) := congrArg ((g6 1100025)) (la_stepBehind_99 h523_)
        have e717_ : g6 1100025 (g6 1100025 (g6 1046 0)) = g6 1100025 (g26 1046 0) := congrArg ((g6 1100025)) (la_stepBehind_99 h523_)
        have e718_ : g6 1100025 (g6 1100025 (g6 1046 0)) = g6 1100025 (g34 1046 0) := congrArg ((g6 1100025)) (la_stepBehind_99 h523_)
        have e719_ : g6 1100025 (g6 1100025 (g6 1046 0)) = g6 1100025 (g6 1046 0) := congrArg ((g6 1100025)) (la_stepBehind_99 h523_)
        have e720_ : g6 26 (g6 1046 0) = g6 26 (g26 1046 0) := congrArg ((g6 26)) (la_stepBehind_99 h523_)
        have e721_ : g6 29 (g6 1046 0) = g6 29 (g26 1046 0) := congrArg ((g6 29)) (la_stepBehind_99 h523_)
        have e722_ : S 1100007 (g26 1100023 (g26 1100023 (g26 1046 0))) = S 1100007 (S 1046 0) := congrArg ((S 1100007)) (la_stepBehind_99 h523_)
        have e723_ : S 1100007 (g26 1100023 (g26 1100023 (g26 1046 0))) = S 1100007 (S 1100023 (S 1046 0)) := congrArg ((S 1100007)) (la_stepBehind_99 h523_)
        have e724_ : S 1100007 (g26 1100023 (g26 1100023 (g26 1046 0))) = S 1100007 (S 1100025 (S 1046 0)) := congrArg ((S 1100007)) (la_stepBehind_99 h523_)
        have e725_ : S 1100007 (g26 1100023 (g26 1100023 (g26 1046 0))) = S 1100007 (g26 1046 0) := congrArg ((S 1100007)) (la_stepBehind_99 h523_)
        have e726_ : S 1100007 (g26 1100023 (g26 1100023 (g26 1046 0))) = S 1100007 (g26 1100023 (g26 1046 0)) := congrArg ((S 1100007)) e646_
        have e727_ : S 1100007 (g26 1100025 (g26 1046 0)) = S 1100007 (g26 1100023 (g26 1100023 (g26 1046 0))) := congrArg ((S 1100007)) (la_stepBehind_99 h523_)
        have e728_ : S 1100007 (g34 1046 0) = S 1100007 (g26 1100023 (g26 1100023 (g26 1046 0))) := congrArg ((S 1100007)) (la_stepBehind_99 h523_)
        have e729_ : S 1100007 (g34 1100023 (g34 1046 0)) = S 1100007 (g26 1100023 (g26 1100023 (g26 1046 0))) := congrArg ((S 1100007)) (la_stepBehind_99 h523_)
        have e730_ : S 1100007 (g34 1100025 (g34 1046 0)) = S 1100007 (g26 1100023 (g26 1100023 (g26 1046 0))) := congrArg ((S 1100007)) (la_stepBehind_99 h523_)
        have e731_ : S 1100007 (g6 1046 0) = S 1100007 (g26 1100023 (g26 1100023 (g26 1046 0))) := congrArg ((S 1100007)) (la_stepBehind_99 h523_)
        have e732_ : S 1100007 (g6 1100023 (g6 1046 0)) = S 1100007 (g26 1100023 (g26 1100023 (g26 1046 0))) := congrArg ((S 1100007)) (la_stepBehind_99 h523_)
        have e733_ : S 1100007 (g6 1100023 (g6 1100023 (g6 1046 0))) = S 1100007 (S 1046 0) := congrArg ((S 1100007)) (la_stepBehind_99 h523_)
        have e734_ : S 1100007 (g6 1100023 (g6 1100023 (g6 1046 0))) = S 1100007 (S 1100023 (S 1046 0)) := congrArg ((S 1100007)) (la_stepBehind_99 h523_)
        have e735_ : S 1100007 (g6 1100023 (g6 1100023 (g6 1046 0))) = S 1100007 (S 1100025 (S 1046 0)) := congrArg ((S 1100007)) (la_stepBehind_99 h523_)
        have e736_ : S 1100007 (g6 1100023 (g6 1100023 (g6 1046 0))) = S 1100007 (g26 1046 0) := congrArg ((S 1100007)) (la_stepBehind_99 h523_)
        have e737_ : S 1100007 (g6 1100023 (g6 1100023 (g6 1046 0))) = S 1100007 (g26 1100023 (g26 1046 0)) := congrArg ((S 1100007)) (la_stepBehind_99 h523_)
        have e738_ : S 1100007 (g6 1100023 (g6 1100023 (g6 1046 0))) = S 1100007 (g26 1100023 (g26 1100023 (g26 1046 0))) := congrArg ((S 1100007)) (la_stepBehind_99 h523_)
        have e739_ : S 1100007 (g6 1100023 (g6 1100023 (g6 1046 0))) = S 1100007 (g26 1100025 (g26 1046 0)) := congrArg ((S 1100007)) (la_stepBehind_99 h523_)
        have e740_ : S 1100007 (g6 1100023 (g6 1100023 (g6 1046 0))) = S 1100007 (g34 1046 0) := congrArg ((S 1100007)) (la_stepBehind_99 h523_)
        have e741_ : S 1100007 (g6 1100023 (g6 1100023 (g6 1046 0))) = S 1100007 (g34 1100023 (g34 1046 0)) := congrArg ((S 1100007)) (la_stepBehind_99 h523_)
        have e742_ : S 1100007 (g6 1100023 (g6 1100023 (g6 1046 0))) = S 1100007 (g34 1100025 (g34 1046 0)) := congrArg ((S 1100007)) (la_stepBehind_99 h523_)
        have e743_ : S 1100007 (g6 1100023 (g6 1100023 (g6 1046 0))) = S 1100007 (g6 1046 0) := congrArg ((S 1100007)) (la_stepBehind_99 h523_)
        have e744_ : S 1100007 (g6 1100023 (g6 1100023 (g6 1046 0))) = S 1100007 (g6 1100023 (g6 1046 0)) := congrArg ((S 1100007)) e710_
        have e745_ : S 1100007 (g6 1100025 (g6 1046 0)) = S 1100007 (g26 1100023 (g26 1100023 (g26 1046 0))) := congrArg ((S 1100007)) (la_stepBehind_99 h523_)
        have e746_ : S 1100007 (g6 1100025 (g6 1046 0)) = S 1100007 (g6 1100023 (g6 1100023 (g6 1046 0))) := congrArg ((S 1100007)) (la_stepBehind_99 h523_)
        have e747_ : S 1100023 (g26 1100023 (g26 1046 0)) = S 1100023 (S 1046 0) := congrArg ((S 1100023)) (la_stepBehind_99 h523_)
        have e748_ : S 1100023 (g26 1100023 (g26 1046 0)) = S 1100023 (g26 1046 0) := congrArg ((S 1100023)) (la_stepBehind_99 h523_)
        have e749_ : S 1100023 (g34 1046 0) = S 1100023 (g26 1100023 (g26 1046 0)) := congrArg ((S 1100023)) (la_stepBehind_99 h523_)
        have e750_ : S 1100023 (g34 1100023 (g34 1046 0)) = S 1100023 (S 1046 0) := congrArg ((S 1100023)) (la_stepBehind_99 h523_)
        have e751_ : S 1100023 (g34 1100023 (g34 1046 0)) = S 1100023 (g26 1046 0) := congrArg ((S 1100023)) (la_stepBehind_99 h523_)
        have e752_ : S 1100023 (g34 1100023 (g34 1046 0)) = S 1100023 (g26 1100023 (g26 1046 0)) := congrArg ((S 1100023)) (la_stepBehind_99 h523_)
        have e753_ : S 1100023 (g34 1100023 (g34 1046 0)) = S 1100023 (g34 1046 0) := congrArg ((S 1100023)) (la_stepBehind_99 h523_)
        have e754_ : S 1100023 (g6 1046 0) = S 1100023 (g26 1100023 (g26 1046 0)) := congrArg ((S 1100023)) (la_stepBehind_99 h523_)
        have e755_ : S 1100023 (g6 1046 0) = S 1100023 (g34 1100023 (g34 1046 0)) := congrArg ((S 1100023)) (la_stepBehind_99 h523_)
        have e756_ : S 1100023 (g6 1100023 (g6 1046 0)) = S 1100023 (S 1046 0) := congrArg ((S 1100023)) (la_stepBehind_99 h523_)
        have e757_ : S 1100023 (g6 1100023 (g6 1046 0)) = S 1100023 (g26 1046 0) := congrArg ((S 1100023)) (la_stepBehind_99 h523_)
        have e758_ : S 1100023 (g6 1100023 (g6 1046 0)) = S 1100023 (g26 1100023 (g26 1046 0)) := congrArg ((S 1100023)) (la_stepBehind_99 h523_)
        have e759_ : S 1100023 (g6 1100023 (g6 1046 0)) = S 1100023 (g34 1046 0) := congrArg ((S 1100023)) (la_stepBehind_99 h523_)
        have e760_ : S 1100023 (g6 1100023 (g6 1046 0)) = S 1100023 (g34 1100023 (g34 1046 0)) := congrArg ((S 1100023)) (la_stepBehind_99 h523_)
        have e761_ : S 1100023 (g6 1100023 (g6 1046 0)) = S 1100023 (g6 1046 0) := congrArg ((S 1100023)) (la_stepBehind_99 h523_)
        have e762_ : S 1100025 (g26 1100025 (g26 1046 0)) = S 1100025 (S 1046 0) := congrArg ((S 1100025)) (la_stepBehind_99 h523_)
        have e763_ : S 1100025 (g26 1100025 (g26 1046 0)) = S 1100025 (g26 1046 0) := congrArg ((S 1100025)) (la_stepBehind_99 h523_)
        have e764_ : S 1100025 (g34 1046 0) = S 1100025 (g26 1100025 (g26 1046 0)) := congrArg ((S 1100025)) (la_stepBehind_99 h523_)
        have e765_ : S 1100025 (g34 1100025 (g34 1046 0)) = S 1100025 (S 1046 0) := congrArg ((S 1100025)) (la_stepBehind_99 h523_)
        have e766_ : S 1100025 (g34 1100025 (g34 1046 0)) = S 1100025 (g26 1046 0) := congrArg ((S 1100025)) (la_stepBehind_99 h523_)
        have e767_ : S 1100025 (g34 1100025 (g34 1046 0)) = S 1100025 (g26 1100025 (g26 1046 0)) := congrArg ((S 1100025)) (la_stepBehind_99 h523_)
        have e768_ : S 1100025 (g34 1100025 (g34 1046 0)) = S 1100025 (g34 1046 0) := congrArg ((S 1100025)) (la_stepBehind_99 h523_)
        have e769_ : S 1100025 (g6 1046 0) = S 1100025 (g26 1100025 (g26 1046 0)) := congrArg ((S 1100025)) (la_stepBehind_99 h523_)
        have e770_ : S 1100025 (g6 1046 0) = S 1100025 (g34 1100025 (g34 1046 0)) := congrArg ((S 1100025)) (la_stepBehind_99 h523_)
        have e771_ : S 1100025 (g6 1100025 (g6 1046 0)) = S 1100025 (S 1046 0) := congrArg ((S 1100025)) (la_stepBehind_99 h523_)
        have e772_ : S 1100025 (g6 1100025 (g6 1046 0)) = S 1100025 (g26 1046 0) := congrArg ((S 1100025)) (la_stepBehind_99 h523_)
        have e773_ : S 1100025 (g6 1100025 (g6 1046 0)) = S 1100025 (g26 1100025 (g26 1046 0)) := congrArg ((S 1100025)) (la_stepBehind_99 h523_)
        have e774_ : S 1100025 (g6 1100025 (g6 1046 0)) = S 1100025 (g34 1046 0) := congrArg ((S 1100025)) (la_stepBehind_99 h523_)
        have e775_ : S 1100025 (g6 1100025 (g6 1046 0)) = S 1100025 (g34 1100025 (g34 1046 0)) := congrArg ((S 1100025)) (la_stepBehind_99 h523_)
        have e776_ : S 1100025 (g6 1100025 (g6 1046 0)) = S 1100025 (g6 1046 0) := congrArg ((S 1100025)) (la_stepBehind_99 h523_)
        have e777_ : g26 1100023 (g34 1100023 (g34 1046 0)) = g26 1100023 (g26 1046 0) := congrArg ((g26 1100023)) (la_stepBehind_99 h523_)
        have e778_ : g26 1100023 (g34 1100023 (g34 1046 0)) = g26 1100023 (g26 1100023 (g26 1046 0)) := congrArg ((g26 1100023)) (la_stepBehind_99 h523_)
        have e779_ : g26 1100023 (g34 1100023 (g34 1046 0)) = g26 1100023 (g34 1046 0) := congrArg ((g26 1100023)) (la_stepBehind_99 h523_)
        have e780_ : g26 1100025 (g34 1100025 (g34 1046 0)) = g26 1100025 (g26 1046 0) := congrArg ((g26 1100025)) (la_stepBehind_99 h523_)
        have e781_ : g26 1100025 (g34 1100025 (g34 1046 0)) = g26 1100025 (g26 1100025 (g26 1046 0)) := congrArg ((g26 1100025)) (la_stepBehind_99 h523_)
        have e782_ : g26 1100025 (g34 1100025 (g34 1046 0)) = g26 1100025 (g34 1046 0) := congrArg ((g26 1100025)) (la_stepBehind_99 h523_)
        have e783_ : g6 1100007 (g26 1100023 (g26 1100023 (g26 1046 0))) = g6 1100007 (g26 1046 0) := congrArg ((g6 1100007)) (la_stepBehind_99 h523_)
        have e784_ : g6 1100007 (g26 1100023 (g26 1100023 (g26 1046 0))) = g6 1100007 (g26 1100023 (g26 1046 0)) := congrArg ((g6 1100007)) e646_
        have e785_ : g6 1100007 (g26 1100025 (g26 1046 0)) = g6 1100007 (g26 1100023 (g26 1100023 (g26 1046 0))) := congrArg ((g6 1100007)) (la_stepBehind_99 h523_)
        have e786_ : g6 1100007 (g34 1046 0) = g6 1100007 (g26 1100023 (g26 1100023 (g26 1046 0))) := congrArg ((g6 1100007)) (la_stepBehind_99 h523_)
        have e787_ : g6 1100007 (g34 1100023 (g34 1046 0)) = g6 1100007 (g26 1100023 (g26 1100023 (g26 1046 0))) := congrArg ((g6 1100007)) (la_stepBehind_99 h523_)
        have e788_ : g6 1100007 (g34 1100025 (g34 1046 0)) = g6 1100007 (g26 1100023 (g26 1100023 (g26 1046 0))) := congrArg ((g6 1100007)) (la_stepBehind_99 h523_)
        have e789_ : g6 1100007 (g6 1046 0) = g6 1100007 (g26 1100023 (g26 1100023 (g26 1046 0))) := congrArg ((g6 1100007)) (la_stepBehind_99 h523_)
        have e790_ : g6 1100007 (g6 1100023 (g6 1046 0)) = g6 1100007 (g26 1100023 (g26 1100023 (g26 1046 0))) := congrArg ((g6 1100007)) (la_stepBehind_99 h523_)
        have e791_ : g6 1100007 (g6 1100023 (g6 1100023 (g6 1046 0))) = g6 1100007 (g26 1100023 (g26 1100023 (g26 1046 0))) := congrArg ((g6 1100007)) (la_stepBehind_99 h523_)
        have e792_ : g6 1100007 (g6 1100025 (g6 1046 0)) = g6 1100007 (g26 1100023 (g26 1100023 (g26 1046 0))) := congrArg ((g6 1100007)) (la_stepBehind_99 h523_)
        have e793_ : g6 1100023 (g26 1100023 (g26 1046 0)) = g6 1100023 (g26 1046 0) := congrArg ((g6 1100023)) (la_stepBehind_99 h523_)
        have e794_ : g6 1100023 (g34 1046 0) = g6 1100023 (g26 1100023 (g26 1046 0)) := congrArg ((g6 1100023)) (la_stepBehind_99 h523_)
        have e795_ : g6 1100023 (g34 1100023 (g34 1046 0)) = g6 1100023 (g26 1046 0) := congrArg ((g6 1100023)) (la_stepBehind_99 h523_)
        have e796_ : g6 1100023 (g34 1100023 (g34 1046 0)) = g6 1100023 (g26 1100023 (g26 1046 0)) := congrArg ((g6 1100023)) (la_stepBehind_99 h523_)
        have e797_ : g6 1100023 (g34 1100023 (g34 1046 0)) = g6 1100023 (g34 1046 0) := congrArg ((g6 1100023)) (la_stepBehind_99 h523_)
        have e798_ : g6 1100023 (g6 1046 0) = g6 1100023 (g26 1100023 (g26 1046 0)) := congrArg ((g6 1100023)) (la_stepBehind_99 h523_)
        have e799_ : g6 1100023 (g6 1046 0) = g6 1100023 (g34 1100023 (g34 1046 0)) := congrArg ((g6 1100023)) (la_stepBehind_99 h523_)
        have e800_ : g6 1100023 (g6 1100023 (g6 1046 0)) = g6 1100023 (g26 1100023 (g26 1046 0)) := congrArg ((g6 1100023)) (la_stepBehind_99 h523_)
        have e801_ : g6 1100023 (g6 1100023 (g6 1046 0)) = g6 1100023 (g34 1100023 (g34 1046 0)) := congrArg ((g6 1100023)) (la_stepBehind_99 h523_)
        have e802_ : g6 1100025 (g26 1100025 (g26 1046 0)) = g6 1100025 (g26 1046 0) := congrArg ((g6 1100025)) (la_stepBehind_99 h523_)
        have e803_ : g6 1100025 (g34 1046 0) = g6 1100025 (g26 1100025 (g26 1046 0)) := congrArg ((g6 1100025)) (la_stepBehind_99 h523_)
        have e804_ : g6 1100025 (g34 1100025 (g34 1046 0)) = g6 1100025 (g26 1046 0) := congrArg ((g6 1100025)) (la_stepBehind_99 h523_)
        have e805_ : g6 1100025 (g34 1100025 (g34 1046 0)) = g6 1100025 (g26 1100025 (g26 1046 0)) := congrArg ((g6 1100025)) (la_stepBehind_99 h523_)
        have e806_ : g6 1100025 (g34 1100025 (g34 1046 0)) = g6 1100025 (g34 1046 0) := congrArg ((g6 1100025)) (la_stepBehind_99 h523_)
        have e807_ : g6 1100025 (g6 1046 0) = g6 1100025 (g26 1100025 (g26 1046 0)) := congrArg ((g6 1100025)) (la_stepBehind_99 h523_)
        have e808_ : g6 1100025 (g6 1046 0) = g6 1100025 (g34 1100025 (g34 1046 0)) := congrArg ((g6 1100025)) (la_stepBehind_99 h523_)
        have e809_ : g6 1100025 (g6 1100025 (g6 1046 0)) = g6 1100025 (g26 1100025 (g26 1046 0)) := congrArg ((g6 1100025)) (la_stepBehind_99 h523_)
        have e810_ : g6 1100025 (g6 1100025 (g6 1046 0)) = g6 1100025 (g34 1100025 (g34 1046 0)) := congrArg ((g6 1100025)) (la_stepBehind_99 h523_)
        exact ((la_stepBehind_101 h523_)).elim
      intro g43
      rintro ⟨h811_, ⟨h812_, ⟨h813_, ⟨h814_, ⟨h815_, ⟨h816_, ⟨h817_, ⟨h818_, ⟨h819_, ⟨h820_, ⟨h821_, ⟨h822_, ⟨h823_, ⟨h824_, ⟨h825_, ⟨h826_, h827_⟩⟩⟩⟩⟩⟩⟩⟩⟩⟩⟩⟩⟩⟩⟩⟩
      refine ⟨(la_stepBehind_21 h813_), ?_⟩
      refine ⟨h816_, ?_⟩
      refine ⟨h811_, ?_⟩
      refine ⟨h812_, ?_⟩
      refine ⟨h68_, ?_⟩
      refine ⟨h69_, ?_⟩
      refine ⟨(la_stepBehind_102 h70_ h262_ h448_ h814_), ?_⟩
      refine ⟨(la_stepBehind_23 h28_ h812_), ?_⟩
      refine ⟨(sm_F1_tr (sm_F1_tr (sm_F1_tr (sm_F1_le h72_ (Int.le_refl _)) h267_ h70_) h453_ (la_stepBehind_22 h70_ h262_)) h819_ (la_stepBehind_103 h70_ h262_ h448_)), ?_⟩
      refine ⟨(sm_F1_tr (sm_F1_tr (sm_F1_tr (sm_F1_le h73_ (Int.le_refl _)) h268_ h70_) h454_ (la_stepBehind_22 h70_ h262_)) h820_ (la_stepBehind_103 h70_ h262_ h448_)), ?_⟩
      refine ⟨(sm_F1_tr (sm_F1_tr (sm_F1_tr (sm_F1_le h74_ (Int.le_refl _)) h269_ h70_) h455_ (la_stepBehind_22 h70_ h262_)) h821_ (la_stepBehind_103 h70_ h262_ h448_)), ?_⟩
      refine ⟨(sm_F1_tr (sm_F1_tr (sm_F1_tr (sm_F1_le h75_ (Int.le_refl _)) h270_ h70_) h456_ (la_stepBehind_22 h70_ h262_)) h822_ (la_stepBehind_103 h70_ h262_ h448_)), ?_⟩
      refine ⟨(sm_F1_tr (sm_F1_tr (sm_F1_tr (sm_F1_le h76_ (Int.le_refl _)) h271_ (la_stepBehind_24 h70_)) h457_ (la_stepBehind_105 h70_ h262_)) h823_ (la_stepBehind_104 h70_ h262_ h448_)), ?_⟩
      refine ⟨(sm_F1_tr (sm_F1_tr (sm_F1_tr (sm_F1_le h77_ (Int.le_refl _)) h272_ (la_stepBehind_24 h70_)) h458_ (la_stepBehind_105 h70_ h262_)) h824_ (la_stepBehind_104 h70_ h262_ h448_)), ?_⟩
      refine ⟨(sm_F1_tr (sm_F1_tr (sm_F1_tr (sm_F1_le h78_ (Int.le_refl _)) h273_ (la_stepBehind_24 h70_)) h459_ (la_stepBehind_105 h70_ h262_)) h825_ (la_stepBehind_104 h70_ h262_ h448_)), ?_⟩
      refine ⟨(sm_F1_tr (sm_F1_tr (sm_F1_tr (sm_F1_le h79_ (Int.le_refl _)) h274_ (la_stepBehind_24 h70_)) h460_ (la_stepBehind_105 h70_ h262_)) h826_ (la_stepBehind_104 h70_ h262_ h448_)), ?_⟩
      refine ⟨h80_, ?_⟩
      refine ⟨h81_, ?_⟩
      refine ⟨h82_, ?_⟩
      refine ⟨h83_, ?_⟩
      refine ⟨h84_, ?_⟩
      refine ⟨h85_, ?_⟩
      refine ⟨h86_, ?_⟩
      refine ⟨h87_, ?_⟩
      refine ⟨h88_, ?_⟩
      refine ⟨h89_, ?_⟩
      refine ⟨h90_, ?_⟩
      intro h828_
      have h829_ : ¬ (g34 1047 0 = 1) := fun q_ => (la_stepBehind_3 h828_) (h817_ q_)
      obtain ⟨h830_, ⟨h831_, ⟨h832_, ⟨h833_, ⟨h834_, ⟨h835_, ⟨h836_, ⟨h837_, ⟨h838_, ⟨h839_, ⟨h840_, ⟨h841_, ⟨h842_, h843_⟩⟩⟩⟩⟩⟩⟩⟩⟩⟩⟩⟩⟩ := (h827_ h828_)
      have h844_ : ¬ (g26 1047 0 = 1) := fun q_ => h829_ (h451_ q_)
      have h845_ := (h843_ la_stepBehind_106)
      obtain ⟨h846_, ⟨h847_, ⟨h848_, ⟨h849_, ⟨h850_, ⟨h851_, ⟨h852_, ⟨h853_, ⟨h854_, ⟨h855_, ⟨h856_, ⟨h857_, ⟨h858_, h859_⟩⟩⟩⟩⟩⟩⟩⟩⟩⟩⟩⟩⟩ := (h461_ h830_)
      have h860_ : ¬ (g6 1047 0 = 1) := fun q_ => h844_ (h265_ q_)
      have h861_ := (h845_ la_stepBehind_108)
      have h862_ := (h859_ la_stepBehind_85)
      obtain ⟨h863_, ⟨h864_, ⟨h865_, ⟨h866_, ⟨h867_, ⟨h868_, ⟨h869_, ⟨h870_, ⟨h871_, ⟨h872_, ⟨h873_, ⟨h874_, ⟨h875_, h876_⟩⟩⟩⟩⟩⟩⟩⟩⟩⟩⟩⟩⟩ := (h275_ h846_)
      have h877_ := (h862_ la_stepBehind_87)
      have h878_ := (h876_ la_stepBehind_56)
      obtain ⟨h879_, ⟨h880_, ⟨h881_, ⟨h882_, ⟨h883_, ⟨h884_, ⟨h885_, ⟨h886_, ⟨h887_, ⟨h888_, ⟨h889_, ⟨h890_, ⟨h891_, ⟨h892_, ⟨h893_, ⟨h894_, -⟩⟩⟩⟩⟩⟩⟩⟩⟩⟩⟩⟩⟩⟩⟩⟩ := (h91_ h863_)
      have h895_ := (h878_ la_stepBehind_58)
      refine ⟨h28_, ?_⟩
      refine ⟨h832_, ?_⟩
      refine ⟨h881_, ?_⟩
      refine ⟨h882_, ?_⟩
      refine ⟨(la_stepBehind_109 h831_ h847_ h864_ h883_), ?_⟩
      refine ⟨(la_stepBehind_110 e464_ h831_ h847_ h864_ h884_), ?_⟩
      refine ⟨(sm_FC_s (sm_FC_F h885_ (sm_F1_tr (sm_F1_tr (sm_F1_le h270_ (Int.le_refl _)) h456_ h262_) h822_ (la_stepBehind_114 h847_ h864_)) (Int.le_refl _) (Int.le_refl _) (Int.le_refl _) rfl) (sm_FC_1 (((sm_F1_at h822_ (g6 1046 0) (la_stepBehind_115 h847_ h864_)).trans ((sm_F1_at h456_ (g6 1046 0) (la_stepBehind_116 h864_)).trans rfl)).trans h868_) (sm_FC_1 (((sm_F1_at h822_ (g6 1046 0 + 1) (la_stepBehind_117 h847_ h864_)).trans ((congrArg (g34 29) (la_stepBehind_118 h263_ h864_)).trans h851_)).trans rfl) (sm_FC_1 (((congrArg (g43 29) (la_stepBehind_119 h263_ h449_ h847_ h864_)).trans h835_).trans rfl) (sm_FC_0 (la_stepBehind_120 h263_ h449_ h815_)))))), ?_⟩
      refine ⟨(la_stepBehind_121 h61_ e464_ h836_ (sm_dl_11 : sm_dl 11 0 = (-2)) h852_ (sm_dl_14 : sm_dl 14 p1 = (-1)) h869_ (sm_dl_0 : sm_dl 0 5 = 1) h886_), ?_⟩
      refine ⟨(la_stepBehind_122 h837_ (sm_nt_11 : sm_nt 11 (g34 1046 0) (g34 1100023 (g34 1046 0)) (g34 1100023 (g34 1100023 (g34 1046 0))) = g34 1100023 (g34 1046 0)) h853_ (sm_nt_14 : sm_nt 14 (g26 1046 0) (g26 1100023 (g26 1046 0)) (g26 1100023 (g26 1100023 (g26 1046 0))) = g26 1100023 (g26 1046 0)) h870_ (sm_nt_0 : sm_nt 0 (g6 1046 0) (g6 1100023 (g6 1046 0)) (g6 1100023 (g6 1100023 (g6 1046 0))) = g6 1100023 (g6 1046 0)) h887_), ?_⟩
      refine ⟨(la_stepBehind_122 h838_ (sm_nd_11 : sm_nd 11 (g34 1100024 (g34 1046 0)) = g34 1100024 (g34 1046 0)) h854_ (sm_nd_14 : sm_nd 14 (g26 1100024 (g26 1046 0)) = g26 1100024 (g26 1046 0)) h871_ (sm_nd_0 : sm_nd 0 (g6 1100024 (g6 1046 0)) = g6 1100024 (g6 1046 0)) h888_), ?_⟩
      refine ⟨(la_stepBehind_122 h839_ (sm_nl_11 : sm_nl 11 (g34 1046 0) (g34 1100007 (g34 1046 0)) (g34 1100025 (g34 1046 0)) (g34 1100007 (g34 1100025 (g34 1046 0))) (g34 1100025 (g34 1100025 (g34 1046 0))) = g34 1100025 (g34 1046 0)) h855_ (sm_nl_14 : sm_nl 14 (g26 1046 0) (g26 1100007 (g26 1046 0)) (g26 1100025 (g26 1046 0)) (g26 1100007 (g26 1100025 (g26 1046 0))) (g26 1100025 (g26 1100025 (g26 1046 0))) = g26 1100025 (g26 1046 0)) h872_ (sm_nl_0 : sm_nl 0 (g6 1046 0) (g6 1100007 (g6 1046 0)) (g6 1100025 (g6 1046 0)) (g6 1100007 (g6 1100025 (g6 1046 0))) (g6 1100025 (g6 1100025 (g6 1046 0))) = g6 1100025 (g6 1046 0)) h889_), ?_⟩
      refine ⟨(la_stepBehind_122 h840_ (sm_nt_11 : sm_nt 11 (g34 1100007 (g34 1046 0)) (g34 1100007 (g34 1100023 (g34 1046 0))) (g34 1100007 (g34 1100023 (g34 1100023 (g34 1046 0)))) = g34 1100007 (g34 1100023 (g34 1046 0))) h856_ (sm_nt_14 : sm_nt 14 (g26 1100007 (g26 1046 0)) (g26 1100007 (g26 1100023 (g26 1046 0))) (g26 1100007 (g26 1100023 (g26 1100023 (g26 1046 0)))) = g26 1100007 (g26 1100023 (g26 1046 0))) h873_ (sm_nt_0 : sm_nt 0 (g6 1100007 (g6 1046 0)) (g6 1100007 (g6 1100023 (g6 1046 0))) (g6 1100007 (g6 1100023 (g6 1100023 (g6 1046 0)))) = g6 1100007 (g6 1100023 (g6 1046 0))) h890_), ?_⟩
      refine ⟨(la_stepBehind_123 h861_ h877_ h891_ h895_), ?_⟩
      refine ⟨h892_, ?_⟩
      refine ⟨(sm_HB_1 (by rw [((sm_F1_at h823_ (S 1046 0) (la_stepBehind_124 e464_ h847_ h864_ h884_)).trans ((sm_F1_at h457_ (S 1046 0) (la_stepBehind_125 e464_ h864_ h884_)).trans ((sm_F1_at h271_ (S 1046 0) (la_stepBehind_126 e464_ h884_)).trans ((sm_F1_at h76_ (S 1046 0) la_stepBehind_42).trans rfl))))]; exact (la_stepBehind_127 h48_ e464_ h831_ h847_ h864_ h884_)) (sm_HB_s (sm_HB_F h893_ (sm_F1_tr (sm_F1_tr (sm_F1_le h271_ la_stepBehind_45) h457_ (la_stepBehind_134 h864_)) h823_ (la_stepBehind_133 h847_ h864_)) (Int.le_refl _) la_stepBehind_45 (Int.le_refl _) (la_stepBehind_132 h831_ h847_ h864_)) (sm_HB_1 (by rw [((sm_F1_at h823_ (g6 1046 0) (la_stepBehind_135 h847_ h864_)).trans ((sm_F1_at h457_ (g6 1046 0) (la_stepBehind_136 h864_)).trans ((sm_F1_at h271_ (g6 1046 0) la_stepBehind_42).trans rfl)))]; exact (la_stepBehind_137 h48_ h61_ h831_ h847_ h864_ h884_ h886_)) (sm_HB_1 (by rw [((sm_F1_at h823_ (g6 1046 0 + 1) (la_stepBehind_138 h847_ h864_)).trans ((sm_F1_at h457_ (g6 1046 0 + 1) (la_stepBehind_139 h864_)).trans ((congrArg (g26 1100007) (la_stepBehind_118 h263_ h864_)).trans h869_)))]; exact (la_stepBehind_140 h48_ h61_ h831_ h847_ h864_ (sm_dl_0 : sm_dl 0 5 = 1) h884_ h886_)) (sm_HB_1 (by rw [((sm_F1_at h823_ (g6 1046 0 + 1 + 1) (la_stepBehind_141 h847_ h864_)).trans ((congrArg (g34 1100007) (la_stepBehind_119 h263_ h449_ h847_ h864_)).trans h852_))]; exact (la_stepBehind_142 h48_ h61_ h831_ h847_ (sm_dl_14 : sm_dl 14 p1 = (-1)) h864_ h869_ (sm_dl_0 : sm_dl 0 5 = 1) h884_ h886_)) (sm_HB_0 (la_stepBehind_120 h263_ h449_ h815_))))))), ?_⟩
      refine ⟨(la_stepBehind_143 h831_ h847_ h864_ h894_), ?_⟩
      exact trivial
    intro h896_
    have e897_ : (if S 11 p2 = 2 then 2 else 4 : Int) = 2 := if_pos (la_stepBehind_144 h896_)
    have h898_ := (h26_.resolve_right (la_stepBehind_145 h896_))
    have h899_ := (h62_ h898_)
    have h900_ := (h53_ h898_)
    have h901_ := (h59_ h900_)
    obtain ⟨h902_, h903_⟩ := (h901_ h5_)
    refine ⟨(la_stepBehind_148 h9_ h23_ h24_), ?_⟩
    refine ⟨?_, ?_⟩
    · skip
      refine ⟨(la_stepBehind_21 h447_), ?_⟩
      refine ⟨h450_, ?_⟩
      refine ⟨h445_, ?_⟩
      refine ⟨h446_, ?_⟩
      refine ⟨h12_, ?_⟩
      refine ⟨h13_, ?_⟩
      refine ⟨h11_, ?_⟩
      refine ⟨h14_, ?_⟩
      refine ⟨la_stepBehind_149, ?_⟩
      intro h904_
      have h905_ : ¬ (g26 1047 0 = 1) := fun q_ => (la_stepBehind_3 h904_) (h451_ q_)
      obtain ⟨h906_, ⟨h907_, ⟨h908_, ⟨h909_, ⟨h910_, ⟨h911_, ⟨h912_, ⟨h913_, ⟨h914_, ⟨h915_, ⟨h916_, ⟨h917_, ⟨h918_, h919_⟩⟩⟩⟩⟩⟩⟩⟩⟩⟩⟩⟩⟩ := (h461_ h904_)
      have h920_ : ¬ (g6 1047 0 = 1) := fun q_ => h905_ (h265_ q_)
      have h921_ := (h919_ la_stepBehind_85)
      obtain ⟨h922_, ⟨h923_, ⟨h924_, ⟨h925_, ⟨h926_, ⟨h927_, ⟨h928_, ⟨h929_, ⟨h930_, ⟨h931_, ⟨h932_, ⟨h933_, ⟨h934_, h935_⟩⟩⟩⟩⟩⟩⟩⟩⟩⟩⟩⟩⟩ := (h275_ h906_)
      have h936_ := (h921_ la_stepBehind_87)
      have h937_ := (h935_ la_stepBehind_56)
      obtain ⟨h938_, ⟨h939_, ⟨h940_, ⟨h941_, ⟨h942_, ⟨h943_, ⟨h944_, ⟨h945_, ⟨h946_, ⟨h947_, ⟨h948_, ⟨h949_, ⟨h950_, ⟨h951_, ⟨h952_, ⟨h953_, -⟩⟩⟩⟩⟩⟩⟩⟩⟩⟩⟩⟩⟩⟩⟩⟩ := (h91_ h922_)
      have h954_ := (h937_ la_stepBehind_58)
      refine ⟨h908_, ?_⟩
      refine ⟨?_, ?_⟩
      · skip
        have e955_ : S 1100007 (g26 1100023 (g26 1046 0)) = S 1100007 (S 1100023 (S 1046 0)) := congrArg ((S 1100007)) (la_stepBehind_32 h929_ (sm_nt_0 : sm_nt 0 (g6 1046 0) (g6 1100023 (g6 1046 0)) (g6 1100023 (g6 1100023 (g6 1046 0))) = g6 1100023 (g6 1046 0)) h946_)
        have e956_ : S 1100007 (g26 1100025 (g26 1046 0)) = S 1100007 (S 1100025 (S 1046 0)) := congrArg ((S 1100007)) (la_stepBehind_32 h931_ (sm_nl_0 : sm_nl 0 (g6 1046 0) (g6 1100007 (g6 1046 0)) (g6 1100025 (g6 1046 0)) (g6 1100007 (g6 1100025 (g6 1046 0))) (g6 1100025 (g6 1100025 (g6 1046 0))) = g6 1100025 (g6 1046 0)) h948_)
        have e957_ : S 1100007 (g34 1100023 (g34 1046 0)) = S 1100007 (S 1100023 (S 1046 0)) := congrArg ((S 1100007)) (la_stepBehind_154 h913_ (sm_nt_14 : sm_nt 14 (g26 1046 0) (g26 1100023 (g26 1046 0)) (g26 1100023 (g26 1100023 (g26 1046 0))) = g26 1100023 (g26 1046 0)) h929_ (sm_nt_0 : sm_nt 0 (g6 1046 0) (g6 1100023 (g6 1046 0)) (g6 1100023 (g6 1100023 (g6 1046 0))) = g6 1100023 (g6 1046 0)) h946_)
        have e958_ : S 1100007 (g34 1100023 (g34 1046 0)) = S 1100007 (g26 1100023 (g26 1046 0)) := congrArg ((S 1100007)) (la_stepBehind_37 h913_ (sm_nt_14 : sm_nt 14 (g26 1046 0) (g26 1100023 (g26 1046 0)) (g26 1100023 (g26 1100023 (g26 1046 0))) = g26 1100023 (g26 1046 0)))
        have e959_ : S 1100007 (g34 1100025 (g34 1046 0)) = S 1100007 (S 1100025 (S 1046 0)) := congrArg ((S 1100007)) (la_stepBehind_154 h915_ (sm_nl_14 : sm_nl 14 (g26 1046 0) (g26 1100007 (g26 1046 0)) (g26 1100025 (g26 1046 0)) (g26 1100007 (g26 1100025 (g26 1046 0))) (g26 1100025 (g26 1100025 (g26 1046 0))) = g26 1100025 (g26 1046 0)) h931_ (sm_nl_0 : sm_nl 0 (g6 1046 0) (g6 1100007 (g6 1046 0)) (g6 1100025 (g6 1046 0)) (g6 1100007 (g6 1100025 (g6 1046 0))) (g6 1100025 (g6 1100025 (g6 1046 0))) = g6 1100025 (g6 1046 0)) h948_)
        have e960_ : S 1100007 (g34 1100025 (g34 1046 0)) = S 1100007 (g26 1100025 (g26 1046 0)) := congrArg ((S 1100007)) (la_stepBehind_37 h915_ (sm_nl_14 : sm_nl 14 (g26 1046 0) (g26 1100007 (g26 1046 0)) (g26 1100025 (g26 1046 0)) (g26 1100007 (g26 1100025 (g26 1046 0))) (g26 1100025 (g26 1100025 (g26 1046 0))) = g26 1100025 (g26 1046 0)))
        have e961_ : S 1100007 (g6 1100023 (g6 1046 0)) = S 1100007 (S 1100023 (S 1046 0)) := congrArg ((S 1100007)) h946_
        have e962_ : S 1100007 (g6 1100023 (g6 1046 0)) = S 1100007 (g26 1100023 (g26 1046 0)) := congrArg ((S 1100007)) (la_stepBehind_155 h929_ (sm_nt_0 : sm_nt 0 (g6 1046 0) (g6 1100023 (g6 1046 0)) (g6 1100023 (g6 1100023 (g6 1046 0))) = g6 1100023 (g6 1046 0)))
        have e963_ : S 1100007 (g6 1100023 (g6 1046 0)) = S 1100007 (g34 1100023 (g34 1046 0)) := congrArg ((S 1100007)) (la_stepBehind_156 h913_ (sm_nt_14 : sm_nt 14 (g26 1046 0) (g26 1100023 (g26 1046 0)) (g26 1100023 (g26 1100023 (g26 1046 0))) = g26 1100023 (g26 1046 0)) h929_ (sm_nt_0 : sm_nt 0 (g6 1046 0) (g6 1100023 (g6 1046 0)) (g6 1100023 (g6 1100023 (g6 1046 0))) = g6 1100023 (g6 1046 0)))
        have e964_ : S 1100007 (g6 1100025 (g6 1046 0)) = S 1100007 (S 1100025 (S 1046 0)) := congrArg ((S 1100007)) h948_
        have e965_ : S 1100007 (g6 1100025 (g6 1046 0)) = S 1100007 (g26 1100025 (g26 1046 0)) := congrArg ((S 1100007)) (la_stepBehind_155 h931_ (sm_nl_0 : sm_nl 0 (g6 1046 0) (g6 1100007 (g6 1046 0)) (g6 1100025 (g6 1046 0)) (g6 1100007 (g6 1100025 (g6 1046 0))) (g6 1100025 (g6 1100025 (g6 1046 0))) = g6 1100025 (g6 1046 0)))
        have e966_ : S 1100007 (g6 1100025 (g6 1046 0)) = S 1100007 (g34 1100025 (g34 1046 0)) := congrArg ((S 1100007)) (la_stepBehind_156 h915_ (sm_nl_14 : sm_nl 14 (g26 1046 0) (g26 1100007 (g26 1046 0)) (g26 1100025 (g26 1046 0)) (g26 1100007 (g26 1100025 (g26 1046 0))) (g26 1100025 (g26 1100025 (g26 1046 0))) = g26 1100025 (g26 1046 0)) h931_ (sm_nl_0 : sm_nl 0 (g6 1046 0) (g6 1100007 (g6 1046 0)) (g6 1100025 (g6 1046 0)) (g6 1100007 (g6 1100025 (g6 1046 0))) (g6 1100025 (g6 1100025 (g6 1046 0))) = g6 1100025 (g6 1046 0)))
        have e967_ : S 12 (5 * p2 + 0) = S 12 (5 * p2) := congrArg ((S 12)) la_stepBehind_157
        have e968_ : g26 1100007 (g34 1100023 (g34 1046 0)) = g26 1100007 (g26 1100023 (g26 1046 0)) := congrArg ((g26 1100007)) (la_stepBehind_37 h913_ (sm_nt_14 : sm_nt 14 (g26 1046 0) (g26 1100023 (g26 1046 0)) (g26 1100023 (g26 1100023 (g26 1046 0))) = g26 1100023 (g26 1046 0)))
        have e969_ : g26 1100007 (g34 1100025 (g34 1046 0)) = g26 1100007 (g26 1100025 (g26 1046 0)) := congrArg ((g26 1100007)) (la_stepBehind_37 h915_ (sm_nl_14 : sm_nl 14 (g26 1046 0) (g26 1100007 (g26 1046 0)) (g26 1100025 (g26 1046 0)) (g26 1100007 (g26 1100025 (g26 1046 0))) (g26 1100025 (g26 1100025 (g26 1046 0))) = g26 1100025 (g26 1046 0)))
        have e970_ : g6 1100007 (g34 1100023 (g34 1046 0)) = g6 1100007 (g26 1100023 (g26 1046 0)) := congrArg ((g6 1100007)) (la_stepBehind_37 h913_ (sm_nt_14 : sm_nt 14 (g26 1046 0) (g26 1100023 (g26 1046 0)) (g26 1100023 (g26 1100023 (g26 1046 0))) = g26 1100023 (g26 1046 0)))
        have e971_ : g6 1100007 (g34 1100025 (g34 1046 0)) = g6 1100007 (g26 1100025 (g26 1046 0)) := congrArg ((g6 1100007)) (la_stepBehind_37 h915_ (sm_nl_14 : sm_nl 14 (g26 1046 0) (g26 1100007 (g26 1046 0)) (g26 1100025 (g26 1046 0)) (g26 1100007 (g26 1100025 (g26 1046 0))) (g26 1100025 (g26 1100025 (g26 1046 0))) = g26 1100025 (g26 1046 0)))
        have e972_ : g6 1100007 (g6 1100023 (g6 1046 0)) = g6 1100007 (g26 1100023 (g26 1046 0)) := congrArg ((g6 1100007)) (la_stepBehind_155 h929_ (sm_nt_0 : sm_nt 0 (g6 1046 0) (g6 1100023 (g6 1046 0)) (g6 1100023 (g6 1100023 (g6 1046 0))) = g6 1100023 (g6 1046 0)))
        have e973_ : g6 1100007 (g6 1100023 (g6 1046 0)) = g6 1100007 (g34 1100023 (g34 1046 0)) := congrArg ((g6 1100007)) (la_stepBehind_156 h913_ (sm_nt_14 : sm_nt 14 (g26 1046 0) (g26 1100023 (g26 1046 0)) (g26 1100023 (g26 1100023 (g26 1046 0))) = g26 1100023 (g26 1046 0)) h929_ (sm_nt_0 : sm_nt 0 (g6 1046 0) (g6 1100023 (g6 1046 0)) (g6 1100023 (g6 1100023 (g6 1046 0))) = g6 1100023 (g6 1046 0)))
        have e974_ : g6 1100007 (g6 1100025 (g6 1046 0)) = g6 1100007 (g26 1100025 (g26 1046 0)) := congrArg ((g6 1100007)) (la_stepBehind_155 h931_ (sm_nl_0 : sm_nl 0 (g6 1046 0) (g6 1100007 (g6 1046 0)) (g6 1100025 (g6 1046 0)) (g6 1100007 (g6 1100025 (g6 1046 0))) (g6 1100025 (g6 1100025 (g6 1046 0))) = g6 1100025 (g6 1046 0)))
        have e975_ : g6 1100007 (g6 1100025 (g6 1046 0)) = g6 1100007 (g34 1100025 (g34 1046 0)) := congrArg ((g6 1100007)) (la_stepBehind_156 h915_ (sm_nl_14 : sm_nl 14 (g26 1046 0) (g26 1100007 (g26 1046 0)) (g26 1100025 (g26 1046 0)) (g26 1100007 (g26 1100025 (g26 1046 0))) (g26 1100025 (g26 1100025 (g26 1046 0))) = g26 1100025 (g26 1046 0)) h931_ (sm_nl_0 : sm_nl 0 (g6 1046 0) (g6 1100007 (g6 1046 0)) (g6 1100025 (g6 1046 0)) (g6 1100007 (g6 1100025 (g6 1046 0))) (g6 1100025 (g6 1100025 (g6 1046 0))) = g6 1100025 (g6 1046 0)))
        exact (la_stepBehind_158 h902_ e967_)
      refine ⟨?_, ?_⟩
      · skip
        have e976_ : S 1100007 (g26 1100023 (g26 1046 0)) = S 1100007 (S 1100023 (S 1046 0)) := congrArg ((S 1100007)) (la_stepBehind_32 h929_ (sm_nt_0 : sm_nt 0 (g6 1046 0) (g6 1100023 (g6 1046 0)) (g6 1100023 (g6 1100023 (g6 1046 0))) = g6 1100023 (g6 1046 0)) h946_)
        have e977_ : S 1100007 (g26 1100025 (g26 1046 0)) = S 1100007 (S 1100025 (S 1046 0)) := congrArg ((S 1100007)) (la_stepBehind_32 h931_ (sm_nl_0 : sm_nl 0 (g6 1046 0) (g6 1100007 (g6 1046 0)) (g6 1100025 (g6 1046 0)) (g6 1100007 (g6 1100025 (g6 1046 0))) (g6 1100025 (g6 1100025 (g6 1046 0))) = g6 1100025 (g6 1046 0)) h948_)
        have e978_ : S 1100007 (g34 1100023 (g34 1046 0)) = S 1100007 (S 1100023 (S 1046 0)) := congrArg ((S 1100007)) (la_stepBehind_154 h913_ (sm_nt_14 : sm_nt 14 (g26 1046 0) (g26 1100023 (g26 1046 0)) (g26 1100023 (g26 1100023 (g26 1046 0))) = g26 1100023 (g26 1046 0)) h929_ (sm_nt_0 : sm_nt 0 (g6 1046 0) (g6 1100023 (g6 1046 0)) (g6 1100023 (g6 1100023 (g6 1046 0))) = g6 1100023 (g6 1046 0)) h946_)
        have e979_ : S 1100007 (g34 1100023 (g34 1046 0)) = S 1100007 (g26 1100023 (g26 1046 0)) := congrArg ((S 1100007)) (la_stepBehind_37 h913_ (sm_nt_14 : sm_nt 14 (g26 1046 0) (g26 1100023 (g26 1046 0)) (g26 1100023 (g26 1100023 (g26 1046 0))) = g26 1100023 (g26 1046 0)))
        have e980_ : S 1100007 (g34 1100025 (g34 1046 0)) = S 1100007 (S 1100025 (S 1046 0)) := congrArg ((S 1100007)) (la_stepBehind_154 h915_ (sm_nl_14 : sm_nl 14 (g26 1046 0) (g26 1100007 (g26 1046 0)) (g26 1100025 (g26 1046 0)) (g26 1100007 (g26 1100025 (g26 1046 0))) (g26 1100025 (g26 1100025 (g26 1046 0))) = g26 1100025 (g26 1046 0)) h931_ (sm_nl_0 : sm_nl 0 (g6 1046 0) (g6 1100007 (g6 1046 0)) (g6 1100025 (g6 1046 0)) (g6 1100007 (g6 1100025 (g6 1046 0))) (g6 1100025 (g6 1100025 (g6 1046 0))) = g6 1100025 (g6 1046 0)) h948_)
        have e981_ : S 1100007 (g34 1100025 (g34 1046 0)) = S 1100007 (g26 1100025 (g26 1046 0)) := congrArg ((S 1100007)) (la_stepBehind_37 h915_ (sm_nl_14 : sm_nl 14 (g26 1046 0) (g26 1100007 (g26 1046 0)) (g26 1100025 (g26 1046 0)) (g26 1100007 (g26 1100025 (g26 1046 0))) (g26 1100025 (g26 1100025 (g26 1046 0))) = g26 1100025 (g26 1046 0)))
        have e982_ : S 1100007 (g6 1100023 (g6 1046 0)) = S 1100007 (S 1100023 (S 1046 0)) := congrArg ((S 1100007)) h946_
        have e983_ : S 1100007 (g6 1100023 (g6 1046 0)) = S 1100007 (g26 1100023 (g26 1046 0)) := congrArg ((S 1100007)) (la_stepBehind_155 h929_ (sm_nt_0 : sm_nt 0 (g6 1046 0) (g6 1100023 (g6 1046 0)) (g6 1100023 (g6 1100023 (g6 1046 0))) = g6 1100023 (g6 1046 0)))
        have e984_ : S 1100007 (g6 1100023 (g6 1046 0)) = S 1100007 (g34 1100023 (g34 1046 0)) := congrArg ((S 1100007)) (la_stepBehind_156 h913_ (sm_nt_14 : sm_nt 14 (g26 1046 0) (g26 1100023 (g26 1046 0)) (g26 1100023 (g26 1100023 (g26 1046 0))) = g26 1100023 (g26 1046 0)) h929_ (sm_nt_0 : sm_nt 0 (g6 1046 0) (g6 1100023 (g6 1046 0)) (g6 1100023 (g6 1100023 (g6 1046 0))) = g6 1100023 (g6 1046 0)))
        have e985_ : S 1100007 (g6 1100025 (g6 1046 0)) = S 1100007 (S 1100025 (S 1046 0)) := congrArg ((S 1100007)) h948_
        have e986_ : S 1100007 (g6 1100025 (g6 1046 0)) = S 1100007 (g26 1100025 (g26 1046 0)) := congrArg ((S 1100007)) (la_stepBehind_155 h931_ (sm_nl_0 : sm_nl 0 (g6 1046 0) (g6 1100007 (g6 1046 0)) (g6 1100025 (g6 1046 0)) (g6 1100007 (g6 1100025 (g6 1046 0))) (g6 1100025 (g6 1100025 (g6 1046 0))) = g6 1100025 (g6 1046 0)))
        have e987_ : S 1100007 (g6 1100025 (g6 1046 0)) = S 1100007 (g34 1100025 (g34 1046 0)) := congrArg ((S 1100007)) (la_stepBehind_156 h915_ (sm_nl_14 : sm_nl 14 (g26 1046 0) (g26 1100007 (g26 1046 0)) (g26 1100025 (g26 1046 0)) (g26 1100007 (g26 1100025 (g26 1046 0))) (g26 1100025 (g26 1100025 (g26 1046 0))) = g26 1100025 (g26 1046 0)) h931_ (sm_nl_0 : sm_nl 0 (g6 1046 0) (g6 1100007 (g6 1046 0)) (g6 1100025 (g6 1046 0)) (g6 1100007 (g6 1100025 (g6 1046 0))) (g6 1100025 (g6 1100025 (g6 1046 0))) = g6 1100025 (g6 1046 0)))
        have e988_ : S 12 (5 * p2 + 0) = S 12 (5 * p2) := congrArg ((S 12)) la_stepBehind_157
        have e989_ : g26 1100007 (g34 1100023 (g34 1046 0)) = g26 1100007 (g26 1100023 (g26 1046 0)) := congrArg ((g26 1100007)) (la_stepBehind_37 h913_ (sm_nt_14 : sm_nt 14 (g26 1046 0) (g26 1100023 (g26 1046 0)) (g26 1100023 (g26 1100023 (g26 1046 0))) = g26 1100023 (g26 1046 0)))
        have e990_ : g26 1100007 (g34 1100025 (g34 1046 0)) = g26 1100007 (g26 1100025 (g26 1046 0)) := congrArg ((g26 1100007)) (la_stepBehind_37 h915_ (sm_nl_14 : sm_nl 14 (g26 1046 0) (g26 1100007 (g26 1046 0)) (g26 1100025 (g26 1046 0)) (g26 1100007 (g26 1100025 (g26 1046 0))) (g26 1100025 (g26 1100025 (g26 1046 0))) = g26 1100025 (g26 1046 0)))
        have e991_ : g6 1100007 (g34 1100023 (g34 1046 0)) = g6 1100007 (g26 1100023 (g26 1046 0)) := congrArg ((g6 1100007)) (la_stepBehind_37 h913_ (sm_nt_14 : sm_nt 14 (g26 1046 0) (g26 1100023 (g26 1046 0)) (g26 1100023 (g26 1100023 (g26 1046 0))) = g26 1100023 (g26 1046 0)))
        have e992_ : g6 1100007 (g34 1100025 (g34 1046 0)) = g6 1100007 (g26 1100025 (g26 1046 0)) := congrArg ((g6 1100007)) (la_stepBehind_37 h915_ (sm_nl_14 : sm_nl 14 (g26 1046 0) (g26 1100007 (g26 1046 0)) (g26 1100025 (g26 1046 0)) (g26 1100007 (g26 1100025 (g26 1046 0))) (g26 1100025 (g26 1100025 (g26 1046 0))) = g26 1100025 (g26 1046 0)))
        have e993_ : g6 1100007 (g6 1100023 (g6 1046 0)) = g6 1100007 (g26 1100023 (g26 1046 0)) := congrArg ((g6 1100007)) (la_stepBehind_155 h929_ (sm_nt_0 : sm_nt 0 (g6 1046 0) (g6 1100023 (g6 1046 0)) (g6 1100023 (g6 1100023 (g6 1046 0))) = g6 1100023 (g6 1046 0)))
        have e994_ : g6 1100007 (g6 1100023 (g6 1046 0)) = g6 1100007 (g34 1100023 (g34 1046 0)) := congrArg ((g6 1100007)) (la_stepBehind_156 h913_ (sm_nt_14 : sm_nt 14 (g26 1046 0) (g26 1100023 (g26 1046 0)) (g26 1100023 (g26 1100023 (g26 1046 0))) = g26 1100023 (g26 1046 0)) h929_ (sm_nt_0 : sm_nt 0 (g6 1046 0) (g6 1100023 (g6 1046 0)) (g6 1100023 (g6 1100023 (g6 1046 0))) = g6 1100023 (g6 1046 0)))
        have e995_ : g6 1100007 (g6 1100025 (g6 1046 0)) = g6 1100007 (g26 1100025 (g26 1046 0)) := congrArg ((g6 1100007)) (la_stepBehind_155 h931_ (sm_nl_0 : sm_nl 0 (g6 1046 0) (g6 1100007 (g6 1046 0)) (g6 1100025 (g6 1046 0)) (g6 1100007 (g6 1100025 (g6 1046 0))) (g6 1100025 (g6 1100025 (g6 1046 0))) = g6 1100025 (g6 1046 0)))
        have e996_ : g6 1100007 (g6 1100025 (g6 1046 0)) = g6 1100007 (g34 1100025 (g34 1046 0)) := congrArg ((g6 1100007)) (la_stepBehind_156 h915_ (sm_nl_14 : sm_nl 14 (g26 1046 0) (g26 1100007 (g26 1046 0)) (g26 1100025 (g26 1046 0)) (g26 1100007 (g26 1100025 (g26 1046 0))) (g26 1100025 (g26 1100025 (g26 1046 0))) = g26 1100025 (g26 1046 0)) h931_ (sm_nl_0 : sm_nl 0 (g6 1046 0) (g6 1100007 (g6 1046 0)) (g6 1100025 (g6 1046 0)) (g6 1100007 (g6 1100025 (g6 1046 0))) (g6 1100025 (g6 1100025 (g6 1046 0))) = g6 1100025 (g6 1046 0)))
        exact (la_stepBehind_159 h903_ e988_)
      refine ⟨la_stepBehind_160, ?_⟩
      intro h997_
      refine ⟨(la_stepBehind_161 (sm_KC_n h29_).2.1.1 h60_ h912_ (sm_dl_14 : sm_dl 14 p1 = (-1)) h928_ (sm_dl_0 : sm_dl 0 5 = 1) h945_), ?_⟩
      refine ⟨(la_stepBehind_162 h33_ e897_ h912_ (sm_dl_14 : sm_dl 14 p1 = (-1)) h913_ (sm_nt_14 : sm_nt 14 (g26 1046 0) (g26 1100023 (g26 1046 0)) (g26 1100023 (g26 1100023 (g26 1046 0))) = g26 1100023 (g26 1046 0)) h916_ (sm_nt_14 : sm_nt 14 (g26 1100007 (g26 1046 0)) (g26 1100007 (g26 1100023 (g26 1046 0))) (g26 1100007 (g26 1100023 (g26 1100023 (g26 1046 0)))) = g26 1100007 (g26 1100023 (g26 1046 0))) h928_ (sm_dl_0 : sm_dl 0 5 = 1) h929_ (sm_nt_0 : sm_nt 0 (g6 1046 0) (g6 1100023 (g6 1046 0)) (g6 1100023 (g6 1100023 (g6 1046 0))) = g6 1100023 (g6 1046 0)) h932_ (sm_nt_0 : sm_nt 0 (g6 1100007 (g6 1046 0)) (g6 1100007 (g6 1100023 (g6 1046 0))) (g6 1100007 (g6 1100023 (g6 1100023 (g6 1046 0)))) = g6 1100007 (g6 1100023 (g6 1046 0))) h945_ h946_ h949_), ?_⟩
      intro h998_
      have e999_ : S 1100007 (g26 1100023 (g26 1046 0)) = S 1100007 (S 1100023 (S 1046 0)) := congrArg ((S 1100007)) (la_stepBehind_32 h929_ (sm_nt_0 : sm_nt 0 (g6 1046 0) (g6 1100023 (g6 1046 0)) (g6 1100023 (g6 1100023 (g6 1046 0))) = g6 1100023 (g6 1046 0)) h946_)
      have e1000_ : S 1100007 (g26 1100025 (g26 1046 0)) = S 1100007 (S 1100025 (S 1046 0)) := congrArg ((S 1100007)) (la_stepBehind_32 h931_ (sm_nl_0 : sm_nl 0 (g6 1046 0) (g6 1100007 (g6 1046 0)) (g6 1100025 (g6 1046 0)) (g6 1100007 (g6 1100025 (g6 1046 0))) (g6 1100025 (g6 1100025 (g6 1046 0))) = g6 1100025 (g6 1046 0)) h948_)
      have e1001_ : S 1100007 (g34 1100023 (g34 1046 0)) = S 1100007 (S 1100023 (S 1046 0)) := congrArg ((S 1100007)) (la_stepBehind_154 h913_ (sm_nt_14 : sm_nt 14 (g26 1046 0) (g26 1100023 (g26 1046 0)) (g26 1100023 (g26 1100023 (g26 1046 0))) = g26 1100023 (g26 1046 0)) h929_ (sm_nt_0 : sm_nt 0 (g6 1046 0) (g6 1100023 (g6 1046 0)) (g6 1100023 (g6 1100023 (g6 1046 0))) = g6 1100023 (g6 1046 0)) h946_)
      have e1002_ : S 1100007 (g34 1100023 (g34 1046 0)) = S 1100007 (g26 1100023 (g26 1046 0)) := congrArg ((S 1100007)) (la_stepBehind_37 h913_ (sm_nt_14 : sm_nt 14 (g26 1046 0) (g26 1100023 (g26 1046 0)) (g26 1100023 (g26 1100023 (g26 1046 0))) = g26 1100023 (g26 1046 0)))
      have e1003_ : S 1100007 (g34 1100025 (g34 1046 0)) = S 1100007 (S 1100025 (S 1046 0)) := congrArg ((S 1100007)) (la_stepBehind_154 h915_ (sm_nl_14 : sm_nl 14 (g26 1046 0) (g26 1100007 (g26 1046 0)) (g26 1100025 (g26 1046 0)) (g26 1100007 (g26 1100025 (g26 1046 0))) (g26 1100025 (g26 1100025 (g26 1046 0))) = g26 1100025 (g26 1046 0)) h931_ (sm_nl_0 : sm_nl 0 (g6 1046 0) (g6 1100007 (g6 1046 0)) (g6 1100025 (g6 1046 0)) (g6 1100007 (g6 1100025 (g6 1046 0))) (g6 1100025 (g6 1100025 (g6 1046 0))) = g6 1100025 (g6 1046 0)) h948_)
      have e1004_ : S 1100007 (g34 1100025 (g34 1046 0)) = S 1100007 (g26 1100025 (g26 1046 0)) := congrArg ((S 1100007)) (la_stepBehind_37 h915_ (sm_nl_14 : sm_nl 14 (g26 1046 0) (g26 1100007 (g26 1046 0)) (g26 1100025 (g26 1046 0)) (g26 1100007 (g26 1100025 (g26 1046 0))) (g26 1100025 (g26 1100025 (g26 1046 0))) = g26 1100025 (g26 1046 0)))
      have e1005_ : S 1100007 (g6 1100023 (g6 1046 0)) = S 1100007 (S 1100023 (S 1046 0)) := congrArg ((S 1100007)) h946_
      have e1006_ : S 1100007 (g6 1100023 (g6 1046 0)) = S 1100007 (g26 1100023 (g26 1046 0)) := congrArg ((S 1100007)) (la_stepBehind_155 h929_ (sm_nt_0 : sm_nt 0 (g6 1046 0) (g6 1100023 (g6 1046 0)) (g6 1100023 (g6 1100023 (g6 1046 0))) = g6 1100023 (g6 1046 0)))
      have e1007_ : S 1100007 (g6 1100023 (g6 1046 0)) = S 1100007 (g34 1100023 (g34 1046 0)) := congrArg ((S 1100007)) (la_stepBehind_156 h913_ (sm_nt_14 : sm_nt 14 (g26 1046 0) (g26 1100023 (g26 1046 0)) (g26 1100023 (g26 1100023 (g26 1046 0))) = g26 1100023 (g26 1046 0)) h929_ (sm_nt_0 : sm_nt 0 (g6 1046 0) (g6 1100023 (g6 1046 0)) (g6 1100023 (g6 1100023 (g6 1046 0))) = g6 1100023 (g6 1046 0)))
      have e1008_ : S 1100007 (g6 1100025 (g6 1046 0)) = S 1100007 (S 1100025 (S 1046 0)) := congrArg ((S 1100007)) h948_
      have e1009_ : S 1100007 (g6 1100025 (g6 1046 0)) = S 1100007 (g26 1100025 (g26 1046 0)) := congrArg ((S 1100007)) (la_stepBehind_155 h931_ (sm_nl_0 : sm_nl 0 (g6 1046 0) (g6 1100007 (g6 1046 0)) (g6 1100025 (g6 1046 0)) (g6 1100007 (g6 1100025 (g6 1046 0))) (g6 1100025 (g6 1100025 (g6 1046 0))) = g6 1100025 (g6 1046 0)))
      have e1010_ : S 1100007 (g6 1100025 (g6 1046 0)) = S 1100007 (g34 1100025 (g34 1046 0)) := congrArg ((S 1100007)) (la_stepBehind_156 h915_ (sm_nl_14 : sm_nl 14 (g26 1046 0) (g26 1100007 (g26 1046 0)) (g26 1100025 (g26 1046 0)) (g26 1100007 (g26 1100025 (g26 1046 0))) (g26 1100025 (g26 1100025 (g26 1046 0))) = g26 1100025 (g26 1046 0)) h931_ (sm_nl_0 : sm_nl 0 (g6 1046 0) (g6 1100007 (g6 1046 0)) (g6 1100025 (g6 1046 0)) (g6 1100007 (g6 1100025 (g6 1046 0))) (g6 1100025 (g6 1100025 (g6 1046 0))) = g6 1100025 (g6 1046 0)))
      have e1011_ : g26 1100007 (g34 1100023 (g34 1046 0)) = g26 1100007 (g26 1100023 (g26 1046 0)) := congrArg ((g26 1100007)) (la_stepBehind_37 h913_ (sm_nt_14 : sm_nt 14 (g26 1046 0) (g26 1100023 (g26 1046 0)) (g26 1100023 (g26 1100023 (g26 1046 0))) = g26 1100023 (g26 1046 0)))
      have e1012_ : g26 1100007 (g34 1100025 (g34 1046 0)) = g26 1100007 (g26 1100025 (g26 1046 0)) := congrArg ((g26 1100007)) (la_stepBehind_37 h915_ (sm_nl_14 : sm_nl 14 (g26 1046 0) (g26 1100007 (g26 1046 0)) (g26 1100025 (g26 1046 0)) (g26 1100007 (g26 1100025 (g26 1046 0))) (g26 1100025 (g26 1100025 (g26 1046 0))) = g26 1100025 (g26 1046 0)))
      have e1013_ : g6 1100007 (g34 1100023 (g34 1046 0)) = g6 1100007 (g26 1100023 (g26 1046 0)) := congrArg ((g6 1100007)) (la_stepBehind_37 h913_ (sm_nt_14 : sm_nt 14 (g26 1046 0) (g26 1100023 (g26 1046 0)) (g26 1100023 (g26 1100023 (g26 1046 0))) = g26 1100023 (g26 1046 0)))
      have e1014_ : g6 1100007 (g34 1100025 (g34 1046 0)) = g6 1100007 (g26 1100025 (g26 1046 0)) := congrArg ((g6 1100007)) (la_stepBehind_37 h915_ (sm_nl_14 : sm_nl 14 (g26 1046 0) (g26 1100007 (g26 1046 0)) (g26 1100025 (g26 1046 0)) (g26 1100007 (g26 1100025 (g26 1046 0))) (g26 1100025 (g26 1100025 (g26 1046 0))) = g26 1100025 (g26 1046 0)))
      have e1015_ : g6 1100007 (g6 1100023 (g6 1046 0)) = g6 1100007 (g26 1100023 (g26 1046 0)) := congrArg ((g6 1100007)) (la_stepBehind_155 h929_ (sm_nt_0 : sm_nt 0 (g6 1046 0) (g6 1100023 (g6 1046 0)) (g6 1100023 (g6 1100023 (g6 1046 0))) = g6 1100023 (g6 1046 0)))
      have e1016_ : g6 1100007 (g6 1100023 (g6 1046 0)) = g6 1100007 (g34 1100023 (g34 1046 0)) := congrArg ((g6 1100007)) (la_stepBehind_156 h913_ (sm_nt_14 : sm_nt 14 (g26 1046 0) (g26 1100023 (g26 1046 0)) (g26 1100023 (g26 1100023 (g26 1046 0))) = g26 1100023 (g26 1046 0)) h929_ (sm_nt_0 : sm_nt 0 (g6 1046 0) (g6 1100023 (g6 1046 0)) (g6 1100023 (g6 1100023 (g6 1046 0))) = g6 1100023 (g6 1046 0)))
      have e1017_ : g6 1100007 (g6 1100025 (g6 1046 0)) = g6 1100007 (g26 1100025 (g26 1046 0)) := congrArg ((g6 1100007)) (la_stepBehind_155 h931_ (sm_nl_0 : sm_nl 0 (g6 1046 0) (g6 1100007 (g6 1046 0)) (g6 1100025 (g6 1046 0)) (g6 1100007 (g6 1100025 (g6 1046 0))) (g6 1100025 (g6 1100025 (g6 1046 0))) = g6 1100025 (g6 1046 0)))
      have e1018_ : g6 1100007 (g6 1100025 (g6 1046 0)) = g6 1100007 (g34 1100025 (g34 1046 0)) := congrArg ((g6 1100007)) (la_stepBehind_156 h915_ (sm_nl_14 : sm_nl 14 (g26 1046 0) (g26 1100007 (g26 1046 0)) (g26 1100025 (g26 1046 0)) (g26 1100007 (g26 1100025 (g26 1046 0))) (g26 1100025 (g26 1100025 (g26 1046 0))) = g26 1100025 (g26 1046 0)) h931_ (sm_nl_0 : sm_nl 0 (g6 1046 0) (g6 1100007 (g6 1046 0)) (g6 1100025 (g6 1046 0)) (g6 1100007 (g6 1100025 (g6 1046 0))) (g6 1100025 (g6 1100025 (g6 1046 0))) = g6 1100025 (g6 1046 0)))
      exact (la_stepBehind_164 h34_ h60_ h912_ (sm_dl_14 : sm_dl 14 p1 = (-1)) h915_ (sm_nl_14 : sm_nl 14 (g26 1046 0) (g26 1100007 (g26 1046 0)) (g26 1100025 (g26 1046 0)) (g26 1100007 (g26 1100025 (g26 1046 0))) (g26 1100025 (g26 1100025 (g26 1046 0))) = g26 1100025 (g26 1046 0)) h928_ (sm_dl_0 : sm_dl 0 5 = 1) h931_ (sm_nl_0 : sm_nl 0 (g6 1046 0) (g6 1100007 (g6 1046 0)) (g6 1100025 (g6 1046 0)) (g6 1100007 (g6 1100025 (g6 1046 0))) (g6 1100025 (g6 1100025 (g6 1046 0))) = g6 1100025 (g6 1046 0)) h936_ h945_ h948_ h950_ h954_ h998_)
    refine ⟨(la_stepBehind_165 h16_ h45_), ?_⟩
    intro g52
    rintro ⟨h1019_, ⟨h1020_, ⟨h1021_, ⟨h1022_, ⟨h1023_, ⟨h1024_, ⟨h1025_, ⟨h1026_, ⟨h1027_, ⟨h1028_, ⟨h1029_, ⟨h1030_, ⟨h1031_, ⟨h1032_, ⟨h1033_, ⟨h1034_, h1035_⟩⟩⟩⟩⟩⟩⟩⟩⟩⟩⟩⟩⟩⟩⟩⟩
    have e1036_ : (if (2 : Int) = 1 then 1 else 0 : Int) = 0 := if_neg la_stepBehind_166
    refine ⟨(la_stepBehind_21 h1021_), ?_⟩
    refine ⟨h1024_, ?_⟩
    refine ⟨h1019_, ?_⟩
    refine ⟨h1020_, ?_⟩
    refine ⟨h68_, ?_⟩
    refine ⟨h69_, ?_⟩
    refine ⟨(la_stepBehind_102 h70_ h262_ h448_ h1022_), ?_⟩
    refine ⟨(la_stepBehind_23 h28_ h1020_), ?_⟩
    refine ⟨(sm_F1_tr (sm_F1_tr (sm_F1_tr (sm_F1_le h72_ (Int.le_refl _)) h267_ h70_) h453_ (la_stepBehind_22 h70_ h262_)) h1027_ (la_stepBehind_103 h70_ h262_ h448_)), ?_⟩
    refine ⟨(sm_F1_tr (sm_F1_tr (sm_F1_tr (sm_F1_le h73_ (Int.le_refl _)) h268_ h70_) h454_ (la_stepBehind_22 h70_ h262_)) h1028_ (la_stepBehind_103 h70_ h262_ h448_)), ?_⟩
    refine ⟨(sm_F1_tr (sm_F1_tr (sm_F1_tr (sm_F1_le h74_ (Int.le_refl _)) h269_ h70_) h455_ (la_stepBehind_22 h70_ h262_)) h1029_ (la_stepBehind_103 h70_ h262_ h448_)), ?_⟩
    refine ⟨(sm_F1_tr (sm_F1_tr (sm_F1_tr (sm_F1_le h75_ (Int.le_refl _)) h270_ h70_) h456_ (la_stepBehind_22 h70_ h262_)) h1030_ (la_stepBehind_103 h70_ h262_ h448_)), ?_⟩
    refine ⟨(sm_F1_tr (sm_F1_tr (sm_F1_tr (sm_F1_le h76_ (Int.le_refl _)) h271_ (la_stepBehind_24 h70_)) h457_ (la_stepBehind_105 h70_ h262_)) h1031_ (la_stepBehind_104 h70_ h262_ h448_)), ?_⟩
    refine ⟨(sm_F1_tr (sm_F1_tr (sm_F1_tr (sm_F1_le h77_ (Int.le_refl _)) h272_ (la_stepBehind_24 h70_)) h458_ (la_stepBehind_105 h70_ h262_)) h1032_ (la_stepBehind_104 h70_ h262_ h448_)), ?_⟩
    refine ⟨(sm_F1_tr (sm_F1_tr (sm_F1_tr (sm_F1_le h78_ (Int.le_refl _)) h273_ (la_stepBehind_24 h70_)) h459_ (la_stepBehind_105 h70_ h262_)) h1033_ (la_stepBehind_104 h70_ h262_ h448_)), ?_⟩
    refine ⟨(sm_F1_tr (sm_F1_tr (sm_F1_tr (sm_F1_le h79_ (Int.le_refl _)) h274_ (la_stepBehind_24 h70_)) h460_ (la_stepBehind_105 h70_ h262_)) h1034_ (la_stepBehind_104 h70_ h262_ h448_)), ?_⟩
    refine ⟨h80_, ?_⟩
    refine ⟨h81_, ?_⟩
    refine ⟨h82_, ?_⟩
    refine ⟨h83_, ?_⟩
    refine ⟨h84_, ?_⟩
    refine ⟨h85_, ?_⟩
    refine ⟨h86_, ?_⟩
    refine ⟨h87_, ?_⟩
    refine ⟨h88_, ?_⟩
    refine ⟨h89_, ?_⟩
    refine ⟨h90_, ?_⟩
    intro h1037_
    have h1038_ : ¬ (g34 1047 0 = 1) := fun q_ => (la_stepBehind_3 h1037_) (h1025_ q_)
    obtain ⟨h1039_, ⟨h1040_, ⟨h1041_, ⟨h1042_, ⟨h1043_, ⟨h1044_, ⟨h1045_, ⟨h1046_, ⟨h1047_, ⟨h1048_, ⟨h1049_, h1050_⟩⟩⟩⟩⟩⟩⟩⟩⟩⟩⟩ := (h1035_ h1037_)
    have h1051_ : ¬ (g26 1047 0 = 1) := fun q_ => h1038_ (h451_ q_)
    obtain ⟨h1052_, ⟨h1053_, ⟨h1054_, ⟨h1055_, ⟨h1056_, ⟨h1057_, ⟨h1058_, ⟨h1059_, ⟨h1060_, ⟨h1061_, ⟨h1062_, ⟨h1063_, ⟨h1064_, h1065_⟩⟩⟩⟩⟩⟩⟩⟩⟩⟩⟩⟩⟩ := (h461_ h1039_)
    have h1066_ : ¬ (g6 1047 0 = 1) := fun q_ => h1051_ (h265_ q_)
    have h1067_ := (h1065_ la_stepBehind_85)
    obtain ⟨h1068_, ⟨h1069_, ⟨h1070_, ⟨h1071_, ⟨h1072_, ⟨h1073_, ⟨h1074_, ⟨h1075_, ⟨h1076_, ⟨h1077_, ⟨h1078_, ⟨h1079_, ⟨h1080_, h1081_⟩⟩⟩⟩⟩⟩⟩⟩⟩⟩⟩⟩⟩ := (h275_ h1052_)
    have h1082_ := (h1067_ la_stepBehind_87)
    have h1083_ := (h1081_ la_stepBehind_56)
    obtain ⟨h1084_, ⟨h1085_, ⟨h1086_, ⟨h1087_, ⟨h1088_, ⟨h1089_, ⟨h1090_, ⟨h1091_, ⟨h1092_, ⟨h1093_, ⟨h1094_, ⟨h1095_, ⟨h1096_, ⟨h1097_, ⟨h1098_, ⟨h1099_, -⟩⟩⟩⟩⟩⟩⟩⟩⟩⟩⟩⟩⟩⟩⟩⟩ := (h91_ h1068_)
    have h1100_ := (h1083_ la_stepBehind_58)
    refine ⟨h28_, ?_⟩
    refine ⟨h1041_, ?_⟩
    refine ⟨h1086_, ?_⟩
    refine ⟨h1087_, ?_⟩
    refine ⟨(la_stepBehind_109 h1040_ h1053_ h1069_ h1088_), ?_⟩
    refine ⟨(la_stepBehind_167 h60_ h1040_ h1053_ h1069_ h1089_), ?_⟩
    refine ⟨(sm_FC_s (sm_FC_F h1090_ (sm_F1_tr (sm_F1_tr (sm_F1_le h270_ (Int.le_refl _)) h456_ h262_) h1030_ (la_stepBehind_114 h1053_ h1069_)) (Int.le_refl _) (Int.le_refl _) (Int.le_refl _) rfl) (sm_FC_1 (((sm_F1_at h1030_ (g6 1046 0) (la_stepBehind_115 h1053_ h1069_)).trans ((sm_F1_at h456_ (g6 1046 0) (la_stepBehind_116 h1069_)).trans rfl)).trans h1073_) (sm_FC_1 (((sm_F1_at h1030_ (g6 1046 0 + 1) (la_stepBehind_117 h1053_ h1069_)).trans ((congrArg (g34 29) (la_stepBehind_118 h263_ h1069_)).trans h1057_)).trans rfl) (sm_FC_1 (((congrArg (g52 29) (la_stepBehind_119 h263_ h449_ h1053_ h1069_)).trans h1044_).trans rfl) (sm_FC_0 (la_stepBehind_171 h263_ h449_ h1040_)))))), ?_⟩
    refine ⟨(la_stepBehind_172 h60_ e897_ e1036_ h1045_ h1058_ (sm_dl_14 : sm_dl 14 p1 = (-1)) h1074_ (sm_dl_0 : sm_dl 0 5 = 1) h1091_), ?_⟩
    refine ⟨(la_stepBehind_173 h1046_ h1059_ (sm_nt_14 : sm_nt 14 (g26 1046 0) (g26 1100023 (g26 1046 0)) (g26 1100023 (g26 1100023 (g26 1046 0))) = g26 1100023 (g26 1046 0)) h1075_ (sm_nt_0 : sm_nt 0 (g6 1046 0) (g6 1100023 (g6 1046 0)) (g6 1100023 (g6 1100023 (g6 1046 0))) = g6 1100023 (g6 1046 0)) h1092_), ?_⟩
    refine ⟨(la_stepBehind_173 h1047_ h1060_ (sm_nd_14 : sm_nd 14 (g26 1100024 (g26 1046 0)) = g26 1100024 (g26 1046 0)) h1076_ (sm_nd_0 : sm_nd 0 (g6 1100024 (g6 1046 0)) = g6 1100024 (g6 1046 0)) h1093_), ?_⟩
    refine ⟨(la_stepBehind_173 h1048_ h1061_ (sm_nl_14 : sm_nl 14 (g26 1046 0) (g26 1100007 (g26 1046 0)) (g26 1100025 (g26 1046 0)) (g26 1100007 (g26 1100025 (g26 1046 0))) (g26 1100025 (g26 1100025 (g26 1046 0))) = g26 1100025 (g26 1046 0)) h1077_ (sm_nl_0 : sm_nl 0 (g6 1046 0) (g6 1100007 (g6 1046 0)) (g6 1100025 (g6 1046 0)) (g6 1100007 (g6 1100025 (g6 1046 0))) (g6 1100025 (g6 1100025 (g6 1046 0))) = g6 1100025 (g6 1046 0)) h1094_), ?_⟩
    refine ⟨(la_stepBehind_173 h1049_ h1062_ (sm_nt_14 : sm_nt 14 (g26 1100007 (g26 1046 0)) (g26 1100007 (g26 1100023 (g26 1046 0))) (g26 1100007 (g26 1100023 (g26 1100023 (g26 1046 0)))) = g26 1100007 (g26 1100023 (g26 1046 0))) h1078_ (sm_nt_0 : sm_nt 0 (g6 1100007 (g6 1046 0)) (g6 1100007 (g6 1100023 (g6 1046 0))) (g6 1100007 (g6 1100023 (g6 1100023 (g6 1046 0)))) = g6 1100007 (g6 1100023 (g6 1046 0))) h1095_), ?_⟩
    refine ⟨(la_stepBehind_123 h1050_ h1082_ h1096_ h1100_), ?_⟩
    refine ⟨h1097_, ?_⟩
    refine ⟨(sm_HB_1 (by rw [((sm_F1_at h1031_ (S 1046 0) (la_stepBehind_174 h60_ h1053_ h1069_ h1089_)).trans ((sm_F1_at h457_ (S 1046 0) (la_stepBehind_175 h60_ h1069_ h1089_)).trans ((sm_F1_at h271_ (S 1046 0) (la_stepBehind_176 e897_ h1089_)).trans ((sm_F1_at h76_ (S 1046 0) la_stepBehind_42).trans rfl))))]; exact (la_stepBehind_177 h48_ h60_ h1040_ h1053_ h1069_ h1089_)) (sm_HB_s (sm_HB_F h1098_ (sm_F1_tr (sm_F1_tr (sm_F1_le h271_ la_stepBehind_45) h457_ (la_stepBehind_134 h1069_)) h1031_ (la_stepBehind_133 h1053_ h1069_)) (Int.le_refl _) la_stepBehind_45 (Int.le_refl _) (la_stepBehind_132 h1040_ h1053_ h1069_)) (sm_HB_1 (by rw [((sm_F1_at h1031_ (g6 1046 0) (la_stepBehind_135 h1053_ h1069_)).trans ((sm_F1_at h457_ (g6 1046 0) (la_stepBehind_136 h1069_)).trans ((sm_F1_at h271_ (g6 1046 0) la_stepBehind_42).trans rfl)))]; exact (la_stepBehind_182 h48_ e897_ h1040_ h1053_ h1069_ h1089_ h1091_)) (sm_HB_1 (by rw [((sm_F1_at h1031_ (g6 1046 0 + 1) (la_stepBehind_138 h1053_ h1069_)).trans ((sm_F1_at h457_ (g6 1046 0 + 1) (la_stepBehind_139 h1069_)).trans ((congrArg (g26 1100007) (la_stepBehind_118 h263_ h1069_)).trans h1074_)))]; exact (la_stepBehind_183 h48_ e897_ h1040_ h1053_ h1069_ (sm_dl_0 : sm_dl 0 5 = 1) h1089_ h1091_)) (sm_HB_1 (by rw [((sm_F1_at h1031_ (g6 1046 0 + 1 + 1) (la_stepBehind_141 h1053_ h1069_)).trans ((congrArg (g34 1100007) (la_stepBehind_119 h263_ h449_ h1053_ h1069_)).trans h1058_))]; exact (la_stepBehind_184 h48_ e897_ h1040_ h1053_ (sm_dl_14 : sm_dl 14 p1 = (-1)) h1069_ h1074_ (sm_dl_0 : sm_dl 0 5 = 1) h1089_ h1091_)) (sm_HB_0 (la_stepBehind_171 h263_ h449_ h1040_))))))), ?_⟩
    refine ⟨(la_stepBehind_143 h1040_ h1053_ h1069_ h1099_), ?_⟩
    exact trivial
  intro h1101_
  intro h1102_
  intro h1103_
  intro h1104_
  rintro ⟨h1105_, ⟨h1106_, ⟨h1107_, h1108_⟩⟩⟩
  refine ⟨(la_stepBehind_78 h9_ h23_ h24_), ?_⟩
  intro h1109_
  refine ⟨?_, ?_⟩
  · skip
    intro h1110_
    have e1111_ : (if S 11 p2 = 2 then 2 else 4 : Int) = 4 := if_neg h1110_
    have h1112_ := (h26_.resolve_left h1110_)
    have h1113_ := (h63_ h1110_)
    obtain ⟨h1114_, ⟨h1115_, ⟨h1116_, h1117_⟩⟩⟩ := (h58_ h1112_)
    intro h1118_
    have h1119_ := (h1118_ h4_)
    have h1120_ := (h1119_ (sm_ex_e h1114_).1)
    obtain ⟨h1121_, ⟨h1122_, ⟨h1123_, h1124_⟩⟩⟩ := (h1120_ (sm_ex_e h1114_).2.1)
    obtain ⟨h1125_, ⟨h1126_, ⟨h1127_, h1128_⟩⟩⟩ := (h1121_ (sm_ex_e h1114_).2.2.1)
    intro h1129_
    have h1130_ := (h1129_ h4_)
    have h1131_ := (h1130_ (sm_ex_e h1116_).1)
    obtain ⟨h1132_, ⟨h1133_, ⟨h1134_, h1135_⟩⟩⟩ := (h1131_ (sm_ex_e h1116_).2.1)
    obtain ⟨h1136_, ⟨h1137_, ⟨h1138_, h1139_⟩⟩⟩ := (h1132_ (sm_ex_e h1116_).2.2.1)
    intro h1140_
    intro h1141_
    refine ⟨(la_stepBehind_185 h9_ h24_ (sm_ex_e h1114_).1 h1115_), ?_⟩
    refine ⟨(la_stepBehind_186 h16_ h45_), ?_⟩
    refine ⟨?_, ?_⟩
    · skip
      refine ⟨h4_, ?_⟩
      refine ⟨h5_, ?_⟩
      refine ⟨h6_, ?_⟩
      refine ⟨h7_, ?_⟩
      refine ⟨h8_, ?_⟩
      refine ⟨h9_, ?_⟩
      refine ⟨h10_, ?_⟩
      refine ⟨h11_, ?_⟩
      refine ⟨h12_, ?_⟩
      refine ⟨h13_, ?_⟩
      refine ⟨h14_, ?_⟩
      refine ⟨h15_, ?_⟩
      refine ⟨h16_, ?_⟩
      refine ⟨h17_, ?_⟩
      refine ⟨h18_, ?_⟩
      refine ⟨h19_, ?_⟩
      refine ⟨h20_, ?_⟩
      refine ⟨?_, ?_⟩
      · skip
        have e1142_ : S 12 (5 * p2 + 0) = S 12 (5 * p2) := congrArg ((S 12)) la_stepBehind_157
        exact (la_stepBehind_158 (sm_ex_e h1114_).1 e1142_)
      refine ⟨?_, ?_⟩
      · skip
        have e1143_ : S 12 (5 * p2 + 0) = S 12 (5 * p2) := congrArg ((S 12)) la_stepBehind_157
        exact (la_stepBehind_187 h24_ h1115_ e1143_)
      refine ⟨?_, ?_⟩
      · skip
        have e1144_ : S 12 (5 * p2 + 0) = S 12 (5 * p2) := congrArg ((S 12)) la_stepBehind_157
        have e1145_ : S 1100001 (S 12 (5 * p2 + 0)) = S 1100001 (S 12 (5 * p2)) := congrArg ((S 1100001)) e1144_
        have e1146_ : S 1100002 (S 12 (5 * p2 + 0)) = S 1100002 (S 12 (5 * p2)) := congrArg ((S 1100002)) e1144_
        have e1147_ : S 1100005 (S 12 (5 * p2 + 0)) = S 1100005 (S 12 (5 * p2)) := congrArg ((S 1100005)) e1144_
        exact (la_stepBehind_188 (sm_ex_e h1114_).2.2.1 e1145_)
      refine ⟨?_, ?_⟩
      · skip
        have e1148_ : S 12 (5 * p2 + 0) = S 12 (5 * p2) := congrArg ((S 12)) la_stepBehind_157
        exact (sm_LF_w h27_ sm_F1_rf (Int.le_refl _) (Int.le_refl _) h20_ (la_stepBehind_189 (sm_ex_e h1114_).2.2.2.1 h1115_ h1141_ e1148_))
      intro h1149_
      refine ⟨h29_, ?_⟩
      refine ⟨h30_, ?_⟩
      refine ⟨h31_, ?_⟩
      refine ⟨h32_, ?_⟩
      refine ⟨h33_, ?_⟩
      refine ⟨h34_, ?_⟩
      refine ⟨h35_, ?_⟩
      exact (la_stepBehind_190 h36_ (sm_ex_e h1114_).2.2.2.1 h1141_)
    refine ⟨?_, ?_⟩
    · skip
      refine ⟨?_, ?_⟩
      · skip
        have e1150_ : (if S 1047 0 = 0 then S 1100002 (S 12 (5 * p2 + 0)) + (600 - S 1046 0) + 8 else 4 : Int) = S 1100002 (S 12 (5 * p2 + 0)) + (600 - S 1046 0) + 8 := if_pos h28_
        have e1151_ : S 12 (5 * p2 + 0) = S 12 (5 * p2) := congrArg ((S 12)) la_stepBehind_157
        exact (la_stepBehind_191 h16_ h1125_ h1141_ e1150_)
      have e1152_ : (if S 1047 0 = 0 then S 1100002 (S 12 (5 * p2 + 0)) + (600 - S 1046 0) + 8 else 4 : Int) = S 1100002 (S 12 (5 * p2 + 0)) + (600 - S 1046 0) + 8 := if_pos h28_
      have e1153_ : S 12 (5 * p2 + 0) = S 12 (5 * p2) := congrArg ((S 12)) la_stepBehind_157
      exact (la_stepBehind_192 h37_ (sm_ex_e h1114_).2.2.2.1 h1141_ e1152_)
    refine ⟨?_, ?_⟩
    · skip
      refine ⟨?_, ?_⟩
      · skip
        have e1154_ : (if S 1047 0 = 0 then S 1100002 (S 12 (5 * p2 + 0)) + (600 - S 1046 0) + 8 else 4 : Int) = S 1100002 (S 12 (5 * p2 + 0)) + (600 - S 1046 0) + 8 := if_pos h28_
        have e1155_ : S 12 (5 * p2 + 0) = S 12 (5 * p2) := congrArg ((S 12)) la_stepBehind_157
        exact (la_stepBehind_191 h16_ h1125_ h1141_ e1154_)
      have e1156_ : (if S 1047 0 = 0 then S 1100002 (S 12 (5 * p2 + 0)) + (600 - S 1046 0) + 8 else 4 : Int) = S 1100002 (S 12 (5 * p2 + 0)) + (600 - S 1046 0) + 8 := if_pos h28_
      have e1157_ : S 12 (5 * p2 + 0) = S 12 (5 * p2) := congrArg ((S 12)) la_stepBehind_157
      exact (la_stepBehind_193 (sm_ex_e h1114_).2.2.2.1 h1141_ e1156_)
    intro g75
    rintro ⟨h1158_, ⟨h1159_, ⟨h1160_, ⟨h1161_, ⟨h1162_, ⟨h1163_, ⟨h1164_, ⟨h1165_, ⟨h1166_, ⟨h1167_, ⟨h1168_, ⟨h1169_, ⟨h1170_, ⟨h1171_, ⟨h1172_, ⟨h1173_, ⟨h1174_, ⟨h1175_, ⟨h1176_, ⟨h1177_, ⟨h1178_, ⟨h1179_, ⟨h1180_, ⟨h1181_, ⟨h1182_, ⟨h1183_, ⟨h1184_, h1185_⟩⟩⟩⟩⟩⟩⟩⟩⟩⟩⟩⟩⟩⟩⟩⟩⟩⟩⟩⟩⟩⟩⟩⟩⟩⟩⟩
    have h1186_ := (h1184_ h28_)
    refine ⟨(la_stepBehind_194 h9_ h24_ (sm_ex_e h1114_).1 h1115_), ?_⟩
    refine ⟨?_, ?_⟩
    · skip
      refine ⟨h4_, ?_⟩
      refine ⟨h5_, ?_⟩
      refine ⟨h6_, ?_⟩
      refine ⟨h7_, ?_⟩
      refine ⟨h8_, ?_⟩
      refine ⟨h9_, ?_⟩
      refine ⟨h10_, ?_⟩
      refine ⟨h11_, ?_⟩
      refine ⟨h12_, ?_⟩
      refine ⟨h13_, ?_⟩
      refine ⟨h14_, ?_⟩
      refine ⟨h1158_, ?_⟩
      refine ⟨h1159_, ?_⟩
      refine ⟨h1160_, ?_⟩
      refine ⟨h1161_, ?_⟩
      refine ⟨h1162_, ?_⟩
      refine ⟨h1163_, ?_⟩
      refine ⟨(sm_ex_e h1116_).1, ?_⟩
      refine ⟨(sm_ex_e h1116_).2.1, ?_⟩
      refine ⟨(sm_ex_e h1116_).2.2.1, ?_⟩
      refine ⟨(sm_LF_w h27_ (sm_F1_le h1182_ (la_stepBehind_195 h1181_)) (Int.le_refl _) (la_stepBehind_195 h1181_) h1163_ (la_stepBehind_196 (sm_ex_e h1116_).2.2.2.1 h1117_)), ?_⟩
      intro h1187_
      obtain ⟨h1188_, ⟨h1189_, ⟨h1190_, ⟨h1191_, ⟨h1192_, ⟨h1193_, ⟨h1194_, ⟨h1195_, ⟨h1196_, ⟨h1197_, ⟨h1198_, ⟨h1199_, ⟨h1200_, ⟨h1201_, ⟨h1202_, ⟨h1203_, -⟩⟩⟩⟩⟩⟩⟩⟩⟩⟩⟩⟩⟩⟩⟩⟩ := (h1185_ h1187_)
      refine ⟨h1189_, ?_⟩
      refine ⟨h1190_, ?_⟩
      refine ⟨h1191_, ?_⟩
      refine ⟨h1192_, ?_⟩
      refine ⟨(la_stepBehind_197 h33_ h1195_ h1196_ h1199_), ?_⟩
      refine ⟨(la_stepBehind_197 h34_ h1195_ h1198_ h1200_), ?_⟩
      refine ⟨(la_stepBehind_198 h35_ h1193_ h1195_), ?_⟩
      exact (la_stepBehind_199 h36_ (sm_ex_e h1116_).2.2.2.1 h1203_)
    refine ⟨?_, ?_⟩
    · skip
      refine ⟨?_, ?_⟩
      · skip
        have e1204_ : S 12 (5 * p2 + 0) = S 12 (5 * p2) := congrArg ((S 12)) la_stepBehind_157
        have e1205_ : S 1100002 (S 12 (5 * p2 + 0)) = S 1100002 (S 12 (5 * p2)) := congrArg ((S 1100002)) e1204_
        have e1206_ : S 1100005 (S 12 (5 * p2 + 0)) = S 1100005 (S 12 (5 * p2)) := congrArg ((S 1100005)) e1204_
        by_cases c1207_ : g75 1047 0 = 0
        · skip
          have e1208_ : (if g75 1047 0 = 0 then S 1100002 (S 12 (5 * p2 + 1)) + (600 - g75 1046 0) + 8 else 4 : Int) = S 1100002 (S 12 (5 * p2 + 1)) + (600 - g75 1046 0) + 8 := if_pos c1207_
          obtain ⟨h1209_, ⟨h1210_, ⟨h1211_, ⟨h1212_, ⟨h1213_, ⟨h1214_, ⟨h1215_, ⟨h1216_, ⟨h1217_, ⟨h1218_, ⟨h1219_, ⟨h1220_, ⟨h1221_, ⟨h1222_, ⟨h1223_, ⟨h1224_, -⟩⟩⟩⟩⟩⟩⟩⟩⟩⟩⟩⟩⟩⟩⟩⟩ := (h1185_ c1207_)
          exact (la_stepBehind_200 h1136_ h1159_ e1208_)
        · skip
          have e1225_ : (if g75 1047 0 = 0 then S 1100002 (S 12 (5 * p2 + 1)) + (600 - g75 1046 0) + 8 else 4 : Int) = 4 := if_neg c1207_
          exact (la_stepBehind_202 e1225_)
      have e1226_ : S 12 (5 * p2 + 0) = S 12 (5 * p2) := congrArg ((S 12)) la_stepBehind_157
      have e1227_ : S 1100002 (S 12 (5 * p2 + 0)) = S 1100002 (S 12 (5 * p2)) := congrArg ((S 1100002)) e1226_
      have e1228_ : S 1100005 (S 12 (5 * p2 + 0)) = S 1100005 (S 12 (5 * p2)) := congrArg ((S 1100005)) e1226_
      by_cases c1229_ : g75 1047 0 = 0
      · skip
        have e1230_ : (if g75 1047 0 = 0 then S 1100002 (S 12 (5 * p2 + 1)) + (600 - g75 1046 0) + 8 else 4 : Int) = S 1100002 (S 12 (5 * p2 + 1)) + (600 - g75 1046 0) + 8 := if_pos c1229_
        obtain ⟨h1231_, ⟨h1232_, ⟨h1233_, ⟨h1234_, ⟨h1235_, ⟨h1236_, ⟨h1237_, ⟨h1238_, ⟨h1239_, ⟨h1240_, ⟨h1241_, ⟨h1242_, ⟨h1243_, ⟨h1244_, ⟨h1245_, ⟨h1246_, -⟩⟩⟩⟩⟩⟩⟩⟩⟩⟩⟩⟩⟩⟩⟩⟩ := (h1185_ c1229_)
        exact (la_stepBehind_203 h37_ (sm_ex_e h1116_).2.2.2.1 e1230_ h1236_)
      · skip
        have e1247_ : (if g75 1047 0 = 0 then S 1100002 (S 12 (5 * p2 + 1)) + (600 - g75 1046 0) + 8 else 4 : Int) = 4 := if_neg c1229_
        exact (la_stepBehind_204 h16_ h37_ (sm_ex_e h1116_).2.2.2.1 h1136_ e1247_)
    refine ⟨?_, ?_⟩
    · skip
      refine ⟨?_, ?_⟩
      · skip
        have e1248_ : S 12 (5 * p2 + 0) = S 12 (5 * p2) := congrArg ((S 12)) la_stepBehind_157
        have e1249_ : S 1100002 (S 12 (5 * p2 + 0)) = S 1100002 (S 12 (5 * p2)) := congrArg ((S 1100002)) e1248_
        have e1250_ : S 1100005 (S 12 (5 * p2 + 0)) = S 1100005 (S 12 (5 * p2)) := congrArg ((S 1100005)) e1248_
        by_cases c1251_ : g75 1047 0 = 0
        · skip
          have e1252_ : (if g75 1047 0 = 0 then S 1100002 (S 12 (5 * p2 + 1)) + (600 - g75 1046 0) + 8 else 4 : Int) = S 1100002 (S 12 (5 * p2 + 1)) + (600 - g75 1046 0) + 8 := if_pos c1251_
          obtain ⟨h1253_, ⟨h1254_, ⟨h1255_, ⟨h1256_, ⟨h1257_, ⟨h1258_, ⟨h1259_, ⟨h1260_, ⟨h1261_, ⟨h1262_, ⟨h1263_, ⟨h1264_, ⟨h1265_, ⟨h1266_, ⟨h1267_, ⟨h1268_, -⟩⟩⟩⟩⟩⟩⟩⟩⟩⟩⟩⟩⟩⟩⟩⟩ := (h1185_ c1251_)
          exact (la_stepBehind_200 h1136_ h1159_ e1252_)
        · skip
          have e1269_ : (if g75 1047 0 = 0 then S 1100002 (S 12 (5 * p2 + 1)) + (600 - g75 1046 0) + 8 else 4 : Int) = 4 := if_neg c1251_
          exact (la_stepBehind_202 e1269_)
      have e1270_ : S 12 (5 * p2 + 0) = S 12 (5 * p2) := congrArg ((S 12)) la_stepBehind_157
      have e1271_ : S 1100002 (S 12 (5 * p2 + 0)) = S 1100002 (S 12 (5 * p2)) := congrArg ((S 1100002)) e1270_
      have e1272_ : S 1100005 (S 12 (5 * p2 + 0)) = S 1100005 (S 12 (5 * p2)) := congrArg ((S 1100005)) e1270_
      by_cases c1273_ : 0 ≤ S 1100023 (S 1046 0)
      · skip
        have h1274_ := (h33_ c1273_)
        by_cases c1277_ : g75 1047 0 = 0
        · skip
          have e1278_ : (if g75 1047 0 = 0 then S 1100002 (S 12 (5 * p2 + 1)) + (600 - g75 1046 0) + 8 else 4 : Int) = S 1100002 (S 12 (5 * p2 + 1)) + (600 - g75 1046 0) + 8 := if_pos c1277_
          obtain ⟨h1279_, ⟨h1280_, ⟨h1281_, ⟨h1282_, ⟨h1283_, ⟨h1284_, ⟨h1285_, ⟨h1286_, ⟨h1287_, ⟨h1288_, ⟨h1289_, ⟨h1290_, ⟨h1291_, ⟨h1292_, ⟨h1293_, ⟨h1294_, -⟩⟩⟩⟩⟩⟩⟩⟩⟩⟩⟩⟩⟩⟩⟩⟩ := (h1185_ c1277_)
          exact (la_stepBehind_205 (sm_ex_e h1116_).2.2.2.1 e1278_ h1284_)
        · skip
          have e1295_ : (if g75 1047 0 = 0 then S 1100002 (S 12 (5 * p2 + 1)) + (600 - g75 1046 0) + 8 else 4 : Int) = 4 := if_neg c1277_
          exact (la_stepBehind_206 h16_ h45_ e1295_)
      · skip
        by_cases c1298_ : g75 1047 0 = 0
        · skip
          have e1299_ : (if g75 1047 0 = 0 then S 1100002 (S 12 (5 * p2 + 1)) + (600 - g75 1046 0) + 8 else 4 : Int) = S 1100002 (S 12 (5 * p2 + 1)) + (600 - g75 1046 0) + 8 := if_pos c1298_
          obtain ⟨h1300_, ⟨h1301_, ⟨h1302_, ⟨h1303_, ⟨h1304_, ⟨h1305_, ⟨h1306_, ⟨h1307_, ⟨h1308_, ⟨h1309_, ⟨h1310_, ⟨h1311_, ⟨h1312_, ⟨h1313_, ⟨h1314_, ⟨h1315_, -⟩⟩⟩⟩⟩⟩⟩⟩⟩⟩⟩⟩⟩⟩⟩⟩ := (h1185_ c1298_)
          exact (la_stepBehind_205 (sm_ex_e h1116_).2.2.2.1 e1299_ h1305_)
        · skip
          have e1316_ : (if g75 1047 0 = 0 then S 1100002 (S 12 (5 * p2 + 1)) + (600 - g75 1046 0) + 8 else 4 : Int) = 4 := if_neg c1298_
          exact (la_stepBehind_206 h16_ h45_ e1316_)
    intro g85
    rintro ⟨h1317_, ⟨h1318_, ⟨h1319_, ⟨h1320_, ⟨h1321_, ⟨h1322_, ⟨h1323_, ⟨h1324_, ⟨h1325_, ⟨h1326_, ⟨h1327_, ⟨h1328_, ⟨h1329_, ⟨h1330_, ⟨h1331_, ⟨h1332_, ⟨h1333_, ⟨h1334_, ⟨h1335_, ⟨h1336_, ⟨h1337_, ⟨h1338_, ⟨h1339_, ⟨h1340_, ⟨h1341_, ⟨h1342_, ⟨h1343_, h1344_⟩⟩⟩⟩⟩⟩⟩⟩⟩⟩⟩⟩⟩⟩⟩⟩⟩⟩⟩⟩⟩⟩⟩⟩⟩⟩⟩
    refine ⟨?_, ?_⟩
    · skip
      refine ⟨h1317_, ?_⟩
      refine ⟨h1318_, ?_⟩
      refine ⟨h1319_, ?_⟩
      refine ⟨h1320_, ?_⟩
      intro h1345_
      have h1346_ : ¬ (g75 1047 0 = 1) := fun q_ => (la_stepBehind_3 h1345_) (h1324_ q_)
      obtain ⟨h1347_, ⟨h1348_, ⟨h1349_, ⟨h1350_, ⟨h1351_, ⟨h1352_, ⟨h1353_, ⟨h1354_, ⟨h1355_, ⟨h1356_, ⟨h1357_, ⟨h1358_, ⟨h1359_, ⟨h1360_, ⟨h1361_, ⟨h1362_, -⟩⟩⟩⟩⟩⟩⟩⟩⟩⟩⟩⟩⟩⟩⟩⟩ := (h1344_ h1345_)
      have h1363_ := (h1343_ h1347_)
      obtain ⟨h1364_, ⟨h1365_, ⟨h1366_, ⟨h1367_, ⟨h1368_, ⟨h1369_, ⟨h1370_, ⟨h1371_, ⟨h1372_, ⟨h1373_, ⟨h1374_, ⟨h1375_, ⟨h1376_, ⟨h1377_, ⟨h1378_, ⟨h1379_, -⟩⟩⟩⟩⟩⟩⟩⟩⟩⟩⟩⟩⟩⟩⟩⟩ := (h1185_ h1347_)
      refine ⟨h1348_, ?_⟩
      refine ⟨la_stepBehind_207, ?_⟩
      refine ⟨la_stepBehind_208, ?_⟩
      refine ⟨(sm_ci_19 (la_stepBehind_209 (sm_KC_n h29_).2.1.1 h33_ h34_ h35_ h1352_ h1354_ h1355_ h1357_ h1358_ h1359_ h1369_ h1371_ h1372_ h1374_ h1375_ h1376_ (sm_dl_19 : sm_dl 19 0 = 2) (sm_nt_19 : sm_nt 19 (g85 1046 0) (g85 1100023 (g85 1046 0)) (g85 1100023 (g85 1100023 (g85 1046 0))) = g85 1100023 (g85 1046 0)) (sm_nl_19 : sm_nl 19 (g85 1046 0) (g85 1100007 (g85 1046 0)) (g85 1100025 (g85 1046 0)) (g85 1100007 (g85 1100025 (g85 1046 0))) (g85 1100025 (g85 1100025 (g85 1046 0))) = g85 1100025 (g85 1046 0)))), ?_⟩
      refine ⟨la_stepBehind_210, ?_⟩
      intro h1380_
      have h1381_ := (h1380_.resolve_left la_stepBehind_211)
      have h1382_ := (h59_ (sm_nm_i (la_stepBehind_212 h1381_) (la_stepBehind_213 h1381_) (la_stepBehind_214 h1381_)))
      have h1383_ := (h1126_ (la_stepBehind_215 h1381_))
      have h1384_ := (h1137_ (la_stepBehind_215 h1381_))
      obtain ⟨h1385_, h1386_⟩ := (h1382_ h5_)
      have h1387_ := (h33_ (la_stepBehind_217 h1381_))
      have h1388_ := (h34_ (la_stepBehind_217 h1381_))
      have h1389_ := (h1127_ (la_stepBehind_218 h1381_))
      have h1390_ := (h1138_ (la_stepBehind_218 h1381_))
      have e1391_ : S 1100001 (S 12 (5 * p2 + 1)) = S 1100001 (S 12 (5 * p2)) := congrArg ((S 1100001)) (la_stepBehind_219 h1381_)
      have e1392_ : S 1100001 p2 = S 1100001 (S 12 (5 * p2)) := congrArg ((S 1100001)) (la_stepBehind_219 h1381_)
      have e1393_ : S 1100001 p2 = S 1100001 (S 12 (5 * p2 + 1)) := congrArg ((S 1100001)) (la_stepBehind_219 h1381_)
      have e1394_ : S 1100002 (S 12 (5 * p2 + 0)) = S 1100002 (S 12 (5 * p2)) := congrArg ((S 1100002)) (la_stepBehind_219 h1381_)
      have e1395_ : S 1100002 (S 12 (5 * p2 + 1)) = S 1100002 (S 12 (5 * p2)) := congrArg ((S 1100002)) (la_stepBehind_219 h1381_)
      have e1396_ : S 1100002 (S 12 (5 * p2 + 1)) = S 1100002 (S 12 (5 * p2 + 0)) := congrArg ((S 1100002)) (la_stepBehind_219 h1381_)
      have e1397_ : S 1100002 p2 = S 1100002 (S 12 (5 * p2)) := congrArg ((S 1100002)) (la_stepBehind_219 h1381_)
      have e1398_ : S 1100002 p2 = S 1100002 (S 12 (5 * p2 + 0)) := congrArg ((S 1100002)) (la_stepBehind_219 h1381_)
      have e1399_ : S 1100002 p2 = S 1100002 (S 12 (5 * p2 + 1)) := congrArg ((S 1100002)) (la_stepBehind_219 h1381_)
      have e1400_ : S 1100005 (S 12 (5 * p2 + 0)) = S 1100005 (S 12 (5 * p2)) := congrArg ((S 1100005)) (la_stepBehind_219 h1381_)
      have e1401_ : S 1100005 (S 12 (5 * p2 + 1)) = S 1100005 (S 12 (5 * p2)) := congrArg ((S 1100005)) (la_stepBehind_219 h1381_)
      have e1402_ : S 1100005 (S 12 (5 * p2 + 1)) = S 1100005 (S 12 (5 * p2 + 0)) := congrArg ((S 1100005)) (la_stepBehind_219 h1381_)
      have e1403_ : S 1100005 p2 = S 1100005 (S 12 (5 * p2)) := congrArg ((S 1100005)) (la_stepBehind_219 h1381_)
      have e1404_ : S 1100005 p2 = S 1100005 (S 12 (5 * p2 + 0)) := congrArg ((S 1100005)) (la_stepBehind_219 h1381_)
      have e1405_ : S 1100005 p2 = S 1100005 (S 12 (5 * p2 + 1)) := congrArg ((S 1100005)) (la_stepBehind_219 h1381_)
      have e1406_ : S 1100007 (S 1100023 (S 1046 0)) = S 1100007 (S 1046 0) := congrArg ((S 1100007)) (la_stepBehind_219 h1381_)
      have e1407_ : S 1100007 (S 1100025 (S 1046 0)) = S 1100007 (S 1046 0) := congrArg ((S 1100007)) (la_stepBehind_219 h1381_)
      have e1408_ : S 1100007 (S 1100025 (S 1046 0)) = S 1100007 (S 1100023 (S 1046 0)) := congrArg ((S 1100007)) (la_stepBehind_219 h1381_)
      have e1409_ : S 1100007 (g75 1046 0) = S 1100007 (S 1046 0) := congrArg ((S 1100007)) (la_stepBehind_219 h1381_)
      have e1410_ : S 1100007 (g75 1046 0) = S 1100007 (S 1100023 (S 1046 0)) := congrArg ((S 1100007)) (la_stepBehind_219 h1381_)
      have e1411_ : S 1100007 (g75 1046 0) = S 1100007 (S 1100025 (S 1046 0)) := congrArg ((S 1100007)) (la_stepBehind_219 h1381_)
      have e1412_ : S 1100007 (g75 1100023 (g75 1046 0)) = S 1100007 (S 1046 0) := congrArg ((S 1100007)) (la_stepBehind_219 h1381_)
      have e1413_ : S 1100007 (g75 1100023 (g75 1046 0)) = S 1100007 (S 1100023 (S 1046 0)) := congrArg ((S 1100007)) h1372_
      have e1414_ : S 1100007 (g75 1100023 (g75 1046 0)) = S 1100007 (S 1100025 (S 1046 0)) := congrArg ((S 1100007)) (la_stepBehind_219 h1381_)
      have e1415_ : S 1100007 (g75 1100023 (g75 1046 0)) = S 1100007 (g75 1046 0) := congrArg ((S 1100007)) (la_stepBehind_219 h1381_)
      have e1416_ : S 1100007 (g75 1100025 (g75 1046 0)) = S 1100007 (S 1046 0) := congrArg ((S 1100007)) (la_stepBehind_219 h1381_)
      have e1417_ : S 1100007 (g75 1100025 (g75 1046 0)) = S 1100007 (S 1100023 (S 1046 0)) := congrArg ((S 1100007)) (la_stepBehind_219 h1381_)
      have e1418_ : S 1100007 (g75 1100025 (g75 1046 0)) = S 1100007 (S 1100025 (S 1046 0)) := congrArg ((S 1100007)) h1374_
      have e1419_ : S 1100007 (g75 1100025 (g75 1046 0)) = S 1100007 (g75 1046 0) := congrArg ((S 1100007)) (la_stepBehind_219 h1381_)
      have e1420_ : S 1100007 (g75 1100025 (g75 1046 0)) = S 1100007 (g75 1100023 (g75 1046 0)) := congrArg ((S 1100007)) (la_stepBehind_219 h1381_)
      have e1421_ : S 1100007 (g85 1046 0) = S 1100007 (S 1046 0) := congrArg ((S 1100007)) (la_stepBehind_219 h1381_)
      have e1422_ : S 1100007 (g85 1046 0) = S 1100007 (S 1100023 (S 1046 0)) := congrArg ((S 1100007)) (la_stepBehind_219 h1381_)
      have e1423_ : S 1100007 (g85 1046 0) = S 1100007 (S 1100025 (S 1046 0)) := congrArg ((S 1100007)) (la_stepBehind_219 h1381_)
      have e1424_ : S 1100007 (g85 1046 0) = S 1100007 (g75 1046 0) := congrArg ((S 1100007)) (la_stepBehind_219 h1381_)
      have e1425_ : S 1100007 (g85 1046 0) = S 1100007 (g75 1100023 (g75 1046 0)) := congrArg ((S 1100007)) (la_stepBehind_219 h1381_)
      have e1426_ : S 1100007 (g85 1046 0) = S 1100007 (g75 1100025 (g75 1046 0)) := congrArg ((S 1100007)) (la_stepBehind_219 h1381_)
      have e1427_ : S 1100007 (g85 1100023 (g85 1046 0)) = S 1100007 (S 1046 0) := congrArg ((S 1100007)) (la_stepBehind_219 h1381_)
      have e1428_ : S 1100007 (g85 1100023 (g85 1046 0)) = S 1100007 (S 1100023 (S 1046 0)) := congrArg ((S 1100007)) (la_stepBehind_219 h1381_)
      have e1429_ : S 1100007 (g85 1100023 (g85 1046 0)) = S 1100007 (S 1100025 (S 1046 0)) := congrArg ((S 1100007)) (la_stepBehind_219 h1381_)
      have e1430_ : S 1100007 (g85 1100023 (g85 1046 0)) = S 1100007 (g75 1046 0) := congrArg ((S 1100007)) (la_stepBehind_219 h1381_)
      have e1431_ : S 1100007 (g85 1100023 (g85 1046 0)) = S 1100007 (g75 1100023 (g75 1046 0)) := congrArg ((S 1100007)) h1355_
      have e1432_ : S 1100007 (g85 1100023 (g85 1046 0)) = S 1100007 (g75 1100025 (g75 1046 0)) := congrArg ((S 1100007)) (la_stepBehind_219 h1381_)
      have e1433_ : S 1100007 (g85 1100023 (g85 1046 0)) = S 1100007 (g85 1046 0) := congrArg ((S 1100007)) (la_stepBehind_219 h1381_)
      have e1434_ : S 1100007 (g85 1100025 (g85 1046 0)) = S 1100007 (S 1046 0) := congrArg ((S 1100007)) (la_stepBehind_219 h1381_)
      have e1435_ : S 1100007 (g85 1100025 (g85 1046 0)) = S 1100007 (S 1100023 (S 1046 0)) := congrArg ((S 1100007)) (la_stepBehind_219 h1381_)
      have e1436_ : S 1100007 (g85 1100025 (g85 1046 0)) = S 1100007 (S 1100025 (S 1046 0)) := congrArg ((S 1100007)) (la_stepBehind_219 h1381_)
      have e1437_ : S 1100007 (g85 1100025 (g85 1046 0)) = S 1100007 (g75 1046 0) := congrArg ((S 1100007)) (la_stepBehind_219 h1381_)
      have e1438_ : S 1100007 (g85 1100025 (g85 1046 0)) = S 1100007 (g75 1100023 (g75 1046 0)) := congrArg ((S 1100007)) (la_stepBehind_219 h1381_)
      have e1439_ : S 1100007 (g85 1100025 (g85 1046 0)) = S 1100007 (g75 1100025 (g75 1046 0)) := congrArg ((S 1100007)) h1357_
      have e1440_ : S 1100007 (g85 1100025 (g85 1046 0)) = S 1100007 (g85 1046 0) := congrArg ((S 1100007)) (la_stepBehind_219 h1381_)
      have e1441_ : S 1100007 (g85 1100025 (g85 1046 0)) = S 1100007 (g85 1100023 (g85 1046 0)) := congrArg ((S 1100007)) (la_stepBehind_219 h1381_)
      have e1442_ : S 1100023 (g75 1046 0) = S 1100023 (S 1046 0) := congrArg ((S 1100023)) (la_stepBehind_219 h1381_)
      have e1443_ : S 1100023 (g85 1046 0) = S 1100023 (S 1046 0) := congrArg ((S 1100023)) (la_stepBehind_219 h1381_)
      have e1444_ : S 1100023 (g85 1046 0) = S 1100023 (g75 1046 0) := congrArg ((S 1100023)) (la_stepBehind_219 h1381_)
      have e1445_ : S 1100024 (g75 1046 0) = S 1100024 (S 1046 0) := congrArg ((S 1100024)) (la_stepBehind_219 h1381_)
      have e1446_ : S 1100024 (g85 1046 0) = S 1100024 (S 1046 0) := congrArg ((S 1100024)) (la_stepBehind_219 h1381_)
      have e1447_ : S 1100024 (g85 1046 0) = S 1100024 (g75 1046 0) := congrArg ((S 1100024)) (la_stepBehind_219 h1381_)
      have e1448_ : S 1100025 (g75 1046 0) = S 1100025 (S 1046 0) := congrArg ((S 1100025)) (la_stepBehind_219 h1381_)
      have e1449_ : S 1100025 (g85 1046 0) = S 1100025 (S 1046 0) := congrArg ((S 1100025)) (la_stepBehind_219 h1381_)
      have e1450_ : S 1100025 (g85 1046 0) = S 1100025 (g75 1046 0) := congrArg ((S 1100025)) (la_stepBehind_219 h1381_)
      have e1451_ : S 12 (5 * S 12 (5 * p2) + 1) = S 12 (5 * p2) := congrArg ((S 12)) (la_stepBehind_220 h1381_)
      have e1452_ : S 12 (5 * S 12 (5 * p2 + 1) + 1) = S 12 (5 * p2) := congrArg ((S 12)) (la_stepBehind_220 h1381_)
      have e1453_ : S 12 (5 * S 12 (5 * p2 + 1) + 1) = S 12 (5 * S 12 (5 * p2) + 1) := congrArg ((S 12)) (la_stepBehind_221 h1381_)
      have e1454_ : S 12 (5 * p2 + 0) = S 12 (5 * p2) := congrArg ((S 12)) la_stepBehind_157
      have e1455_ : S 12 (5 * p2 + 0) = S 12 (5 * S 12 (5 * p2) + 1) := congrArg ((S 12)) (la_stepBehind_222 h1381_)
      have e1456_ : S 12 (5 * p2 + 0) = S 12 (5 * S 12 (5 * p2 + 1) + 1) := congrArg ((S 12)) (la_stepBehind_222 h1381_)
      have e1457_ : S 12 (5 * p2 + 1) = S 12 (5 * p2) := congrArg ((S 12)) (la_stepBehind_223 h1381_)
      have e1458_ : S 12 (5 * p2 + 1) = S 12 (5 * S 12 (5 * p2) + 1) := congrArg ((S 12)) (la_stepBehind_221 h1381_)
      have e1459_ : S 12 (5 * p2 + 1) = S 12 (5 * S 12 (5 * p2 + 1) + 1) := congrArg ((S 12)) (la_stepBehind_221 h1381_)
      have e1460_ : S 12 (5 * p2 + 1) = S 12 (5 * p2 + 0) := congrArg ((S 12)) (la_stepBehind_224 h1381_)
      have e1461_ : g75 1100007 (g75 1100023 (g75 1046 0)) = g75 1100007 (g75 1046 0) := congrArg ((g75 1100007)) (la_stepBehind_219 h1381_)
      have e1462_ : g75 1100007 (g75 1100025 (g75 1046 0)) = g75 1100007 (g75 1046 0) := congrArg ((g75 1100007)) (la_stepBehind_219 h1381_)
      have e1463_ : g75 1100007 (g75 1100025 (g75 1046 0)) = g75 1100007 (g75 1100023 (g75 1046 0)) := congrArg ((g75 1100007)) (la_stepBehind_219 h1381_)
      have e1464_ : g75 1100007 (g85 1046 0) = g75 1100007 (g75 1046 0) := congrArg ((g75 1100007)) (la_stepBehind_219 h1381_)
      have e1465_ : g75 1100007 (g85 1046 0) = g75 1100007 (g75 1100023 (g75 1046 0)) := congrArg ((g75 1100007)) (la_stepBehind_219 h1381_)
      have e1466_ : g75 1100007 (g85 1046 0) = g75 1100007 (g75 1100025 (g75 1046 0)) := congrArg ((g75 1100007)) (la_stepBehind_219 h1381_)
      have e1467_ : g75 1100007 (g85 1100023 (g85 1046 0)) = g75 1100007 (g75 1046 0) := congrArg ((g75 1100007)) (la_stepBehind_219 h1381_)
      have e1468_ : g75 1100007 (g85 1100023 (g85 1046 0)) = g75 1100007 (g75 1100023 (g75 1046 0)) := congrArg ((g75 1100007)) h1355_
      have e1469_ : g75 1100007 (g85 1100023 (g85 1046 0)) = g75 1100007 (g75 1100025 (g75 1046 0)) := congrArg ((g75 1100007)) (la_stepBehind_219 h1381_)
      have e1470_ : g75 1100007 (g85 1100023 (g85 1046 0)) = g75 1100007 (g85 1046 0) := congrArg ((g75 1100007)) (la_stepBehind_219 h1381_)
      have e1471_ : g75 1100007 (g85 1100025 (g85 1046 0)) = g75 1100007 (g75 1046 0) := congrArg ((g75 1100007)) (la_stepBehind_219 h1381_)
      have e1472_ : g75 1100007 (g85 1100025 (g85 1046 0)) = g75 1100007 (g75 1100023 (g75 1046 0)) := congrArg ((g75 1100007)) (la_stepBehind_219 h1381_)
      have e1473_ : g75 1100007 (g85 1100025 (g85 1046 0)) = g75 1100007 (g75 1100025 (g75 1046 0)) := congrArg ((g75 1100007)) h1357_
      have e1474_ : g75 1100007 (g85 1100025 (g85 1046 0)) = g75 1100007 (g85 1046 0) := congrArg ((g75 1100007)) (la_stepBehind_219 h1381_)
      have e1475_ : g75 1100007 (g85 1100025 (g85 1046 0)) = g75 1100007 (g85 1100023 (g85 1046 0)) := congrArg ((g75 1100007)) (la_stepBehind_219 h1381_)
      have e1476_ : g75 1100023 (g85 1046 0) = g75 1100023 (g75 1046 0) := congrArg ((g75 1100023)) (la_stepBehind_219 h1381_)
      have e1477_ : g75 1100024 (g85 1046 0) = g75 1100024 (g75 1046 0) := congrArg ((g75 1100024)) (la_stepBehind_219 h1381_)
      have e1478_ : g75 1100025 (g85 1046 0) = g75 1100025 (g75 1046 0) := congrArg ((g75 1100025)) (la_stepBehind_219 h1381_)
      have e1479_ : g85 1100007 (g85 1100023 (g85 1046 0)) = g85 1100007 (g85 1046 0) := congrArg ((g85 1100007)) (la_stepBehind_219 h1381_)
      have e1480_ : g85 1100007 (g85 1100025 (g85 1046 0)) = g85 1100007 (g85 1046 0) := congrArg ((g85 1100007)) (la_stepBehind_219 h1381_)
      have e1481_ : g85 1100007 (g85 1100025 (g85 1046 0)) = g85 1100007 (g85 1100023 (g85 1046 0)) := congrArg ((g85 1100007)) (la_stepBehind_219 h1381_)
      have e1482_ : g85 1100023 (g85 1100023 (g85 1046 0)) = g85 1100023 (g85 1046 0) := congrArg ((g85 1100023)) (la_stepBehind_219 h1381_)
      have e1483_ : g85 1100025 (g85 1100025 (g85 1046 0)) = g85 1100025 (g85 1046 0) := congrArg ((g85 1100025)) (la_stepBehind_219 h1381_)
      have e1484_ : S 1100023 (g85 1100023 (g85 1046 0)) = S 1100023 (S 1046 0) := congrArg ((S 1100023)) (la_stepBehind_219 h1381_)
      have e1485_ : S 1100023 (g85 1100023 (g85 1046 0)) = S 1100023 (g75 1046 0) := congrArg ((S 1100023)) (la_stepBehind_219 h1381_)
      have e1486_ : S 1100023 (g85 1100023 (g85 1046 0)) = S 1100023 (g85 1046 0) := congrArg ((S 1100023)) (la_stepBehind_219 h1381_)
      have e1487_ : S 1100025 (g85 1100025 (g85 1046 0)) = S 1100025 (S 1046 0) := congrArg ((S 1100025)) (la_stepBehind_219 h1381_)
      have e1488_ : S 1100025 (g85 1100025 (g85 1046 0)) = S 1100025 (g75 1046 0) := congrArg ((S 1100025)) (la_stepBehind_219 h1381_)
      have e1489_ : S 1100025 (g85 1100025 (g85 1046 0)) = S 1100025 (g85 1046 0) := congrArg ((S 1100025)) (la_stepBehind_219 h1381_)
      have e1490_ : g75 1100023 (g85 1100023 (g85 1046 0)) = g75 1100023 (g75 1046 0) := congrArg ((g75 1100023)) (la_stepBehind_219 h1381_)
      have e1491_ : g75 1100023 (g85 1100023 (g85 1046 0)) = g75 1100023 (g85 1046 0) := congrArg ((g75 1100023)) (la_stepBehind_219 h1381_)
      have e1492_ : g75 1100025 (g85 1100025 (g85 1046 0)) = g75 1100025 (g75 1046 0) := congrArg ((g75 1100025)) (la_stepBehind_219 h1381_)
      have e1493_ : g75 1100025 (g85 1100025 (g85 1046 0)) = g75 1100025 (g85 1046 0) := congrArg ((g75 1100025)) (la_stepBehind_219 h1381_)
      exact ((la_stepBehind_225 h1381_)).elim
    refine ⟨(la_stepBehind_226 h16_ h45_), ?_⟩
    intro g93
    rintro ⟨h1494_, ⟨h1495_, ⟨h1496_, ⟨h1497_, ⟨h1498_, ⟨h1499_, ⟨h1500_, ⟨h1501_, ⟨h1502_, ⟨h1503_, ⟨h1504_, ⟨h1505_, ⟨h1506_, ⟨h1507_, ⟨h1508_, ⟨h1509_, h1510_⟩⟩⟩⟩⟩⟩⟩⟩⟩⟩⟩⟩⟩⟩⟩⟩
    refine ⟨?_, ?_⟩
    · skip
      refine ⟨(la_stepBehind_21 h1496_), ?_⟩
      refine ⟨h1499_, ?_⟩
      refine ⟨h1494_, ?_⟩
      refine ⟨h1495_, ?_⟩
      intro h1511_
      have h1512_ : ¬ (g85 1047 0 = 1) := fun q_ => (la_stepBehind_3 h1511_) (h1500_ q_)
      obtain ⟨h1513_, ⟨h1514_, ⟨h1515_, ⟨h1516_, ⟨h1517_, ⟨h1518_, ⟨h1519_, ⟨h1520_, ⟨h1521_, ⟨h1522_, ⟨h1523_, ⟨h1524_, ⟨h1525_, h1526_⟩⟩⟩⟩⟩⟩⟩⟩⟩⟩⟩⟩⟩ := (h1510_ h1511_)
      have h1527_ : ¬ (g75 1047 0 = 1) := fun q_ => h1512_ (h1324_ q_)
      have h1528_ := (h1526_ la_stepBehind_227)
      obtain ⟨h1529_, ⟨h1530_, ⟨h1531_, ⟨h1532_, ⟨h1533_, ⟨h1534_, ⟨h1535_, ⟨h1536_, ⟨h1537_, ⟨h1538_, ⟨h1539_, ⟨h1540_, ⟨h1541_, ⟨h1542_, ⟨h1543_, ⟨h1544_, -⟩⟩⟩⟩⟩⟩⟩⟩⟩⟩⟩⟩⟩⟩⟩⟩ := (h1344_ h1513_)
      have h1545_ := (h1343_ h1529_)
      have h1546_ := (h1528_ la_stepBehind_229)
      obtain ⟨h1547_, ⟨h1548_, ⟨h1549_, ⟨h1550_, ⟨h1551_, ⟨h1552_, ⟨h1553_, ⟨h1554_, ⟨h1555_, ⟨h1556_, ⟨h1557_, ⟨h1558_, ⟨h1559_, ⟨h1560_, ⟨h1561_, ⟨h1562_, -⟩⟩⟩⟩⟩⟩⟩⟩⟩⟩⟩⟩⟩⟩⟩⟩ := (h1185_ h1529_)
      refine ⟨h1515_, ?_⟩
      refine ⟨la_stepBehind_230, ?_⟩
      refine ⟨la_stepBehind_231, ?_⟩
      refine ⟨(sm_ci_10 (la_stepBehind_232 h33_ h34_ h1519_ (sm_dl_19 : sm_dl 19 0 = 2) h1520_ (sm_nt_19 : sm_nt 19 (g85 1046 0) (g85 1100023 (g85 1046 0)) (g85 1100023 (g85 1100023 (g85 1046 0))) = g85 1100023 (g85 1046 0)) h1522_ (sm_nl_19 : sm_nl 19 (g85 1046 0) (g85 1100007 (g85 1046 0)) (g85 1100025 (g85 1046 0)) (g85 1100007 (g85 1100025 (g85 1046 0))) (g85 1100025 (g85 1100025 (g85 1046 0))) = g85 1100025 (g85 1046 0)) h1523_ (sm_nt_19 : sm_nt 19 (g85 1100007 (g85 1046 0)) (g85 1100007 (g85 1100023 (g85 1046 0))) (g85 1100007 (g85 1100023 (g85 1100023 (g85 1046 0)))) = g85 1100007 (g85 1100023 (g85 1046 0))) h1536_ h1537_ h1539_ h1540_ h1541_ h1546_ (sm_KC_n h1548_).2.1.1 h1554_ h1555_ h1557_ h1558_ h1559_ (sm_dl_10 : sm_dl 10 0 = (-1)) (sm_nt_10 : sm_nt 10 (g93 1046 0) (g93 1100023 (g93 1046 0)) (g93 1100023 (g93 1100023 (g93 1046 0))) = g93 1100023 (g93 1046 0)) (sm_nl_10 : sm_nl 10 (g93 1046 0) (g93 1100007 (g93 1046 0)) (g93 1100025 (g93 1046 0)) (g93 1100007 (g93 1100025 (g93 1046 0))) (g93 1100025 (g93 1100025 (g93 1046 0))) = g93 1100025 (g93 1046 0)))), ?_⟩
      refine ⟨la_stepBehind_233, ?_⟩
      intro h1563_
      have h1564_ := (h1563_.resolve_left la_stepBehind_234)
      have h1565_ := (h59_ (sm_nm_i (la_stepBehind_235 h1564_) (la_stepBehind_236 h1564_) (la_stepBehind_237 h1564_)))
      have h1566_ := (h1126_ (la_stepBehind_238 h1564_))
      have h1567_ := (h1137_ (la_stepBehind_238 h1564_))
      obtain ⟨h1568_, h1569_⟩ := (h1565_ h5_)
      have h1570_ := (h33_ (la_stepBehind_241 h1564_))
      have h1571_ := (h34_ (la_stepBehind_241 h1564_))
      have h1572_ := (h1127_ (la_stepBehind_242 h1564_))
      have h1573_ := (h1138_ (la_stepBehind_242 h1564_))
      have e1574_ : S 1100001 (S 12 (5 * p2 + 1)) = S 1100001 (S 12 (5 * p2)) := congrArg ((S 1100001)) (la_stepBehind_243 h1564_)
      have e1575_ : S 1100001 p2 = S 1100001 (S 12 (5 * p2)) := congrArg ((S 1100001)) (la_stepBehind_243 h1564_)
      have e1576_ : S 1100001 p2 = S 1100001 (S 12 (5 * p2 + 1)) := congrArg ((S 1100001)) (la_stepBehind_243 h1564_)
      have e1577_ : S 1100002 (S 12 (5 * p2 + 0)) = S 1100002 (S 12 (5 * p2)) := congrArg ((S 1100002)) (la_stepBehind_243 h1564_)
      have e1578_ : S 1100002 (S 12 (5 * p2 + 1)) = S 1100002 (S 12 (5 * p2)) := congrArg ((S 1100002)) (la_stepBehind_243 h1564_)
      have e1579_ : S 1100002 (S 12 (5 * p2 + 1)) = S 1100002 (S 12 (5 * p2 + 0)) := congrArg ((S 1100002)) (la_stepBehind_243 h1564_)
      have e1580_ : S 1100002 p2 = S 1100002 (S 12 (5 * p2)) := congrArg ((S 1100002)) (la_stepBehind_243 h1564_)
      have e1581_ : S 1100002 p2 = S 1100002 (S 12 (5 * p2 + 0)) := congrArg ((S 1100002)) (la_stepBehind_243 h1564_)
      have e1582_ : S 1100002 p2 = S 1100002 (S 12 (5 * p2 + 1)) := congrArg ((S 1100002)) (la_stepBehind_243 h1564_)
      have e1583_ : S 1100005 (S 12 (5 * p2 + 0)) = S 1100005 (S 12 (5 * p2)) := congrArg ((S 1100005)) (la_stepBehind_243 h1564_)
      have e1584_ : S 1100005 (S 12 (5 * p2 + 1)) = S 1100005 (S 12 (5 * p2)) := congrArg ((S 1100005)) (la_stepBehind_243 h1564_)
      have e1585_ : S 1100005 (S 12 (5 * p2 + 1)) = S 1100005 (S 12 (5 * p2 + 0)) := congrArg ((S 1100005)) (la_stepBehind_243 h1564_)
      have e1586_ : S 1100005 p2 = S 1100005 (S 12 (5 * p2)) := congrArg ((S 1100005)) (la_stepBehind_243 h1564_)
      have e1587_ : S 1100005 p2 = S 1100005 (S 12 (5 * p2 + 0)) := congrArg ((S 1100005)) (la_stepBehind_243 h1564_)
      have e1588_ : S 1100005 p2 = S 1100005 (S 12 (5 * p2 + 1)) := congrArg ((S 1100005)) (la_stepBehind_243 h1564_)
      have e1589_ : S 1100007 (S 1100023 (S 1046 0)) = S 1100007 (S 1046 0) := congrArg ((S 1100007)) (la_stepBehind_243 h1564_)
      have e1590_ : S 1100007 (S 1100025 (S 1046 0)) = S 1100007 (S 1046 0) := congrArg ((S 1100007)) (la_stepBehind_243 h1564_)
      have e1591_ : S 1100007 (S 1100025 (S 1046 0)) = S 1100007 (S 1100023 (S 1046 0)) := congrArg ((S 1100007)) (la_stepBehind_243 h1564_)
      have e1592_ : S 1100007 (g75 1046 0) = S 1100007 (S 1046 0) := congrArg ((S 1100007)) (la_stepBehind_243 h1564_)
      have e1593_ : S 1100007 (g75 1046 0) = S 1100007 (S 1100023 (S 1046 0)) := congrArg ((S 1100007)) (la_stepBehind_243 h1564_)
      have e1594_ : S 1100007 (g75 1046 0) = S 1100007 (S 1100025 (S 1046 0)) := congrArg ((S 1100007)) (la_stepBehind_243 h1564_)
      have e1595_ : S 1100007 (g75 1100023 (g75 1046 0)) = S 1100007 (S 1046 0) := congrArg ((S 1100007)) (la_stepBehind_243 h1564_)
      have e1596_ : S 1100007 (g75 1100023 (g75 1046 0)) = S 1100007 (S 1100023 (S 1046 0)) := congrArg ((S 1100007)) h1555_
      have e1597_ : S 1100007 (g75 1100023 (g75 1046 0)) = S 1100007 (S 1100025 (S 1046 0)) := congrArg ((S 1100007)) (la_stepBehind_243 h1564_)
      have e1598_ : S 1100007 (g75 1100023 (g75 1046 0)) = S 1100007 (g75 1046 0) := congrArg ((S 1100007)) (la_stepBehind_243 h1564_)
      have e1599_ : S 1100007 (g75 1100025 (g75 1046 0)) = S 1100007 (S 1046 0) := congrArg ((S 1100007)) (la_stepBehind_243 h1564_)
      have e1600_ : S 1100007 (g75 1100025 (g75 1046 0)) = S 1100007 (S 1100023 (S 1046 0)) := congrArg ((S 1100007)) (la_stepBehind_243 h1564_)
      have e1601_ : S 1100007 (g75 1100025 (g75 1046 0)) = S 1100007 (S 1100025 (S 1046 0)) := congrArg ((S 1100007)) h1557_
      have e1602_ : S 1100007 (g75 1100025 (g75 1046 0)) = S 1100007 (g75 1046 0) := congrArg ((S 1100007)) (la_stepBehind_243 h1564_)
      have e1603_ : S 1100007 (g75 1100025 (g75 1046 0)) = S 1100007 (g75 1100023 (g75 1046 0)) := congrArg ((S 1100007)) (la_stepBehind_243 h1564_)
      have e1604_ : S 1100007 (g85 1046 0) = S 1100007 (S 1046 0) := congrArg ((S 1100007)) (la_stepBehind_243 h1564_)
      have e1605_ : S 1100007 (g85 1046 0) = S 1100007 (S 1100023 (S 1046 0)) := congrArg ((S 1100007)) (la_stepBehind_243 h1564_)
      have e1606_ : S 1100007 (g85 1046 0) = S 1100007 (S 1100025 (S 1046 0)) := congrArg ((S 1100007)) (la_stepBehind_243 h1564_)
      have e1607_ : S 1100007 (g85 1046 0) = S 1100007 (g75 1046 0) := congrArg ((S 1100007)) (la_stepBehind_243 h1564_)
      have e1608_ : S 1100007 (g85 1046 0) = S 1100007 (g75 1100023 (g75 1046 0)) := congrArg ((S 1100007)) (la_stepBehind_243 h1564_)
      have e1609_ : S 1100007 (g85 1046 0) = S 1100007 (g75 1100025 (g75 1046 0)) := congrArg ((S 1100007)) (la_stepBehind_243 h1564_)
      have e1610_ : S 1100007 (g85 1100023 (g85 1046 0)) = S 1100007 (S 1046 0) := congrArg ((S 1100007)) (la_stepBehind_243 h1564_)
      have e1611_ : S 1100007 (g85 1100023 (g85 1046 0)) = S 1100007 (S 1100023 (S 1046 0)) := congrArg ((S 1100007)) (la_stepBehind_243 h1564_)
      have e1612_ : S 1100007 (g85 1100023 (g85 1046 0)) = S 1100007 (S 1100025 (S 1046 0)) := congrArg ((S 1100007)) (la_stepBehind_243 h1564_)
      have e1613_ : S 1100007 (g85 1100023 (g85 1046 0)) = S 1100007 (g75 1046 0) := congrArg ((S 1100007)) (la_stepBehind_243 h1564_)
      have e1614_ : S 1100007 (g85 1100023 (g85 1046 0)) = S 1100007 (g75 1100023 (g75 1046 0)) := congrArg ((S 1100007)) h1537_
      have e1615_ : S 1100007 (g85 1100023 (g85 1046 0)) = S 1100007 (g75 1100025 (g75 1046 0)) := congrArg ((S 1100007)) (la_stepBehind_243 h1564_)
      have e1616_ : S 1100007 (g85 1100023 (g85 1046 0)) = S 1100007 (g85 1046 0) := congrArg ((S 1100007)) (la_stepBehind_243 h1564_)
      have e1617_ : S 1100007 (g85 1100025 (g85 1046 0)) = S 1100007 (S 1046 0) := congrArg ((S 1100007)) (la_stepBehind_243 h1564_)
      have e1618_ : S 1100007 (g85 1100025 (g85 1046 0)) = S 1100007 (S 1100023 (S 1046 0)) := congrArg ((S 1100007)) (la_stepBehind_243 h1564_)
      have e1619_ : S 1100007 (g85 1100025 (g85 1046 0)) = S 1100007 (S 1100025 (S 1046 0)) := congrArg ((S 1100007)) (la_stepBehind_243 h1564_)
      have e1620_ : S 1100007 (g85 1100025 (g85 1046 0)) = S 1100007 (g75 1046 0) := congrArg ((S 1100007)) (la_stepBehind_243 h1564_)
      have e1621_ : S 1100007 (g85 1100025 (g85 1046 0)) = S 1100007 (g75 1100023 (g75 1046 0)) := congrArg ((S 1100007)) (la_stepBehind_243 h1564_)
      have e1622_ : S 1100007 (g85 1100025 (g85 1046 0)) = S 1100007 (g75 1100025 (g75 1046 0)) := congrArg ((S 1100007)) h1539_
      have e1623_ : S 1100007 (g85 1100025 (g85 1046 0)) = S 1100007 (g85 1046 0) := congrArg ((S 1100007)) (la_stepBehind_243 h1564_)
      have e1624_ : S 1100007 (g85 1100025 (g85 1046 0)) = S 1100007 (g85 1100023 (g85 1046 0)) := congrArg ((S 1100007)) (la_stepBehind_243 h1564_)
      have e1625_ : S 1100007 (g93 1046 0) = S 1100007 (S 1046 0) := congrArg ((S 1100007)) (la_stepBehind_243 h1564_)
      have e1626_ : S 1100007 (g93 1046 0) = S 1100007 (S 1100023 (S 1046 0)) := congrArg ((S 1100007)) (la_stepBehind_243 h1564_)
      have e1627_ : S 1100007 (g93 1046 0) = S 1100007 (S 1100025 (S 1046 0)) := congrArg ((S 1100007)) (la_stepBehind_243 h1564_)
      have e1628_ : S 1100007 (g93 1046 0) = S 1100007 (g75 1046 0) := congrArg ((S 1100007)) (la_stepBehind_243 h1564_)
      have e1629_ : S 1100007 (g93 1046 0) = S 1100007 (g75 1100023 (g75 1046 0)) := congrArg ((S 1100007)) (la_stepBehind_243 h1564_)
      have e1630_ : S 1100007 (g93 1046 0) = S 1100007 (g75 1100025 (g75 1046 0)) := congrArg ((S 1100007)) (la_stepBehind_243 h1564_)
      have e1631_ : S 1100007 (g93 1046 0) = S 1100007 (g85 1046 0) := congrArg ((S 1100007)) (la_stepBehind_243 h1564_)
      have e1632_ : S 1100007 (g93 1046 0) = S 1100007 (g85 1100023 (g85 1046 0)) := congrArg ((S 1100007)) (la_stepBehind_243 h1564_)
      have e1633_ : S 1100007 (g93 1046 0) = S 1100007 (g85 1100025 (g85 1046 0)) := congrArg ((S 1100007)) (la_stepBehind_243 h1564_)
      have e1634_ : S 1100007 (g93 1100023 (g93 1046 0)) = S 1100007 (S 1046 0) := congrArg ((S 1100007)) (la_stepBehind_243 h1564_)
      have e1635_ : S 1100007 (g93 1100023 (g93 1046 0)) = S 1100007 (S 1100023 (S 1046 0)) := congrArg ((S 1100007)) (la_stepBehind_243 h1564_)
      have e1636_ : S 1100007 (g93 1100023 (g93 1046 0)) = S 1100007 (S 1100025 (S 1046 0)) := congrArg ((S 1100007)) (la_stepBehind_243 h1564_)
      have e1637_ : S 1100007 (g93 1100023 (g93 1046 0)) = S 1100007 (g75 1046 0) := congrArg ((S 1100007)) (la_stepBehind_243 h1564_)
      have e1638_ : S 1100007 (g93 1100023 (g93 1046 0)) = S 1100007 (g75 1100023 (g75 1046 0)) := congrArg ((S 1100007)) (la_stepBehind_243 h1564_)
      have e1639_ : S 1100007 (g93 1100023 (g93 1046 0)) = S 1100007 (g75 1100025 (g75 1046 0)) := congrArg ((S 1100007)) (la_stepBehind_243 h1564_)
      have e1640_ : S 1100007 (g93 1100023 (g93 1046 0)) = S 1100007 (g85 1046 0) := congrArg ((S 1100007)) (la_stepBehind_243 h1564_)
      have e1641_ : S 1100007 (g93 1100023 (g93 1046 0)) = S 1100007 (g85 1100023 (g85 1046 0)) := congrArg ((S 1100007)) (la_stepBehind_243 h1564_)
      have e1642_ : S 1100007 (g93 1100023 (g93 1046 0)) = S 1100007 (g85 1100025 (g85 1046 0)) := congrArg ((S 1100007)) (la_stepBehind_243 h1564_)
      have e1643_ : S 1100007 (g93 1100023 (g93 1046 0)) = S 1100007 (g93 1046 0) := congrArg ((S 1100007)) (la_stepBehind_243 h1564_)
      have e1644_ : S 1100007 (g93 1100025 (g93 1046 0)) = S 1100007 (S 1046 0) := congrArg ((S 1100007)) (la_stepBehind_243 h1564_)
      have e1645_ : S 1100007 (g93 1100025 (g93 1046 0)) = S 1100007 (S 1100023 (S 1046 0)) := congrArg ((S 1100007)) (la_stepBehind_243 h1564_)
      have e1646_ : S 1100007 (g93 1100025 (g93 1046 0)) = S 1100007 (S 1100025 (S 1046 0)) := congrArg ((S 1100007)) (la_stepBehind_243 h1564_)
      have e1647_ : S 1100007 (g93 1100025 (g93 1046 0)) = S 1100007 (g75 1046 0) := congrArg ((S 1100007)) (la_stepBehind_243 h1564_)
      have e1648_ : S 1100007 (g93 1100025 (g93 1046 0)) = S 1100007 (g75 1100023 (g75 1046 0)) := congrArg ((S 1100007)) (la_stepBehind_243 h1564_)
      have e1649_ : S 1100007 (g93 1100025 (g93 1046 0)) = S 1100007 (g75 1100025 (g75 1046 0)) := congrArg ((S 1100007)) (la_stepBehind_243 h1564_)
      have e1650_ : S 1100007 (g93 1100025 (g93 1046 0)) = S 1100007 (g85 1046 0) := congrArg ((S 1100007)) (la_stepBehind_243 h1564_)
      have e1651_ : S 1100007 (g93 1100025 (g93 1046 0)) = S 1100007 (g85 1100023 (g85 1046 0)) := congrArg ((S 1100007)) (la_stepBehind_243 h1564_)
      have e1652_ : S 1100007 (g93 1100025 (g93 1046 0)) = S 1100007 (g85 1100025 (g85 1046 0)) := congrArg ((S 1100007)) (la_stepBehind_243 h1564_)
      have e1653_ : S 1100007 (g93 1100025 (g93 1046 0)) = S 1100007 (g93 1046 0) := congrArg ((S 1100007)) (la_stepBehind_243 h1564_)
      have e1654_ : S 1100007 (g93 1100025 (g93 1046 0)) = S 1100007 (g93 1100023 (g93 1046 0)) := congrArg ((S 1100007)) (la_stepBehind_243 h1564_)
      have e1655_ : S 1100023 (g75 1046 0) = S 1100023 (S 1046 0) := congrArg ((S 1100023)) (la_stepBehind_243 h1564_)
      have e1656_ : S 1100023 (g85 1046 0) = S 1100023 (S 1046 0) := congrArg ((S 1100023)) (la_stepBehind_243 h1564_)
      have e1657_ : S 1100023 (g85 1046 0) = S 1100023 (g75 1046 0) := congrArg ((S 1100023)) (la_stepBehind_243 h1564_)
      have e1658_ : S 1100023 (g93 1046 0) = S 1100023 (S 1046 0) := congrArg ((S 1100023)) (la_stepBehind_243 h1564_)
      have e1659_ : S 1100023 (g93 1046 0) = S 1100023 (g75 1046 0) := congrArg ((S 1100023)) (la_stepBehind_243 h1564_)
      have e1660_ : S 1100023 (g93 1046 0) = S 1100023 (g85 1046 0) := congrArg ((S 1100023)) (la_stepBehind_243 h1564_)
      have e1661_ : S 1100024 (g75 1046 0) = S 1100024 (S 1046 0) := congrArg ((S 1100024)) (la_stepBehind_243 h1564_)
      have e1662_ : S 1100024 (g85 1046 0) = S 1100024 (S 1046 0) := congrArg ((S 1100024)) (la_stepBehind_243 h1564_)
      have e1663_ : S 1100024 (g85 1046 0) = S 1100024 (g75 1046 0) := congrArg ((S 1100024)) (la_stepBehind_243 h1564_)
      have e1664_ : S 1100024 (g93 1046 0) = S 1100024 (S 1046 0) := congrArg ((S 1100024)) (la_stepBehind_243 h1564_)
      have e1665_ : S 1100024 (g93 1046 0) = S 1100024 (g75 1046 0) := congrArg ((S 1100024)) (la_stepBehind_243 h1564_)
      have e1666_ : S 1100024 (g93 1046 0) = S 1100024 (g85 1046 0) := congrArg ((S 1100024)) (la_stepBehind_243 h1564_)
      have e1667_ : S 1100025 (g75 1046 0) = S 1100025 (S 1046 0) := congrArg ((S 1100025)) (la_stepBehind_243 h1564_)
      have e1668_ : S 1100025 (g85 1046 0) = S 1100025 (S 1046 0) := congrArg ((S 1100025)) (la_stepBehind_243 h1564_)
      have e1669_ : S 1100025 (g85 1046 0) = S 1100025 (g75 1046 0) := congrArg ((S 1100025)) (la_stepBehind_243 h1564_)
      have e1670_ : S 1100025 (g93 1046 0) = S 1100025 (S 1046 0) := congrArg ((S 1100025)) (la_stepBehind_243 h1564_)
      have e1671_ : S 1100025 (g93 1046 0) = S 1100025 (g75 1046 0) := congrArg ((S 1100025)) (la_stepBehind_243 h1564_)
      have e1672_ : S 1100025 (g93 1046 0) = S 1100025 (g85 1046 0) := congrArg ((S 1100025)) (la_stepBehind_243 h1564_)
      have e1673_ : S 12 (5 * S 12 (5 * p2) + 1) = S 12 (5 * p2) := congrArg ((S 12)) (la_stepBehind_244 h1564_)
      have e1674_ : S 12 (5 * S 12 (5 * p2 + 1) + 1) = S 12 (5 * p2) := congrArg ((S 12)) (la_stepBehind_244 h1564_)
      have e1675_ : S 12 (5 * S 12 (5 * p2 + 1) + 1) = S 12 (5 * S 12 (5 * p2) + 1) := congrArg ((S 12)) (la_stepBehind_245 h1564_)
      have e1676_ : S 12 (5 * p2 + 0) = S 12 (5 * p2) := congrArg ((S 12)) la_stepBehind_157
      have e1677_ : S 12 (5 * p2 + 0) = S 12 (5 * S 12 (5 * p2) + 1) := congrArg ((S 12)) (la_stepBehind_246 h1564_)
      have e1678_ : S 12 (5 * p2 + 0) = S 12 (5 * S 12 (5 * p2 + 1) + 1) := congrArg ((S 12)) (la_stepBehind_246 h1564_)
      have e1679_ : S 12 (5 * p2 + 1) = S 12 (5 * p2) := congrArg ((S 12)) (la_stepBehind_247 h1564_)
      have e1680_ : S 12 (5 * p2 + 1) = S 12 (5 * S 12 (5 * p2) + 1) := congrArg ((S 12)) (la_stepBehind_245 h1564_)
      have e1681_ : S 12 (5 * p2 + 1) = S 12 (5 * S 12 (5 * p2 + 1) + 1) := congrArg ((S 12)) (la_stepBehind_245 h1564_)
      have e1682_ : S 12 (5 * p2 + 1) = S 12 (5 * p2 + 0) := congrArg ((S 12)) (la_stepBehind_248 h1564_)
      have e1683_ : g75 1100007 (g75 1100023 (g75 1046 0)) = g75 1100007 (g75 1046 0) := congrArg ((g75 1100007)) (la_stepBehind_243 h1564_)
      have e1684_ : g75 1100007 (g75 1100025 (g75 1046 0)) = g75 1100007 (g75 1046 0) := congrArg ((g75 1100007)) (la_stepBehind_243 h1564_)
      have e1685_ : g75 1100007 (g75 1100025 (g75 1046 0)) = g75 1100007 (g75 1100023 (g75 1046 0)) := congrArg ((g75 1100007)) (la_stepBehind_243 h1564_)
      have e1686_ : g75 1100007 (g85 1046 0) = g75 1100007 (g75 1046 0) := congrArg ((g75 1100007)) (la_stepBehind_243 h1564_)
      have e1687_ : g75 1100007 (g85 1046 0) = g75 1100007 (g75 1100023 (g75 1046 0)) := congrArg ((g75 1100007)) (la_stepBehind_243 h1564_)
      have e1688_ : g75 1100007 (g85 1046 0) = g75 1100007 (g75 1100025 (g75 1046 0)) := congrArg ((g75 1100007)) (la_stepBehind_243 h1564_)
      have e1689_ : g75 1100007 (g85 1100023 (g85 1046 0)) = g75 1100007 (g75 1046 0) := congrArg ((g75 1100007)) (la_stepBehind_243 h1564_)
      have e1690_ : g75 1100007 (g85 1100023 (g85 1046 0)) = g75 1100007 (g75 1100023 (g75 1046 0)) := congrArg ((g75 1100007)) h1537_
      have e1691_ : g75 1100007 (g85 1100023 (g85 1046 0)) = g75 1100007 (g75 1100025 (g75 1046 0)) := congrArg ((g75 1100007)) (la_stepBehind_243 h1564_)
      have e1692_ : g75 1100007 (g85 1100023 (g85 1046 0)) = g75 1100007 (g85 1046 0) := congrArg ((g75 1100007)) (la_stepBehind_243 h1564_)
      have e1693_ : g75 1100007 (g85 1100025 (g85 1046 0)) = g75 1100007 (g75 1046 0) := congrArg ((g75 1100007)) (la_stepBehind_243 h1564_)
      have e1694_ : g75 1100007 (g85 1100025 (g85 1046 0)) = g75 1100007 (g75 1100023 (g75 1046 0)) := congrArg ((g75 1100007)) (la_stepBehind_243 h1564_)
      have e1695_ : g75 1100007 (g85 1100025 (g85 1046 0)) = g75 1100007 (g75 1100025 (g75 1046 0)) := congrArg ((g75 1100007)) h1539_
      have e1696_ : g75 1100007 (g85 1100025 (g85 1046 0)) = g75 1100007 (g85 1046 0) := congrArg ((g75 1100007)) (la_stepBehind_243 h1564_)
      have e1697_ : g75 1100007 (g85 1100025 (g85 1046 0)) = g75 1100007 (g85 1100023 (g85 1046 0)) := congrArg ((g75 1100007)) (la_stepBehind_243 h1564_)
      have e1698_ : g75 1100007 (g93 1046 0) = g75 1100007 (g75 1046 0) := congrArg ((g75 1100007)) (la_stepBehind_243 h1564_)
      have e1699_ : g75 1100007 (g93 1046 0) = g75 1100007 (g75 1100023 (g75 1046 0)) := congrArg ((g75 1100007)) (la_stepBehind_243 h1564_)
      have e1700_ : g75 1100007 (g93 1046 0) = g75 1100007 (g75 1100025 (g75 1046 0)) := congrArg ((g75 1100007)) (la_stepBehind_243 h1564_)
      have e1701_ : g75 1100007 (g93 1046 0) = g75 1100007 (g85 1046 0) := congrArg ((g75 1100007)) (la_stepBehind_243 h1564_)
      have e1702_ : g75 1100007 (g93 1046 0) = g75 1100007 (g85 1100023 (g85 1046 0)) := congrArg ((g75 1100007)) (la_stepBehind_243 h1564_)
      have e1703_ : g75 1100007 (g93 1046 0) = g75 1100007 (g85 1100025 (g85 1046 0)) := congrArg ((g75 1100007)) (la_stepBehind_243 h1564_)
      have e1704_ : g75 1100007 (g93 1100023 (g93 1046 0)) = g75 1100007 (g75 1046 0) := congrArg ((g75 1100007)) (la_stepBehind_243 h1564_)
      have e1705_ : g75 1100007 (g93 1100023 (g93 1046 0)) = g75 1100007 (g75 1100023 (g75 1046 0)) := congrArg ((g75 1100007)) (la_stepBehind_243 h1564_)
      have e1706_ : g75 1100007 (g93 1100023 (g93 1046 0)) = g75 1100007 (g75 1100025 (g75 1046 0)) := congrArg ((g75 1100007)) (la_stepBehind_243 h1564_)
      have e1707_ : g75 1100007 (g93 1100023 (g93 1046 0)) = g75 1100007 (g85 1046 0) := congrArg ((g75 1100007)) (la_stepBehind_243 h1564_)
      have e1708_ : g75 1100007 (g93 1100023 (g93 1046 0)) = g75 1100007 (g85 1100023 (g85 1046 0)) := congrArg ((g75 1100007)) (la_stepBehind_243 h1564_)
      have e1709_ : g75 1100007 (g93 1100023 (g93 1046 0)) = g75 1100007 (g85 1100025 (g85 1046 0)) := congrArg ((g75 1100007)) (la_stepBehind_243 h1564_)
      have e1710_ : g75 1100007 (g93 1100023 (g93 1046 0)) = g75 1100007 (g93 1046 0) := congrArg ((g75 1100007)) (la_stepBehind_243 h1564_)
      have e1711_ : g75 1100007 (g93 1100025 (g93 1046 0)) = g75 1100007 (g75 1046 0) := congrArg ((g75 1100007)) (la_stepBehind_243 h1564_)
      have e1712_ : g75 1100007 (g93 1100025 (g93 1046 0)) = g75 1100007 (g75 1100023 (g75 1046 0)) := congrArg ((g75 1100007)) (la_stepBehind_243 h1564_)
      have e1713_ : g75 1100007 (g93 1100025 (g93 1046 0)) = g75 1100007 (g75 1100025 (g75 1046 0)) := congrArg ((g75 1100007)) (la_stepBehind_243 h1564_)
      have e1714_ : g75 1100007 (g93 1100025 (g93 1046 0)) = g75 1100007 (g85 1046 0) := congrArg ((g75 1100007)) (la_stepBehind_243 h1564_)
      have e1715_ : g75 1100007 (g93 1100025 (g93 1046 0)) = g75 1100007 (g85 1100023 (g85 1046 0)) := congrArg ((g75 1100007)) (la_stepBehind_243 h1564_)
      have e1716_ : g75 1100007 (g93 1100025 (g93 1046 0)) = g75 1100007 (g85 1100025 (g85 1046 0)) := congrArg ((g75 1100007)) (la_stepBehind_243 h1564_)
      have e1717_ : g75 1100007 (g93 1100025 (g93 1046 0)) = g75 1100007 (g93 1046 0) := congrArg ((g75 1100007)) (la_stepBehind_243 h1564_)
      have e1718_ : g75 1100007 (g93 1100025 (g93 1046 0)) = g75 1100007 (g93 1100023 (g93 1046 0)) := congrArg ((g75 1100007)) (la_stepBehind_243 h1564_)
      have e1719_ : g75 1100023 (g85 1046 0) = g75 1100023 (g75 1046 0) := congrArg ((g75 1100023)) (la_stepBehind_243 h1564_)
      have e1720_ : g75 1100023 (g93 1046 0) = g75 1100023 (g75 1046 0) := congrArg ((g75 1100023)) (la_stepBehind_243 h1564_)
      have e1721_ : g75 1100023 (g93 1046 0) = g75 1100023 (g85 1046 0) := congrArg ((g75 1100023)) (la_stepBehind_243 h1564_)
      have e1722_ : g75 1100024 (g85 1046 0) = g75 1100024 (g75 1046 0) := congrArg ((g75 1100024)) (la_stepBehind_243 h1564_)
      have e1723_ : g75 1100024 (g93 1046 0) = g75 1100024 (g75 1046 0) := congrArg ((g75 1100024)) (la_stepBehind_243 h1564_)
      have e1724_ : g75 1100024 (g93 1046 0) = g75 1100024 (g85 1046 0) := congrArg ((g75 1100024)) (la_stepBehind_243 h1564_)
      have e1725_ : g75 1100025 (g85 1046 0) = g75 1100025 (g75 1046 0) := congrArg ((g75 1100025)) (la_stepBehind_243 h1564_)
      have e1726_ : g75 1100025 (g93 1046 0) = g75 1100025 (g75 1046 0) := congrArg ((g75 1100025)) (la_stepBehind_243 h1564_)
      have e1727_ : g75 1100025 (g93 1046 0) = g75 1100025 (g85 1046 0) := congrArg ((g75 1100025)) (la_stepBehind_243 h1564_)
      have e1728_ : g85 1100007 (g85 1100023 (g85 1046 0)) = g85 1100007 (g85 1046 0) := congrArg ((g85 1100007)) (la_stepBehind_243 h1564_)
      have e1729_ : g85 1100007 (g85 1100023 (g85 1100023 (g85 1046 0))) = g85 1100007 (g85 1046 0) := congrArg ((g85 1100007)) (la_stepBehind_243 h1564_)
      have e1730_ : g85 1100007 (g85 1100023 (g85 1100023 (g85 1046 0))) = g85 1100007 (g85 1100023 (g85 1046 0)) := congrArg ((g85 1100007)) (la_stepBehind_243 h1564_)
      have e1731_ : g85 1100007 (g85 1100025 (g85 1046 0)) = g85 1100007 (g85 1046 0) := congrArg ((g85 1100007)) (la_stepBehind_243 h1564_)
      have e1732_ : g85 1100007 (g85 1100025 (g85 1046 0)) = g85 1100007 (g85 1100023 (g85 1046 0)) := congrArg ((g85 1100007)) (la_stepBehind_243 h1564_)
      have e1733_ : g85 1100007 (g85 1100025 (g85 1046 0)) = g85 1100007 (g85 1100023 (g85 1100023 (g85 1046 0))) := congrArg ((g85 1100007)) (la_stepBehind_243 h1564_)
      have e1734_ : g85 1100007 (g93 1046 0) = g85 1100007 (g85 1046 0) := congrArg ((g85 1100007)) (la_stepBehind_243 h1564_)
      have e1735_ : g85 1100007 (g93 1046 0) = g85 1100007 (g85 1100023 (g85 1046 0)) := congrArg ((g85 1100007)) (la_stepBehind_243 h1564_)
      have e1736_ : g85 1100007 (g93 1046 0) = g85 1100007 (g85 1100023 (g85 1100023 (g85 1046 0))) := congrArg ((g85 1100007)) (la_stepBehind_243 h1564_)
      have e1737_ : g85 1100007 (g93 1046 0) = g85 1100007 (g85 1100025 (g85 1046 0)) := congrArg ((g85 1100007)) (la_stepBehind_243 h1564_)
      have e1738_ : g85 1100007 (g93 1100023 (g93 1046 0)) = g85 1100007 (g85 1046 0) := congrArg ((g85 1100007)) (la_stepBehind_243 h1564_)
      have e1739_ : g85 1100007 (g93 1100023 (g93 1046 0)) = g85 1100007 (g85 1100023 (g85 1046 0)) := congrArg ((g85 1100007)) (la_stepBehind_243 h1564_)
      have e1740_ : g85 1100007 (g93 1100023 (g93 1046 0)) = g85 1100007 (g85 1100023 (g85 1100023 (g85 1046 0))) := congrArg ((g85 1100007)) (la_stepBehind_243 h1564_)
      have e1741_ : g85 1100007 (g93 1100023 (g93 1046 0)) = g85 1100007 (g85 1100025 (g85 1046 0)) := congrArg ((g85 1100007)) (la_stepBehind_243 h1564_)
      have e1742_ : g85 1100007 (g93 1100023 (g93 1046 0)) = g85 1100007 (g93 1046 0) := congrArg ((g85 1100007)) (la_stepBehind_243 h1564_)
      have e1743_ : g85 1100007 (g93 1100025 (g93 1046 0)) = g85 1100007 (g85 1046 0) := congrArg ((g85 1100007)) (la_stepBehind_243 h1564_)
      have e1744_ : g85 1100007 (g93 1100025 (g93 1046 0)) = g85 1100007 (g85 1100023 (g85 1046 0)) := congrArg ((g85 1100007)) (la_stepBehind_243 h1564_)
      have e1745_ : g85 1100007 (g93 1100025 (g93 1046 0)) = g85 1100007 (g85 1100023 (g85 1100023 (g85 1046 0))) := congrArg ((g85 1100007)) (la_stepBehind_243 h1564_)
      have e1746_ : g85 1100007 (g93 1100025 (g93 1046 0)) = g85 1100007 (g85 1100025 (g85 1046 0)) := congrArg ((g85 1100007)) (la_stepBehind_243 h1564_)
      have e1747_ : g85 1100007 (g93 1100025 (g93 1046 0)) = g85 1100007 (g93 1046 0) := congrArg ((g85 1100007)) (la_stepBehind_243 h1564_)
      have e1748_ : g85 1100007 (g93 1100025 (g93 1046 0)) = g85 1100007 (g93 1100023 (g93 1046 0)) := congrArg ((g85 1100007)) (la_stepBehind_243 h1564_)
      have e1749_ : g85 1100023 (g85 1100023 (g85 1046 0)) = g85 1100023 (g85 1046 0) := congrArg ((g85 1100023)) (la_stepBehind_243 h1564_)
      have e1750_ : g85 1100023 (g93 1046 0) = g85 1100023 (g85 1046 0) := congrArg ((g85 1100023)) (la_stepBehind_243 h1564_)
      have e1751_ : g85 1100023 (g93 1046 0) = g85 1100023 (g85 1100023 (g85 1046 0)) := congrArg ((g85 1100023)) (la_stepBehind_243 h1564_)
      have e1752_ : g85 1100024 (g93 1046 0) = g85 1100024 (g85 1046 0) := congrArg ((g85 1100024)) (la_stepBehind_243 h1564_)
      have e1753_ : g85 1100025 (g85 1100025 (g85 1046 0)) = g85 1100025 (g85 1046 0) := congrArg ((g85 1100025)) (la_stepBehind_243 h1564_)
      have e1754_ : g85 1100025 (g93 1046 0) = g85 1100025 (g85 1046 0) := congrArg ((g85 1100025)) (la_stepBehind_243 h1564_)
      have e1755_ : g85 1100025 (g93 1046 0) = g85 1100025 (g85 1100025 (g85 1046 0)) := congrArg ((g85 1100025)) (la_stepBehind_243 h1564_)
      have e1756_ : g93 1100007 (g93 1100023 (g93 1046 0)) = g93 1100007 (g93 1046 0) := congrArg ((g93 1100007)) (la_stepBehind_243 h1564_)
      have e1757_ : g93 1100007 (g93 1100025 (g93 1046 0)) = g93 1100007 (g93 1046 0) := congrArg ((g93 1100007)) (la_stepBehind_243 h1564_)
      have e1758_ : g93 1100007 (g93 1100025 (g93 1046 0)) = g93 1100007 (g93 1100023 (g93 1046 0)) := congrArg ((g93 1100007)) (la_stepBehind_243 h1564_)
      have e1759_ : g93 1100023 (g93 1100023 (g93 1046 0)) = g93 1100023 (g93 1046 0) := congrArg ((g93 1100023)) (la_stepBehind_243 h1564_)
      have e1760_ : g93 1100025 (g93 1100025 (g93 1046 0)) = g93 1100025 (g93 1046 0) := congrArg ((g93 1100025)) (la_stepBehind_243 h1564_)
      have e1761_ : S 1100007 (g85 1100023 (g85 1100023 (g85 1046 0))) = S 1100007 (S 1046 0) := congrArg ((S 1100007)) (la_stepBehind_243 h1564_)
      have e1762_ : S 1100007 (g85 1100023 (g85 1100023 (g85 1046 0))) = S 1100007 (S 1100023 (S 1046 0)) := congrArg ((S 1100007)) (la_stepBehind_243 h1564_)
      have e1763_ : S 1100007 (g85 1100023 (g85 1100023 (g85 1046 0))) = S 1100007 (S 1100025 (S 1046 0)) := congrArg ((S 1100007)) (la_stepBehind_243 h1564_)
      have e1764_ : S 1100007 (g85 1100023 (g85 1100023 (g85 1046 0))) = S 1100007 (g75 1046 0) := congrArg ((S 1100007)) (la_stepBehind_243 h1564_)
      have e1765_ : S 1100007 (g85 1100023 (g85 1100023 (g85 1046 0))) = S 1100007 (g75 1100023 (g75 1046 0)) := congrArg ((S 1100007)) (la_stepBehind_243 h1564_)
      have e1766_ : S 1100007 (g85 1100023 (g85 1100023 (g85 1046 0))) = S 1100007 (g75 1100025 (g75 1046 0)) := congrArg ((S 1100007)) (la_stepBehind_243 h1564_)
      have e1767_ : S 1100007 (g85 1100023 (g85 1100023 (g85 1046 0))) = S 1100007 (g85 1046 0) := congrArg ((S 1100007)) (la_stepBehind_243 h1564_)
      have e1768_ : S 1100007 (g85 1100023 (g85 1100023 (g85 1046 0))) = S 1100007 (g85 1100023 (g85 1046 0)) := congrArg ((S 1100007)) e1749_
      have e1769_ : S 1100007 (g85 1100025 (g85 1046 0)) = S 1100007 (g85 1100023 (g85 1100023 (g85 1046 0))) := congrArg ((S 1100007)) (la_stepBehind_243 h1564_)
      have e1770_ : S 1100007 (g93 1046 0) = S 1100007 (g85 1100023 (g85 1100023 (g85 1046 0))) := congrArg ((S 1100007)) (la_stepBehind_243 h1564_)
      have e1771_ : S 1100007 (g93 1100023 (g93 1046 0)) = S 1100007 (g85 1100023 (g85 1100023 (g85 1046 0))) := congrArg ((S 1100007)) (la_stepBehind_243 h1564_)
      have e1772_ : S 1100007 (g93 1100025 (g93 1046 0)) = S 1100007 (g85 1100023 (g85 1100023 (g85 1046 0))) := congrArg ((S 1100007)) (la_stepBehind_243 h1564_)
      have e1773_ : S 1100023 (g85 1100023 (g85 1046 0)) = S 1100023 (S 1046 0) := congrArg ((S 1100023)) (la_stepBehind_243 h1564_)
      have e1774_ : S 1100023 (g85 1100023 (g85 1046 0)) = S 1100023 (g75 1046 0) := congrArg ((S 1100023)) (la_stepBehind_243 h1564_)
      have e1775_ : S 1100023 (g85 1100023 (g85 1046 0)) = S 1100023 (g85 1046 0) := congrArg ((S 1100023)) (la_stepBehind_243 h1564_)
      have e1776_ : S 1100023 (g93 1046 0) = S 1100023 (g85 1100023 (g85 1046 0)) := congrArg ((S 1100023)) (la_stepBehind_243 h1564_)
      have e1777_ : S 1100023 (g93 1100023 (g93 1046 0)) = S 1100023 (S 1046 0) := congrArg ((S 1100023)) (la_stepBehind_243 h1564_)
      have e1778_ : S 1100023 (g93 1100023 (g93 1046 0)) = S 1100023 (g75 1046 0) := congrArg ((S 1100023)) (la_stepBehind_243 h1564_)
      have e1779_ : S 1100023 (g93 1100023 (g93 1046 0)) = S 1100023 (g85 1046 0) := congrArg ((S 1100023)) (la_stepBehind_243 h1564_)
      have e1780_ : S 1100023 (g93 1100023 (g93 1046 0)) = S 1100023 (g85 1100023 (g85 1046 0)) := congrArg ((S 1100023)) (la_stepBehind_243 h1564_)
      have e1781_ : S 1100023 (g93 1100023 (g93 1046 0)) = S 1100023 (g93 1046 0) := congrArg ((S 1100023)) (la_stepBehind_243 h1564_)
      have e1782_ : S 1100025 (g85 1100025 (g85 1046 0)) = S 1100025 (S 1046 0) := congrArg ((S 1100025)) (la_stepBehind_243 h1564_)
      have e1783_ : S 1100025 (g85 1100025 (g85 1046 0)) = S 1100025 (g75 1046 0) := congrArg ((S 1100025)) (la_stepBehind_243 h1564_)
      have e1784_ : S 1100025 (g85 1100025 (g85 1046 0)) = S 1100025 (g85 1046 0) := congrArg ((S 1100025)) (la_stepBehind_243 h1564_)
      have e1785_ : S 1100025 (g93 1046 0) = S 1100025 (g85 1100025 (g85 1046 0)) := congrArg ((S 1100025)) (la_stepBehind_243 h1564_)
      have e1786_ : S 1100025 (g93 1100025 (g93 1046 0)) = S 1100025 (S 1046 0) := congrArg ((S 1100025)) (la_stepBehind_243 h1564_)
      have e1787_ : S 1100025 (g93 1100025 (g93 1046 0)) = S 1100025 (g75 1046 0) := congrArg ((S 1100025)) (la_stepBehind_243 h1564_)
      have e1788_ : S 1100025 (g93 1100025 (g93 1046 0)) = S 1100025 (g85 1046 0) := congrArg ((S 1100025)) (la_stepBehind_243 h1564_)
      have e1789_ : S 1100025 (g93 1100025 (g93 1046 0)) = S 1100025 (g85 1100025 (g85 1046 0)) := congrArg ((S 1100025)) (la_stepBehind_243 h1564_)
      have e1790_ : S 1100025 (g93 1100025 (g93 1046 0)) = S 1100025 (g93 1046 0) := congrArg ((S 1100025)) (la_stepBehind_243 h1564_)
      have e1791_ : g75 1100007 (g85 1100023 (g85 1100023 (g85 1046 0))) = g75 1100007 (g75 1046 0) := congrArg ((g75 1100007)) (la_stepBehind_243 h1564_)
      have e1792_ : g75 1100007 (g85 1100023 (g85 1100023 (g85 1046 0))) = g75 1100007 (g75 1100023 (g75 1046 0)) := congrArg ((g75 1100007)) (la_stepBehind_243 h1564_)
      have e1793_ : g75 1100007 (g85 1100023 (g85 1100023 (g85 1046 0))) = g75 1100007 (g75 1100025 (g75 1046 0)) := congrArg ((g75 1100007)) (la_stepBehind_243 h1564_)
      have e1794_ : g75 1100007 (g85 1100023 (g85 1100023 (g85 1046 0))) = g75 1100007 (g85 1046 0) := congrArg ((g75 1100007)) (la_stepBehind_243 h1564_)
      have e1795_ : g75 1100007 (g85 1100023 (g85 1100023 (g85 1046 0))) = g75 1100007 (g85 1100023 (g85 1046 0)) := congrArg ((g75 1100007)) e1749_
      have e1796_ : g75 1100007 (g85 1100025 (g85 1046 0)) = g75 1100007 (g85 1100023 (g85 1100023 (g85 1046 0))) := congrArg ((g75 1100007)) (la_stepBehind_243 h1564_)
      have e1797_ : g75 1100007 (g93 1046 0) = g75 1100007 (g85 1100023 (g85 1100023 (g85 1046 0))) := congrArg ((g75 1100007)) (la_stepBehind_243 h1564_)
      have e1798_ : g75 1100007 (g93 1100023 (g93 1046 0)) = g75 1100007 (g85 1100023 (g85 1100023 (g85 1046 0))) := congrArg ((g75 1100007)) (la_stepBehind_243 h1564_)
      have e1799_ : g75 1100007 (g93 1100025 (g93 1046 0)) = g75 1100007 (g85 1100023 (g85 1100023 (g85 1046 0))) := congrArg ((g75 1100007)) (la_stepBehind_243 h1564_)
      have e1800_ : g75 1100023 (g85 1100023 (g85 1046 0)) = g75 1100023 (g75 1046 0) := congrArg ((g75 1100023)) (la_stepBehind_243 h1564_)
      have e1801_ : g75 1100023 (g85 1100023 (g85 1046 0)) = g75 1100023 (g85 1046 0) := congrArg ((g75 1100023)) (la_stepBehind_243 h1564_)
      have e1802_ : g75 1100023 (g93 1046 0) = g75 1100023 (g85 1100023 (g85 1046 0)) := congrArg ((g75 1100023)) (la_stepBehind_243 h1564_)
      have e1803_ : g75 1100023 (g93 1100023 (g93 1046 0)) = g75 1100023 (g75 1046 0) := congrArg ((g75 1100023)) (la_stepBehind_243 h1564_)
      have e1804_ : g75 1100023 (g93 1100023 (g93 1046 0)) = g75 1100023 (g85 1046 0) := congrArg ((g75 1100023)) (la_stepBehind_243 h1564_)
      have e1805_ : g75 1100023 (g93 1100023 (g93 1046 0)) = g75 1100023 (g85 1100023 (g85 1046 0)) := congrArg ((g75 1100023)) (la_stepBehind_243 h1564_)
      have e1806_ : g75 1100023 (g93 1100023 (g93 1046 0)) = g75 1100023 (g93 1046 0) := congrArg ((g75 1100023)) (la_stepBehind_243 h1564_)
      have e1807_ : g75 1100025 (g85 1100025 (g85 1046 0)) = g75 1100025 (g75 1046 0) := congrArg ((g75 1100025)) (la_stepBehind_243 h1564_)
      have e1808_ : g75 1100025 (g85 1100025 (g85 1046 0)) = g75 1100025 (g85 1046 0) := congrArg ((g75 1100025)) (la_stepBehind_243 h1564_)
      have e1809_ : g75 1100025 (g93 1046 0) = g75 1100025 (g85 1100025 (g85 1046 0)) := congrArg ((g75 1100025)) (la_stepBehind_243 h1564_)
      have e1810_ : g75 1100025 (g93 1100025 (g93 1046 0)) = g75 1100025 (g75 1046 0) := congrArg ((g75 1100025)) (la_stepBehind_243 h1564_)
      have e1811_ : g75 1100025 (g93 1100025 (g93 1046 0)) = g75 1100025 (g85 1046 0) := congrArg ((g75 1100025)) (la_stepBehind_243 h1564_)
      have e1812_ : g75 1100025 (g93 1100025 (g93 1046 0)) = g75 1100025 (g85 1100025 (g85 1046 0)) := congrArg ((g75 1100025)) (la_stepBehind_243 h1564_)
      have e1813_ : g75 1100025 (g93 1100025 (g93 1046 0)) = g75 1100025 (g93 1046 0) := congrArg ((g75 1100025)) (la_stepBehind_243 h1564_)
      have e1814_ : g85 1100023 (g93 1100023 (g93 1046 0)) = g85 1100023 (g85 1046 0) := congrArg ((g85 1100023)) (la_stepBehind_243 h1564_)
      have e1815_ : g85 1100023 (g93 1100023 (g93 1046 0)) = g85 1100023 (g85 1100023 (g85 1046 0)) := congrArg ((g85 1100023)) (la_stepBehind_243 h1564_)
      have e1816_ : g85 1100023 (g93 1100023 (g93 1046 0)) = g85 1100023 (g93 1046 0) := congrArg ((g85 1100023)) (la_stepBehind_243 h1564_)
      have e1817_ : g85 1100025 (g93 1100025 (g93 1046 0)) = g85 1100025 (g85 1046 0) := congrArg ((g85 1100025)) (la_stepBehind_243 h1564_)
      have e1818_ : g85 1100025 (g93 1100025 (g93 1046 0)) = g85 1100025 (g85 1100025 (g85 1046 0)) := congrArg ((g85 1100025)) (la_stepBehind_243 h1564_)
      have e1819_ : g85 1100025 (g93 1100025 (g93 1046 0)) = g85 1100025 (g93 1046 0) := congrArg ((g85 1100025)) (la_stepBehind_243 h1564_)
      exact ((la_stepBehind_249 h1564_)).elim
    intro g100
    rintro ⟨h1820_, ⟨h1821_, ⟨h1822_, ⟨h1823_, ⟨h1824_, ⟨h1825_, ⟨h1826_, ⟨h1827_, ⟨h1828_, ⟨h1829_, ⟨h1830_, ⟨h1831_, ⟨h1832_, ⟨h1833_, ⟨h1834_, ⟨h1835_, h1836_⟩⟩⟩⟩⟩⟩⟩⟩⟩⟩⟩⟩⟩⟩⟩⟩
    refine ⟨?_, ?_⟩
    · skip
      refine ⟨(la_stepBehind_21 h1822_), ?_⟩
      refine ⟨h1825_, ?_⟩
      refine ⟨h1820_, ?_⟩
      refine ⟨h1821_, ?_⟩
      intro h1837_
      have h1838_ : ¬ (g93 1047 0 = 1) := fun q_ => (la_stepBehind_3 h1837_) (h1826_ q_)
      obtain ⟨h1839_, ⟨h1840_, ⟨h1841_, ⟨h1842_, ⟨h1843_, ⟨h1844_, ⟨h1845_, ⟨h1846_, ⟨h1847_, ⟨h1848_, ⟨h1849_, ⟨h1850_, ⟨h1851_, h1852_⟩⟩⟩⟩⟩⟩⟩⟩⟩⟩⟩⟩⟩ := (h1836_ h1837_)
      have h1853_ : ¬ (g85 1047 0 = 1) := fun q_ => h1838_ (h1500_ q_)
      have h1854_ := (h1852_ la_stepBehind_250)
      obtain ⟨h1855_, ⟨h1856_, ⟨h1857_, ⟨h1858_, ⟨h1859_, ⟨h1860_, ⟨h1861_, ⟨h1862_, ⟨h1863_, ⟨h1864_, ⟨h1865_, ⟨h1866_, ⟨h1867_, h1868_⟩⟩⟩⟩⟩⟩⟩⟩⟩⟩⟩⟩⟩ := (h1510_ h1839_)
      have h1869_ : ¬ (g75 1047 0 = 1) := fun q_ => h1853_ (h1324_ q_)
      have h1870_ := (h1854_ la_stepBehind_252)
      have h1871_ := (h1868_ la_stepBehind_227)
      obtain ⟨h1872_, ⟨h1873_, ⟨h1874_, ⟨h1875_, ⟨h1876_, ⟨h1877_, ⟨h1878_, ⟨h1879_, ⟨h1880_, ⟨h1881_, ⟨h1882_, ⟨h1883_, ⟨h1884_, ⟨h1885_, ⟨h1886_, ⟨h1887_, -⟩⟩⟩⟩⟩⟩⟩⟩⟩⟩⟩⟩⟩⟩⟩⟩ := (h1344_ h1855_)
      have h1888_ := (h1343_ h1872_)
      have h1889_ := (h1871_ la_stepBehind_229)
      obtain ⟨h1890_, ⟨h1891_, ⟨h1892_, ⟨h1893_, ⟨h1894_, ⟨h1895_, ⟨h1896_, ⟨h1897_, ⟨h1898_, ⟨h1899_, ⟨h1900_, ⟨h1901_, ⟨h1902_, ⟨h1903_, ⟨h1904_, ⟨h1905_, -⟩⟩⟩⟩⟩⟩⟩⟩⟩⟩⟩⟩⟩⟩⟩⟩ := (h1185_ h1872_)
      refine ⟨h1841_, ?_⟩
      refine ⟨la_stepBehind_253, ?_⟩
      refine ⟨la_stepBehind_254, ?_⟩
      refine ⟨(sm_ci_13 (la_stepBehind_255 h33_ h34_ h1845_ (sm_dl_10 : sm_dl 10 0 = (-1)) h1846_ (sm_nt_10 : sm_nt 10 (g93 1046 0) (g93 1100023 (g93 1046 0)) (g93 1100023 (g93 1100023 (g93 1046 0))) = g93 1100023 (g93 1046 0)) h1848_ (sm_nl_10 : sm_nl 10 (g93 1046 0) (g93 1100007 (g93 1046 0)) (g93 1100025 (g93 1046 0)) (g93 1100007 (g93 1100025 (g93 1046 0))) (g93 1100025 (g93 1100025 (g93 1046 0))) = g93 1100025 (g93 1046 0)) h1849_ (sm_nt_10 : sm_nt 10 (g93 1100007 (g93 1046 0)) (g93 1100007 (g93 1100023 (g93 1046 0))) (g93 1100007 (g93 1100023 (g93 1100023 (g93 1046 0)))) = g93 1100007 (g93 1100023 (g93 1046 0))) h1861_ (sm_dl_19 : sm_dl 19 0 = 2) h1862_ (sm_nt_19 : sm_nt 19 (g85 1046 0) (g85 1100023 (g85 1046 0)) (g85 1100023 (g85 1100023 (g85 1046 0))) = g85 1100023 (g85 1046 0)) h1864_ (sm_nl_19 : sm_nl 19 (g85 1046 0) (g85 1100007 (g85 1046 0)) (g85 1100025 (g85 1046 0)) (g85 1100007 (g85 1100025 (g85 1046 0))) (g85 1100025 (g85 1100025 (g85 1046 0))) = g85 1100025 (g85 1046 0)) h1865_ (sm_nt_19 : sm_nt 19 (g85 1100007 (g85 1046 0)) (g85 1100007 (g85 1100023 (g85 1046 0))) (g85 1100007 (g85 1100023 (g85 1100023 (g85 1046 0)))) = g85 1100007 (g85 1100023 (g85 1046 0))) h1870_ (sm_KC_n h1873_).2.1.1 h1879_ h1880_ h1882_ h1883_ h1884_ h1889_ h1897_ h1898_ h1900_ h1901_ h1902_ (sm_dl_13 : sm_dl 13 0 = 0) (sm_nt_13 : sm_nt 13 (g100 1046 0) (g100 1100023 (g100 1046 0)) (g100 1100023 (g100 1100023 (g100 1046 0))) = g100 1100023 (g100 1046 0)) (sm_nl_13 : sm_nl 13 (g100 1046 0) (g100 1100007 (g100 1046 0)) (g100 1100025 (g100 1046 0)) (g100 1100007 (g100 1100025 (g100 1046 0))) (g100 1100025 (g100 1100025 (g100 1046 0))) = g100 1100025 (g100 1046 0)))), ?_⟩
      refine ⟨la_stepBehind_256, ?_⟩
      intro h1906_
      have h1907_ := (h1906_.resolve_left la_stepBehind_257)
      have h1908_ := (h59_ (sm_nm_i (la_stepBehind_258 h1907_) (la_stepBehind_259 h1907_) (la_stepBehind_260 h1907_)))
      have h1909_ := (h1126_ (la_stepBehind_261 h1907_))
      have h1910_ := (h1137_ (la_stepBehind_261 h1907_))
      obtain ⟨h1911_, h1912_⟩ := (h1908_ h5_)
      have h1913_ := (h33_ (la_stepBehind_264 h1907_))
      have h1914_ := (h34_ (la_stepBehind_264 h1907_))
      have h1915_ := (h1127_ (la_stepBehind_265 h1907_))
      have h1916_ := (h1138_ (la_stepBehind_265 h1907_))
      have e1917_ : S 1100001 (S 12 (5 * p2 + 1)) = S 1100001 (S 12 (5 * p2)) := congrArg ((S 1100001)) (la_stepBehind_266 h1907_)
      have e1918_ : S 1100001 p2 = S 1100001 (S 12 (5 * p2)) := congrArg ((S 1100001)) (la_stepBehind_266 h1907_)
      have e1919_ : S 1100001 p2 = S 1100001 (S 12 (5 * p2 + 1)) := congrArg ((S 1100001)) (la_stepBehind_266 h1907_)
      have e1920_ : S 1100002 (S 12 (5 * p2 + 0)) = S 1100002 (S 12 (5 * p2)) := congrArg ((S 1100002)) (la_stepBehind_266 h1907_)
      have e1921_ : S 1100002 (S 12 (5 * p2 + 1)) = S 1100002 (S 12 (5 * p2)) := congrArg ((S 1100002)) (la_stepBehind_266 h1907_)
      have e1922_ : S 1100002 (S 12 (5 * p2 + 1)) = S 1100002 (S 12 (5 * p2 + 0)) := congrArg ((S 1100002)) (la_stepBehind_266 h1907_)
      have e1923_ : S 1100002 p2 = S 1100002 (S 12 (5 * p2)) := congrArg ((S 1100002)) (la_stepBehind_266 h1907_)
      have e1924_ : S 1100002 p2 = S 1100002 (S 12 (5 * p2 + 0)) := congrArg ((S 1100002)) (la_stepBehind_266 h1907_)
      have e1925_ : S 1100002 p2 = S 1100002 (S 12 (5 * p2 + 1)) := congrArg ((S 1100002)) (la_stepBehind_266 h1907_)
      have e1926_ : S 1100005 (S 12 (5 * p2 + 0)) = S 1100005 (S 12 (5 * p2)) := congrArg ((S 1100005)) (la_stepBehind_266 h1907_)
      have e1927_ : S 1100005 (S 12 (5 * p2 + 1)) = S 1100005 (S 12 (5 * p2)) := congrArg ((S 1100005)) (la_stepBehind_266 h1907_)
      have e1928_ : S 1100005 (S 12 (5 * p2 + 1)) = S 1100005 (S 12 (5 * p2 + 0)) := congrArg ((S 1100005)) (la_stepBehind_266 h1907_)
      have e1929_ : S 1100005 p2 = S 1100005 (S 12 (5 * p2)) := congrArg ((S 1100005)) (la_stepBehind_266 h1907_)
      have e1930_ : S 1100005 p2 = S 1100005 (S 12 (5 * p2 + 0)) := congrArg ((S 1100005)) (la_stepBehind_266 h1907_)
      have e1931_ : S 1100005 p2 = S 1100005 (S 12 (5 * p2 + 1)) := congrArg ((S 1100005)) (la_stepBehind_266 h1907_)
      have e1932_ : S 1100007 (S 1100023 (S 1046 0)) = S 1100007 (S 1046 0) := congrArg ((S 1100007)) (la_stepBehind_266 h1907_)
      have e1933_ : S 1100007 (S 1100025 (S 1046 0)) = S 1100007 (S 1046 0) := congrArg ((S 1100007)) (la_stepBehind_266 h1907_)
      have e1934_ : S 1100007 (S 1100025 (S 1046 0)) = S 1100007 (S 1100023 (S 1046 0)) := congrArg ((S 1100007)) (la_stepBehind_266 h1907_)
      have e1935_ : S 1100007 (g75 1046 0) = S 1100007 (S 1046 0) := congrArg ((S 1100007)) (la_stepBehind_266 h1907_)
      have e1936_ : S 1100007 (g75 1046 0) = S 1100007 (S 1100023 (S 1046 0)) := congrArg ((S 1100007)) (la_stepBehind_266 h1907_)
      have e1937_ : S 1100007 (g75 1046 0) = S 1100007 (S 1100025 (S 1046 0)) := congrArg ((S 1100007)) (la_stepBehind_266 h1907_)
      have e1938_ : S 1100007 (g75 1100023 (g75 1046 0)) = S 1100007 (S 1046 0) := congrArg ((S 1100007)) (la_stepBehind_266 h1907_)
      have e1939_ : S 1100007 (g75 1100023 (g75 1046 0)) = S 1100007 (S 1100023 (S 1046 0)) := congrArg ((S 1100007)) h1898_
      have e1940_ : S 1100007 (g75 1100023 (g75 1046 0)) = S 1100007 (S 1100025 (S 1046 0)) := congrArg ((S 1100007)) (la_stepBehind_266 h1907_)
      have e1941_ : S 1100007 (g75 1100023 (g75 1046 0)) = S 1100007 (g75 1046 0) := congrArg ((S 1100007)) (la_stepBehind_266 h1907_)
      have e1942_ : S 1100007 (g75 1100025 (g75 1046 0)) = S 1100007 (S 1046 0) := congrArg ((S 1100007)) (la_stepBehind_266 h1907_)
      have e1943_ : S 1100007 (g75 1100025 (g75 1046 0)) = S 1100007 (S 1100023 (S 1046 0)) := congrArg ((S 1100007)) (la_stepBehind_266 h1907_)
      have e1944_ : S 1100007 (g75 1100025 (g75 1046 0)) = S 1100007 (S 1100025 (S 1046 0)) := congrArg ((S 1100007)) h1900_
      have e1945_ : S 1100007 (g75 1100025 (g75 1046 0)) = S 1100007 (g75 1046 0) := congrArg ((S 1100007)) (la_stepBehind_266 h1907_)
      have e1946_ : S 1100007 (g75 1100025 (g75 1046 0)) = S 1100007 (g75 1100023 (g75 1046 0)) := congrArg ((S 1100007)) (la_stepBehind_266 h1907_)
      have e1947_ : S 1100007 (g85 1046 0) = S 1100007 (S 1046 0) := congrArg ((S 1100007)) (la_stepBehind_266 h1907_)
      have e1948_ : S 1100007 (g85 1046 0) = S 1100007 (S 1100023 (S 1046 0)) := congrArg ((S 1100007)) (la_stepBehind_266 h1907_)
      have e1949_ : S 1100007 (g85 1046 0) = S 1100007 (S 1100025 (S 1046 0)) := congrArg ((S 1100007)) (la_stepBehind_266 h1907_)
      have e1950_ : S 1100007 (g85 1046 0) = S 1100007 (g75 1046 0) := congrArg ((S 1100007)) (la_stepBehind_266 h1907_)
      have e1951_ : S 1100007 (g85 1046 0) = S 1100007 (g75 1100023 (g75 1046 0)) := congrArg ((S 1100007)) (la_stepBehind_266 h1907_)
      have e1952_ : S 1100007 (g85 1046 0) = S 1100007 (g75 1100025 (g75 1046 0)) := congrArg ((S 1100007)) (la_stepBehind_266 h1907_)
      have e1953_ : S 1100007 (g85 1100023 (g85 1046 0)) = S 1100007 (S 1046 0) := congrArg ((S 1100007)) (la_stepBehind_266 h1907_)
      have e1954_ : S 1100007 (g85 1100023 (g85 1046 0)) = S 1100007 (S 1100023 (S 1046 0)) := congrArg ((S 1100007)) (la_stepBehind_266 h1907_)
      have e1955_ : S 1100007 (g85 1100023 (g85 1046 0)) = S 1100007 (S 1100025 (S 1046 0)) := congrArg ((S 1100007)) (la_stepBehind_266 h1907_)
      have e1956_ : S 1100007 (g85 1100023 (g85 1046 0)) = S 1100007 (g75 1046 0) := congrArg ((S 1100007)) (la_stepBehind_266 h1907_)
      have e1957_ : S 1100007 (g85 1100023 (g85 1046 0)) = S 1100007 (g75 1100023 (g75 1046 0)) := congrArg ((S 1100007)) h1880_
      have e1958_ : S 1100007 (g85 1100023 (g85 1046 0)) = S 1100007 (g75 1100025 (g75 1046 0)) := congrArg ((S 1100007)) (la_stepBehind_266 h1907_)
      have e1959_ : S 1100007 (g85 1100023 (g85 1046 0)) = S 1100007 (g85 1046 0) := congrArg ((S 1100007)) (la_stepBehind_266 h1907_)
      have e1960_ : S 1100007 (g85 1100025 (g85 1046 0)) = S 1100007 (S 1046 0) := congrArg ((S 1100007)) (la_stepBehind_266 h1907_)
      have e1961_ : S 1100007 (g85 1100025 (g85 1046 0)) = S 1100007 (S 1100023 (S 1046 0)) := congrArg ((S 1100007)) (la_stepBehind_266 h1907_)
      have e1962_ : S 1100007 (g85 1100025 (g85 1046 0)) = S 1100007 (S 1100025 (S 1046 0)) := congrArg ((S 1100007)) (la_stepBehind_266 h1907_)
      have e1963_ : S 1100007 (g85 1100025 (g85 1046 0)) = S 1100007 (g75 1046 0) := congrArg ((S 1100007)) (la_stepBehind_266 h1907_)
      have e1964_ : S 1100007 (g85 1100025 (g85 1046 0)) = S 1100007 (g75 1100023 (g75 1046 0)) := congrArg ((S 1100007)) (la_stepBehind_266 h1907_)
      have e1965_ : S 1100007 (g85 1100025 (g85 1046 0)) = S 1100007 (g75 1100025 (g75 1046 0)) := congrArg ((S 1100007)) h1882_
      have e1966_ : S 1100007 (g85 1100025 (g85 1046 0)) = S 1100007 (g85 1046 0) := congrArg ((S 1100007)) (la_stepBehind_266 h1907_)
      have e1967_ : S 1100007 (g85 1100025 (g85 1046 0)) = S 1100007 (g85 1100023 (g85 1046 0)) := congrArg ((S 1100007)) (la_stepBehind_266 h1907_)
      have e1968_ : S 1100007 (g93 1046 0) = S 1100007 (S 1046 0) := congrArg ((S 1100007)) (la_stepBehind_266 h1907_)
      have e1969_ : S 1100007 (g93 1046 0) = S 1100007 (S 1100023 (S 1046 0)) := congrArg ((S 1100007)) (la_stepBehind_266 h1907_)
      have e1970_ : S 1100007 (g93 1046 0) = S 1100007 (S 1100025 (S 1046 0)) := congrArg ((S 1100007)) (la_stepBehind_266 h1907_)
      have e1971_ : S 1100007 (g93 1046 0) = S 1100007 (g75 1046 0) := congrArg ((S 1100007)) (la_stepBehind_266 h1907_)
      have e1972_ : S 1100007 (g93 1046 0) = S 1100007 (g75 1100023 (g75 1046 0)) := congrArg ((S 1100007)) (la_stepBehind_266 h1907_)
      have e1973_ : S 1100007 (g93 1046 0) = S 1100007 (g75 1100025 (g75 1046 0)) := congrArg ((S 1100007)) (la_stepBehind_266 h1907_)
      have e1974_ : S 1100007 (g93 1046 0) = S 1100007 (g85 1046 0) := congrArg ((S 1100007)) (la_stepBehind_266 h1907_)
      have e1975_ : S 1100007 (g93 1046 0) = S 1100007 (g85 1100023 (g85 1046 0)) := congrArg ((S 1100007)) (la_stepBehind_266 h1907_)
      have e1976_ : S 1100007 (g93 1046 0) = S 1100007 (g85 1100025 (g85 1046 0)) := congrArg ((S 1100007)) (la_stepBehind_266 h1907_)
      have e1977_ : S 1100007 (g93 1100023 (g93 1046 0)) = S 1100007 (S 1046 0) := congrArg ((S 1100007)) (la_stepBehind_266 h1907_)
      have e1978_ : S 1100007 (g93 1100023 (g93 1046 0)) = S 1100007 (S 1100023 (S 1046 0)) := congrArg ((S 1100007)) (la_stepBehind_266 h1907_)
      have e1979_ : S 1100007 (g93 1100023 (g93 1046 0)) = S 1100007 (S 1100025 (S 1046 0)) := congrArg ((S 1100007)) (la_stepBehind_266 h1907_)
      have e1980_ : S 1100007 (g93 1100023 (g93 1046 0)) = S 1100007 (g75 1046 0) := congrArg ((S 1100007)) (la_stepBehind_266 h1907_)
      have e1981_ : S 1100007 (g93 1100023 (g93 1046 0)) = S 1100007 (g75 1100023 (g75 1046 0)) := congrArg ((S 1100007)) (la_stepBehind_266 h1907_)
      have e1982_ : S 1100007 (g93 1100023 (g93 1046 0)) = S 1100007 (g75 1100025 (g75 1046 0)) := congrArg ((S 1100007)) (la_stepBehind_266 h1907_)
      have e1983_ : S 1100007 (g93 1100023 (g93 1046 0)) = S 1100007 (g85 1046 0) := congrArg ((S 1100007)) (la_stepBehind_266 h1907_)
      have e1984_ : S 1100007 (g93 1100023 (g93 1046 0)) = S 1100007 (g85 1100023 (g85 1046 0)) := congrArg ((S 1100007)) (la_stepBehind_266 h1907_)
      have e1985_ : S 1100007 (g93 1100023 (g93 1046 0)) = S 1100007 (g85 1100025 (g85 1046 0)) := congrArg ((S 1100007)) (la_stepBehind_266 h1907_)
      have e1986_ : S 1100007 (g93 1100023 (g93 1046 0)) = S 1100007 (g93 1046 0) := congrArg ((S 1100007)) (la_stepBehind_266 h1907_)
      have e1987_ : S 1100007 (g93 1100025 (g93 1046 0)) = S 1100007 (S 1046 0) := congrArg ((S 1100007)) (la_stepBehind_266 h1907_)
      have e1988_ : S 1100007 (g93 1100025 (g93 1046 0)) = S 1100007 (S 1100023 (S 1046 0)) := congrArg ((S 1100007)) (la_stepBehind_266 h1907_)
      have e1989_ : S 1100007 (g93 1100025 (g93 1046 0)) = S 1100007 (S 1100025 (S 1046 0)) := congrArg ((S 1100007)) (la_stepBehind_266 h1907_)
      have e1990_ : S 1100007 (g93 1100025 (g93 1046 0)) = S 1100007 (g75 1046 0) := congrArg ((S 1100007)) (la_stepBehind_266 h1907_)
      have e1991_ : S 1100007 (g93 1100025 (g93 1046 0)) = S 1100007 (g75 1100023 (g75 1046 0)) := congrArg ((S 1100007)) (la_stepBehind_266 h1907_)
      have e1992_ : S 1100007 (g93 1100025 (g93 1046 0)) = S 1100007 (g75 1100025 (g75 1046 0)) := congrArg ((S 1100007)) (la_stepBehind_266 h1907_)
      have e1993_ : S 1100007 (g93 1100025 (g93 1046 0)) = S 1100007 (g85 1046 0) := congrArg ((S 1100007)) (la_stepBehind_266 h1907_)
      have e1994_ : S 1100007 (g93 1100025 (g93 1046 0)) = S 1100007 (g85 1100023 (g85 1046 0)) := congrArg ((S 1100007)) (la_stepBehind_266 h1907_)
      have e1995_ : S 1100007 (g93 1100025 (g93 1046 0)) = S 1100007 (g85 1100025 (g85 1046 0)) := congrArg ((S 1100007)) (la_stepBehind_266 h1907_)
      have e1996_ : S 1100007 (g93 1100025 (g93 1046 0)) = S 1100007 (g93 1046 0) := congrArg ((S 1100007)) (la_stepBehind_266 h1907_)
      have e1997_ : S 1100007 (g93 1100025 (g93 1046 0)) = S 1100007 (g93 1100023 (g93 1046 0)) := congrArg ((S 1100007)) (la_stepBehind_266 h1907_)
      have e1998_ : S 1100023 (g75 1046 0) = S 1100023 (S 1046 0) := congrArg ((S 1100023)) (la_stepBehind_266 h1907_)
      have e1999_ : S 1100023 (g85 1046 0) = S 1100023 (S 1046 0) := congrArg ((S 1100023)) (la_stepBehind_266 h1907_)
      have e2000_ : S 1100023 (g85 1046 0) = S 1100023 (g75 1046 0) := congrArg ((S 1100023)) (la_stepBehind_266 h1907_)
      have e2001_ : S 1100023 (g93 1046 0) = S 1100023 (S 1046 0) := congrArg ((S 1100023)) (la_stepBehind_266 h1907_)
      have e2002_ : S 1100023 (g93 1046 0) = S 1100023 (g75 1046 0) := congrArg ((S 1100023)) (la_stepBehind_266 h1907_)
      have e2003_ : S 1100023 (g93 1046 0) = S 1100023 (g85 1046 0) := congrArg ((S 1100023)) (la_stepBehind_266 h1907_)
      have e2004_ : S 1100024 (g75 1046 0) = S 1100024 (S 1046 0) := congrArg ((S 1100024)) (la_stepBehind_266 h1907_)
      have e2005_ : S 1100024 (g85 1046 0) = S 1100024 (S 1046 0) := congrArg ((S 1100024)) (la_stepBehind_266 h1907_)
      have e2006_ : S 1100024 (g85 1046 0) = S 1100024 (g75 1046 0) := congrArg ((S 1100024)) (la_stepBehind_266 h1907_)
      have e2007_ : S 1100024 (g93 1046 0) = S 1100024 (S 1046 0) := congrArg ((S 1100024)) (la_stepBehind_266 h1907_)
      have e2008_ : S 1100024 (g93 1046 0) = S 1100024 (g75 1046 0) := congrArg ((S 1100024)) (la_stepBehind_266 h1907_)
      have e2009_ : S 1100024 (g93 1046 0) = S 1100024 (g85 1046 0) := congrArg ((S 1100024)) (la_stepBehind_266 h1907_)
      have e2010_ : S 1100025 (g75 1046 0) = S 1100025 (S 1046 0) := congrArg ((S 1100025)) (la_stepBehind_266 h1907_)
      have e2011_ : S 1100025 (g85 1046 0) = S 1100025 (S 1046 0) := congrArg ((S 1100025)) (la_stepBehind_266 h1907_)
      have e2012_ : S 1100025 (g85 1046 0) = S 1100025 (g75 1046 0) := congrArg ((S 1100025)) (la_stepBehind_266 h1907_)
      have e2013_ : S 1100025 (g93 1046 0) = S 1100025 (S 1046 0) := congrArg ((S 1100025)) (la_stepBehind_266 h1907_)
      have e2014_ : S 1100025 (g93 1046 0) = S 1100025 (g75 1046 0) := congrArg ((S 1100025)) (la_stepBehind_266 h1907_)
      have e2015_ : S 1100025 (g93 1046 0) = S 1100025 (g85 1046 0) := congrArg ((S 1100025)) (la_stepBehind_266 h1907_)
      have e2016_ : S 12 (5 * S 12 (5 * p2) + 1) = S 12 (5 * p2) := congrArg ((S 12)) (la_stepBehind_267 h1907_)
      have e2017_ : S 12 (5 * S 12 (5 * p2 + 1) + 1) = S 12 (5 * p2) := congrArg ((S 12)) (la_stepBehind_267 h1907_)
      have e2018_ : S 12 (5 * S 12 (5 * p2 + 1) + 1) = S 12 (5 * S 12 (5 * p2) + 1) := congrArg ((S 12)) (la_stepBehind_268 h1907_)
      have e2019_ : S 12 (5 * p2 + 0) = S 12 (5 * p2) := congrArg ((S 12)) la_stepBehind_157
      have e2020_ : S 12 (5 * p2 + 0) = S 12 (5 * S 12 (5 * p2) + 1) := congrArg ((S 12)) (la_stepBehind_269 h1907_)
      have e2021_ : S 12 (5 * p2 + 0) = S 12 (5 * S 12 (5 * p2 + 1) + 1) := congrArg ((S 12)) (la_stepBehind_269 h1907_)
      have e2022_ : S 12 (5 * p2 + 1) = S 12 (5 * p2) := congrArg ((S 12)) (la_stepBehind_270 h1907_)
      have e2023_ : S 12 (5 * p2 + 1) = S 12 (5 * S 12 (5 * p2) + 1) := congrArg ((S 12)) (la_stepBehind_268 h1907_)
      have e2024_ : S 12 (5 * p2 + 1) = S 12 (5 * S 12 (5 * p2 + 1) + 1) := congrArg ((S 12)) (la_stepBehind_268 h1907_)
      have e2025_ : S 12 (5 * p2 + 1) = S 12 (5 * p2 + 0) := congrArg ((S 12)) (la_stepBehind_271 h1907_)
      have e2026_ : g100 1100007 (g100 1100023 (g100 1046 0)) = g100 1100007 (g100 1046 0) := congrArg ((g100 1100007)) (la_stepBehind_266 h1907_)
      have e2027_ : g100 1100007 (g100 1100025 (g100 1046 0)) = g100 1100007 (g100 1046 0) := congrArg ((g100 1100007)) (la_stepBehind_266 h1907_)
      have e2028_ : g100 1100007 (g100 1100025 (g100 1046 0)) = g100 1100007 (g100 1100023 (g100 1046 0)) := congrArg ((g100 1100007)) (la_stepBehind_266 h1907_)
      have e2029_ : g100 1100023 (g100 1100023 (g100 1046 0)) = g100 1100023 (g100 1046 0) := congrArg ((g100 1100023)) (la_stepBehind_266 h1907_)
      have e2030_ : g100 1100025 (g100 1100025 (g100 1046 0)) = g100 1100025 (g100 1046 0) := congrArg ((g100 1100025)) (la_stepBehind_266 h1907_)
      have e2031_ : g75 1100007 (g100 1100023 (g100 1046 0)) = g75 1100007 (g100 1046 0) := congrArg ((g75 1100007)) (la_stepBehind_266 h1907_)
      have e2032_ : g75 1100007 (g100 1100025 (g100 1046 0)) = g75 1100007 (g100 1046 0) := congrArg ((g75 1100007)) (la_stepBehind_266 h1907_)
      have e2033_ : g75 1100007 (g100 1100025 (g100 1046 0)) = g75 1100007 (g100 1100023 (g100 1046 0)) := congrArg ((g75 1100007)) (la_stepBehind_266 h1907_)
      have e2034_ : g75 1100007 (g75 1046 0) = g75 1100007 (g100 1046 0) := congrArg ((g75 1100007)) (la_stepBehind_266 h1907_)
      have e2035_ : g75 1100007 (g75 1046 0) = g75 1100007 (g100 1100023 (g100 1046 0)) := congrArg ((g75 1100007)) (la_stepBehind_266 h1907_)
      have e2036_ : g75 1100007 (g75 1046 0) = g75 1100007 (g100 1100025 (g100 1046 0)) := congrArg ((g75 1100007)) (la_stepBehind_266 h1907_)
      have e2037_ : g75 1100007 (g75 1100023 (g75 1046 0)) = g75 1100007 (g100 1046 0) := congrArg ((g75 1100007)) (la_stepBehind_266 h1907_)
      have e2038_ : g75 1100007 (g75 1100023 (g75 1046 0)) = g75 1100007 (g100 1100023 (g100 1046 0)) := congrArg ((g75 1100007)) (la_stepBehind_266 h1907_)
      have e2039_ : g75 1100007 (g75 1100023 (g75 1046 0)) = g75 1100007 (g100 1100025 (g100 1046 0)) := congrArg ((g75 1100007)) (la_stepBehind_266 h1907_)
      have e2040_ : g75 1100007 (g75 1100023 (g75 1046 0)) = g75 1100007 (g75 1046 0) := congrArg ((g75 1100007)) (la_stepBehind_266 h1907_)
      have e2041_ : g75 1100007 (g75 1100025 (g75 1046 0)) = g75 1100007 (g100 1046 0) := congrArg ((g75 1100007)) (la_stepBehind_266 h1907_)
      have e2042_ : g75 1100007 (g75 1100025 (g75 1046 0)) = g75 1100007 (g100 1100023 (g100 1046 0)) := congrArg ((g75 1100007)) (la_stepBehind_266 h1907_)
      have e2043_ : g75 1100007 (g75 1100025 (g75 1046 0)) = g75 1100007 (g100 1100025 (g100 1046 0)) := congrArg ((g75 1100007)) (la_stepBehind_266 h1907_)
      have e2044_ : g75 1100007 (g75 1100025 (g75 1046 0)) = g75 1100007 (g75 1046 0) := congrArg ((g75 1100007)) (la_stepBehind_266 h1907_)
      have e2045_ : g75 1100007 (g75 1100025 (g75 1046 0)) = g75 1100007 (g75 1100023 (g75 1046 0)) := congrArg ((g75 1100007)) (la_stepBehind_266 h1907_)
      have e2046_ : g75 1100007 (g85 1046 0) = g75 1100007 (g100 1046 0) := congrArg ((g75 1100007)) (la_stepBehind_266 h1907_)
      have e2047_ : g75 1100007 (g85 1046 0) = g75 1100007 (g100 1100023 (g100 1046 0)) := congrArg ((g75 1100007)) (la_stepBehind_266 h1907_)
      have e2048_ : g75 1100007 (g85 1046 0) = g75 1100007 (g100 1100025 (g100 1046 0)) := congrArg ((g75 1100007)) (la_stepBehind_266 h1907_)
      have e2049_ : g75 1100007 (g85 1046 0) = g75 1100007 (g75 1046 0) := congrArg ((g75 1100007)) (la_stepBehind_266 h1907_)
      have e2050_ : g75 1100007 (g85 1046 0) = g75 1100007 (g75 1100023 (g75 1046 0)) := congrArg ((g75 1100007)) (la_stepBehind_266 h1907_)
      have e2051_ : g75 1100007 (g85 1046 0) = g75 1100007 (g75 1100025 (g75 1046 0)) := congrArg ((g75 1100007)) (la_stepBehind_266 h1907_)
      have e2052_ : g75 1100007 (g85 1100023 (g85 1046 0)) = g75 1100007 (g100 1046 0) := congrArg ((g75 1100007)) (la_stepBehind_266 h1907_)
      have e2053_ : g75 1100007 (g85 1100023 (g85 1046 0)) = g75 1100007 (g100 1100023 (g100 1046 0)) := congrArg ((g75 1100007)) (la_stepBehind_266 h1907_)
      have e2054_ : g75 1100007 (g85 1100023 (g85 1046 0)) = g75 1100007 (g100 1100025 (g100 1046 0)) := congrArg ((g75 1100007)) (la_stepBehind_266 h1907_)
      have e2055_ : g75 1100007 (g85 1100023 (g85 1046 0)) = g75 1100007 (g75 1046 0) := congrArg ((g75 1100007)) (la_stepBehind_266 h1907_)
      have e2056_ : g75 1100007 (g85 1100023 (g85 1046 0)) = g75 1100007 (g75 1100023 (g75 1046 0)) := congrArg ((g75 1100007)) h1880_
      have e2057_ : g75 1100007 (g85 1100023 (g85 1046 0)) = g75 1100007 (g75 1100025 (g75 1046 0)) := congrArg ((g75 1100007)) (la_stepBehind_266 h1907_)
      have e2058_ : g75 1100007 (g85 1100023 (g85 1046 0)) = g75 1100007 (g85 1046 0) := congrArg ((g75 1100007)) (la_stepBehind_266 h1907_)
      have e2059_ : g75 1100007 (g85 1100025 (g85 1046 0)) = g75 1100007 (g100 1046 0) := congrArg ((g75 1100007)) (la_stepBehind_266 h1907_)
      have e2060_ : g75 1100007 (g85 1100025 (g85 1046 0)) = g75 1100007 (g100 1100023 (g100 1046 0)) := congrArg ((g75 1100007)) (la_stepBehind_266 h1907_)
      have e2061_ : g75 1100007 (g85 1100025 (g85 1046 0)) = g75 1100007 (g100 1100025 (g100 1046 0)) := congrArg ((g75 1100007)) (la_stepBehind_266 h1907_)
      have e2062_ : g75 1100007 (g85 1100025 (g85 1046 0)) = g75 1100007 (g75 1046 0) := congrArg ((g75 1100007)) (la_stepBehind_266 h1907_)
      have e2063_ : g75 1100007 (g85 1100025 (g85 1046 0)) = g75 1100007 (g75 1100023 (g75 1046 0)) := congrArg ((g75 1100007)) (la_stepBehind_266 h1907_)
      have e2064_ : g75 1100007 (g85 1100025 (g85 1046 0)) = g75 1100007 (g75 1100025 (g75 1046 0)) := congrArg ((g75 1100007)) h1882_
      have e2065_ : g75 1100007 (g85 1100025 (g85 1046 0)) = g75 1100007 (g85 1046 0) := congrArg ((g75 1100007)) (la_stepBehind_266 h1907_)
      have e2066_ : g75 1100007 (g85 1100025 (g85 1046 0)) = g75 1100007 (g85 1100023 (g85 1046 0)) := congrArg ((g75 1100007)) (la_stepBehind_266 h1907_)
      have e2067_ : g75 1100007 (g93 1046 0) = g75 1100007 (g100 1046 0) := congrArg ((g75 1100007)) (la_stepBehind_266 h1907_)
      have e2068_ : g75 1100007 (g93 1046 0) = g75 1100007 (g100 1100023 (g100 1046 0)) := congrArg ((g75 1100007)) (la_stepBehind_266 h1907_)
      have e2069_ : g75 1100007 (g93 1046 0) = g75 1100007 (g100 1100025 (g100 1046 0)) := congrArg ((g75 1100007)) (la_stepBehind_266 h1907_)
      have e2070_ : g75 1100007 (g93 1046 0) = g75 1100007 (g75 1046 0) := congrArg ((g75 1100007)) (la_stepBehind_266 h1907_)
      have e2071_ : g75 1100007 (g93 1046 0) = g75 1100007 (g75 1100023 (g75 1046 0)) := congrArg ((g75 1100007)) (la_stepBehind_266 h1907_)
      have e2072_ : g75 1100007 (g93 1046 0) = g75 1100007 (g75 1100025 (g75 1046 0)) := congrArg ((g75 1100007)) (la_stepBehind_266 h1907_)
      have e2073_ : g75 1100007 (g93 1046 0) = g75 1100007 (g85 1046 0) := congrArg ((g75 1100007)) (la_stepBehind_266 h1907_)
      have e2074_ : g75 1100007 (g93 1046 0) = g75 1100007 (g85 1100023 (g85 1046 0)) := congrArg ((g75 1100007)) (la_stepBehind_266 h1907_)
      have e2075_ : g75 1100007 (g93 1046 0) = g75 1100007 (g85 1100025 (g85 1046 0)) := congrArg ((g75 1100007)) (la_stepBehind_266 h1907_)
      have e2076_ : g75 1100007 (g93 1100023 (g93 1046 0)) = g75 1100007 (g100 1046 0) := congrArg ((g75 1100007)) (la_stepBehind_266 h1907_)
      have e2077_ : g75 1100007 (g93 1100023 (g93 1046 0)) = g75 1100007 (g100 1100023 (g100 1046 0)) := congrArg ((g75 1100007)) (la_stepBehind_266 h1907_)
      have e2078_ : g75 1100007 (g93 1100023 (g93 1046 0)) = g75 1100007 (g100 1100025 (g100 1046 0)) := congrArg ((g75 1100007)) (la_stepBehind_266 h1907_)
      have e2079_ : g75 1100007 (g93 1100023 (g93 1046 0)) = g75 1100007 (g75 1046 0) := congrArg ((g75 1100007)) (la_stepBehind_266 h1907_)
      have e2080_ : g75 1100007 (g93 1100023 (g93 1046 0)) = g75 1100007 (g75 1100023 (g75 1046 0)) := congrArg ((g75 1100007)) (la_stepBehind_266 h1907_)
      have e2081_ : g75 1100007 (g93 1100023 (g93 1046 0)) = g75 1100007 (g75 1100025 (g75 1046 0)) := congrArg ((g75 1100007)) (la_stepBehind_266 h1907_)
      have e2082_ : g75 1100007 (g93 1100023 (g93 1046 0)) = g75 1100007 (g85 1046 0) := congrArg ((g75 1100007)) (la_stepBehind_266 h1907_)
      have e2083_ : g75 1100007 (g93 1100023 (g93 1046 0)) = g75 1100007 (g85 1100023 (g85 1046 0)) := congrArg ((g75 1100007)) (la_stepBehind_266 h1907_)
      have e2084_ : g75 1100007 (g93 1100023 (g93 1046 0)) = g75 1100007 (g85 1100025 (g85 1046 0)) := congrArg ((g75 1100007)) (la_stepBehind_266 h1907_)
      have e2085_ : g75 1100007 (g93 1100023 (g93 1046 0)) = g75 1100007 (g93 1046 0) := congrArg ((g75 1100007)) (la_stepBehind_266 h1907_)
      have e2086_ : g75 1100007 (g93 1100025 (g93 1046 0)) = g75 1100007 (g100 1046 0) := congrArg ((g75 1100007)) (la_stepBehind_266 h1907_)
      have e2087_ : g75 1100007 (g93 1100025 (g93 1046 0)) = g75 1100007 (g100 1100023 (g100 1046 0)) := congrArg ((g75 1100007)) (la_stepBehind_266 h1907_)
      have e2088_ : g75 1100007 (g93 1100025 (g93 1046 0)) = g75 1100007 (g100 1100025 (g100 1046 0)) := congrArg ((g75 1100007)) (la_stepBehind_266 h1907_)
      have e2089_ : g75 1100007 (g93 1100025 (g93 1046 0)) = g75 1100007 (g75 1046 0) := congrArg ((g75 1100007)) (la_stepBehind_266 h1907_)
      have e2090_ : g75 1100007 (g93 1100025 (g93 1046 0)) = g75 1100007 (g75 1100023 (g75 1046 0)) := congrArg ((g75 1100007)) (la_stepBehind_266 h1907_)
      have e2091_ : g75 1100007 (g93 1100025 (g93 1046 0)) = g75 1100007 (g75 1100025 (g75 1046 0)) := congrArg ((g75 1100007)) (la_stepBehind_266 h1907_)
      have e2092_ : g75 1100007 (g93 1100025 (g93 1046 0)) = g75 1100007 (g85 1046 0) := congrArg ((g75 1100007)) (la_stepBehind_266 h1907_)
      have e2093_ : g75 1100007 (g93 1100025 (g93 1046 0)) = g75 1100007 (g85 1100023 (g85 1046 0)) := congrArg ((g75 1100007)) (la_stepBehind_266 h1907_)
      have e2094_ : g75 1100007 (g93 1100025 (g93 1046 0)) = g75 1100007 (g85 1100025 (g85 1046 0)) := congrArg ((g75 1100007)) (la_stepBehind_266 h1907_)
      have e2095_ : g75 1100007 (g93 1100025 (g93 1046 0)) = g75 1100007 (g93 1046 0) := congrArg ((g75 1100007)) (la_stepBehind_266 h1907_)
      have e2096_ : g75 1100007 (g93 1100025 (g93 1046 0)) = g75 1100007 (g93 1100023 (g93 1046 0)) := congrArg ((g75 1100007)) (la_stepBehind_266 h1907_)
      have e2097_ : g75 1100023 (g75 1046 0) = g75 1100023 (g100 1046 0) := congrArg ((g75 1100023)) (la_stepBehind_266 h1907_)
      have e2098_ : g75 1100023 (g85 1046 0) = g75 1100023 (g100 1046 0) := congrArg ((g75 1100023)) (la_stepBehind_266 h1907_)
      have e2099_ : g75 1100023 (g85 1046 0) = g75 1100023 (g75 1046 0) := congrArg ((g75 1100023)) (la_stepBehind_266 h1907_)
      have e2100_ : g75 1100023 (g93 1046 0) = g75 1100023 (g100 1046 0) := congrArg ((g75 1100023)) (la_stepBehind_266 h1907_)
      have e2101_ : g75 1100023 (g93 1046 0) = g75 1100023 (g75 1046 0) := congrArg ((g75 1100023)) (la_stepBehind_266 h1907_)
      have e2102_ : g75 1100023 (g93 1046 0) = g75 1100023 (g85 1046 0) := congrArg ((g75 1100023)) (la_stepBehind_266 h1907_)
      have e2103_ : g75 1100024 (g75 1046 0) = g75 1100024 (g100 1046 0) := congrArg ((g75 1100024)) (la_stepBehind_266 h1907_)
      have e2104_ : g75 1100024 (g85 1046 0) = g75 1100024 (g100 1046 0) := congrArg ((g75 1100024)) (la_stepBehind_266 h1907_)
      have e2105_ : g75 1100024 (g85 1046 0) = g75 1100024 (g75 1046 0) := congrArg ((g75 1100024)) (la_stepBehind_266 h1907_)
      have e2106_ : g75 1100024 (g93 1046 0) = g75 1100024 (g100 1046 0) := congrArg ((g75 1100024)) (la_stepBehind_266 h1907_)
      have e2107_ : g75 1100024 (g93 1046 0) = g75 1100024 (g75 1046 0) := congrArg ((g75 1100024)) (la_stepBehind_266 h1907_)
      have e2108_ : g75 1100024 (g93 1046 0) = g75 1100024 (g85 1046 0) := congrArg ((g75 1100024)) (la_stepBehind_266 h1907_)
      have e2109_ : g75 1100025 (g75 1046 0) = g75 1100025 (g100 1046 0) := congrArg ((g75 1100025)) (la_stepBehind_266 h1907_)
      have e2110_ : g75 1100025 (g85 1046 0) = g75 1100025 (g100 1046 0) := congrArg ((g75 1100025)) (la_stepBehind_266 h1907_)
      have e2111_ : g75 1100025 (g85 1046 0) = g75 1100025 (g75 1046 0) := congrArg ((g75 1100025)) (la_stepBehind_266 h1907_)
      have e2112_ : g75 1100025 (g93 1046 0) = g75 1100025 (g100 1046 0) := congrArg ((g75 1100025)) (la_stepBehind_266 h1907_)
      have e2113_ : g75 1100025 (g93 1046 0) = g75 1100025 (g75 1046 0) := congrArg ((g75 1100025)) (la_stepBehind_266 h1907_)
      have e2114_ : g75 1100025 (g93 1046 0) = g75 1100025 (g85 1046 0) := congrArg ((g75 1100025)) (la_stepBehind_266 h1907_)
      have e2115_ : g75 26 (g93 1046 0) = g75 26 (g85 1046 0) := congrArg ((g75 26)) (la_stepBehind_266 h1907_)
      have e2116_ : g75 29 (g93 1046 0) = g75 29 (g85 1046 0) := congrArg ((g75 29)) (la_stepBehind_266 h1907_)
      have e2117_ : g85 1100007 (g100 1100023 (g100 1046 0)) = g85 1100007 (g100 1046 0) := congrArg ((g85 1100007)) (la_stepBehind_266 h1907_)
      have e2118_ : g85 1100007 (g100 1100025 (g100 1046 0)) = g85 1100007 (g100 1046 0) := congrArg ((g85 1100007)) (la_stepBehind_266 h1907_)
      have e2119_ : g85 1100007 (g100 1100025 (g100 1046 0)) = g85 1100007 (g100 1100023 (g100 1046 0)) := congrArg ((g85 1100007)) (la_stepBehind_266 h1907_)
      have e2120_ : g85 1100007 (g85 1046 0) = g85 1100007 (g100 1046 0) := congrArg ((g85 1100007)) (la_stepBehind_266 h1907_)
      have e2121_ : g85 1100007 (g85 1046 0) = g85 1100007 (g100 1100023 (g100 1046 0)) := congrArg ((g85 1100007)) (la_stepBehind_266 h1907_)
      have e2122_ : g85 1100007 (g85 1046 0) = g85 1100007 (g100 1100025 (g100 1046 0)) := congrArg ((g85 1100007)) (la_stepBehind_266 h1907_)
      have e2123_ : g85 1100007 (g85 1100023 (g85 1046 0)) = g85 1100007 (g100 1046 0) := congrArg ((g85 1100007)) (la_stepBehind_266 h1907_)
      have e2124_ : g85 1100007 (g85 1100023 (g85 1046 0)) = g85 1100007 (g100 1100023 (g100 1046 0)) := congrArg ((g85 1100007)) (la_stepBehind_266 h1907_)
      have e2125_ : g85 1100007 (g85 1100023 (g85 1046 0)) = g85 1100007 (g100 1100025 (g100 1046 0)) := congrArg ((g85 1100007)) (la_stepBehind_266 h1907_)
      have e2126_ : g85 1100007 (g85 1100023 (g85 1046 0)) = g85 1100007 (g85 1046 0) := congrArg ((g85 1100007)) (la_stepBehind_266 h1907_)
      have e2127_ : g85 1100007 (g85 1100023 (g85 1100023 (g85 1046 0))) = g85 1100007 (g100 1046 0) := congrArg ((g85 1100007)) (la_stepBehind_266 h1907_)
      have e2128_ : g85 1100007 (g85 1100023 (g85 1100023 (g85 1046 0))) = g85 1100007 (g100 1100023 (g100 1046 0)) := congrArg ((g85 1100007)) (la_stepBehind_266 h1907_)
      have e2129_ : g85 1100007 (g85 1100023 (g85 1100023 (g85 1046 0))) = g85 1100007 (g100 1100025 (g100 1046 0)) := congrArg ((g85 1100007)) (la_stepBehind_266 h1907_)
      have e2130_ : g85 1100007 (g85 1100023 (g85 1100023 (g85 1046 0))) = g85 1100007 (g85 1046 0) := congrArg ((g85 1100007)) (la_stepBehind_266 h1907_)
      have e2131_ : g85 1100007 (g85 1100023 (g85 1100023 (g85 1046 0))) = g85 1100007 (g85 1100023 (g85 1046 0)) := congrArg ((g85 1100007)) (la_stepBehind_266 h1907_)
      have e2132_ : g85 1100007 (g85 1100025 (g85 1046 0)) = g85 1100007 (g100 1046 0) := congrArg ((g85 1100007)) (la_stepBehind_266 h1907_)
      have e2133_ : g85 1100007 (g85 1100025 (g85 1046 0)) = g85 1100007 (g100 1100023 (g100 1046 0)) := congrArg ((g85 1100007)) (la_stepBehind_266 h1907_)
      have e2134_ : g85 1100007 (g85 1100025 (g85 1046 0)) = g85 1100007 (g100 1100025 (g100 1046 0)) := congrArg ((g85 1100007)) (la_stepBehind_266 h1907_)
      have e2135_ : g85 1100007 (g85 1100025 (g85 1046 0)) = g85 1100007 (g85 1046 0) := congrArg ((g85 1100007)) (la_stepBehind_266 h1907_)
      have e2136_ : g85 1100007 (g85 1100025 (g85 1046 0)) = g85 1100007 (g85 1100023 (g85 1046 0)) := congrArg ((g85 1100007)) (la_stepBehind_266 h1907_)
      have e2137_ : g85 1100007 (g85 1100025 (g85 1046 0)) = g85 1100007 (g85 1100023 (g85 1100023 (g85 1046 0))) := congrArg ((g85 1100007)) (la_stepBehind_266 h1907_)
      have e2138_ : g85 1100007 (g93 1046 0) = g85 1100007 (g100 1046 0) := congrArg ((g85 1100007)) (la_stepBehind_266 h1907_)
      have e2139_ : g85 1100007 (g93 1046 0) = g85 1100007 (g100 1100023 (g100 1046 0)) := congrArg ((g85 1100007)) (la_stepBehind_266 h1907_)
      have e2140_ : g85 1100007 (g93 1046 0) = g85 1100007 (g100 1100025 (g100 1046 0)) := congrArg ((g85 1100007)) (la_stepBehind_266 h1907_)
      have e2141_ : g85 1100007 (g93 1046 0) = g85 1100007 (g85 1046 0) := congrArg ((g85 1100007)) (la_stepBehind_266 h1907_)
      have e2142_ : g85 1100007 (g93 1046 0) = g85 1100007 (g85 1100023 (g85 1046 0)) := congrArg ((g85 1100007)) (la_stepBehind_266 h1907_)
      have e2143_ : g85 1100007 (g93 1046 0) = g85 1100007 (g85 1100023 (g85 1100023 (g85 1046 0))) := congrArg ((g85 1100007)) (la_stepBehind_266 h1907_)
      have e2144_ : g85 1100007 (g93 1046 0) = g85 1100007 (g85 1100025 (g85 1046 0)) := congrArg ((g85 1100007)) (la_stepBehind_266 h1907_)
      have e2145_ : g85 1100007 (g93 1100023 (g93 1046 0)) = g85 1100007 (g100 1046 0) := congrArg ((g85 1100007)) (la_stepBehind_266 h1907_)
      have e2146_ : g85 1100007 (g93 1100023 (g93 1046 0)) = g85 1100007 (g100 1100023 (g100 1046 0)) := congrArg ((g85 1100007)) (la_stepBehind_266 h1907_)
      have e2147_ : g85 1100007 (g93 1100023 (g93 1046 0)) = g85 1100007 (g100 1100025 (g100 1046 0)) := congrArg ((g85 1100007)) (la_stepBehind_266 h1907_)
      have e2148_ : g85 1100007 (g93 1100023 (g93 1046 0)) = g85 1100007 (g85 1046 0) := congrArg ((g85 1100007)) (la_stepBehind_266 h1907_)
      have e2149_ : g85 1100007 (g93 1100023 (g93 1046 0)) = g85 1100007 (g85 1100023 (g85 1046 0)) := congrArg ((g85 1100007)) (la_stepBehind_266 h1907_)
      have e2150_ : g85 1100007 (g93 1100023 (g93 1046 0)) = g85 1100007 (g85 1100023 (g85 1100023 (g85 1046 0))) := congrArg ((g85 1100007)) (la_stepBehind_266 h1907_)
      have e2151_ : g85 1100007 (g93 1100023 (g93 1046 0)) = g85 1100007 (g85 1100025 (g85 1046 0)) := congrArg ((g85 1100007)) (la_stepBehind_266 h1907_)
      have e2152_ : g85 1100007 (g93 1100023 (g93 1046 0)) = g85 1100007 (g93 1046 0) := congrArg ((g85 1100007)) (la_stepBehind_266 h1907_)
      have e2153_ : g85 1100007 (g93 1100025 (g93 1046 0)) = g85 1100007 (g100 1046 0) := congrArg ((g85 1100007)) (la_stepBehind_266 h1907_)
      have e2154_ : g85 1100007 (g93 1100025 (g93 1046 0)) = g85 1100007 (g100 1100023 (g100 1046 0)) := congrArg ((g85 1100007)) (la_stepBehind_266 h1907_)
      have e2155_ : g85 1100007 (g93 1100025 (g93 1046 0)) = g85 1100007 (g100 1100025 (g100 1046 0)) := congrArg ((g85 1100007)) (la_stepBehind_266 h1907_)
      have e2156_ : g85 1100007 (g93 1100025 (g93 1046 0)) = g85 1100007 (g85 1046 0) := congrArg ((g85 1100007)) (la_stepBehind_266 h1907_)
      have e2157_ : g85 1100007 (g93 1100025 (g93 1046 0)) = g85 1100007 (g85 1100023 (g85 1046 0)) := congrArg ((g85 1100007)) (la_stepBehind_266 h1907_)
      have e2158_ : g85 1100007 (g93 1100025 (g93 1046 0)) = g85 1100007 (g85 1100023 (g85 1100023 (g85 1046 0))) := congrArg ((g85 1100007)) (la_stepBehind_266 h1907_)
      have e2159_ : g85 1100007 (g93 1100025 (g93 1046 0)) = g85 1100007 (g85 1100025 (g85 1046 0)) := congrArg ((g85 1100007)) (la_stepBehind_266 h1907_)
      have e2160_ : g85 1100007 (g93 1100025 (g93 1046 0)) = g85 1100007 (g93 1046 0) := congrArg ((g85 1100007)) (la_stepBehind_266 h1907_)
      have e2161_ : g85 1100007 (g93 1100025 (g93 1046 0)) = g85 1100007 (g93 1100023 (g93 1046 0)) := congrArg ((g85 1100007)) (la_stepBehind_266 h1907_)
      have e2162_ : g85 1100023 (g85 1046 0) = g85 1100023 (g100 1046 0) := congrArg ((g85 1100023)) (la_stepBehind_266 h1907_)
      have e2163_ : g85 1100023 (g85 1100023 (g85 1046 0)) = g85 1100023 (g100 1046 0) := congrArg ((g85 1100023)) (la_stepBehind_266 h1907_)
      have e2164_ : g85 1100023 (g85 1100023 (g85 1046 0)) = g85 1100023 (g85 1046 0) := congrArg ((g85 1100023)) (la_stepBehind_266 h1907_)
      have e2165_ : g85 1100023 (g93 1046 0) = g85 1100023 (g100 1046 0) := congrArg ((g85 1100023)) (la_stepBehind_266 h1907_)
      have e2166_ : g85 1100023 (g93 1046 0) = g85 1100023 (g85 1046 0) := congrArg ((g85 1100023)) (la_stepBehind_266 h1907_)
      have e2167_ : g85 1100023 (g93 1046 0) = g85 1100023 (g85 1100023 (g85 1046 0)) := congrArg ((g85 1100023)) (la_stepBehind_266 h1907_)
      have e2168_ : g85 1100024 (g85 1046 0) = g85 1100024 (g100 1046 0) := congrArg ((g85 1100024)) (la_stepBehind_266 h1907_)
      have e2169_ : g85 1100024 (g93 1046 0) = g85 1100024 (g100 1046 0) := congrArg ((g85 1100024)) (la_stepBehind_266 h1907_)
      have e2170_ : g85 1100024 (g93 1046 0) = g85 1100024 (g85 1046 0) := congrArg ((g85 1100024)) (la_stepBehind_266 h1907_)
      have e2171_ : g85 1100025 (g85 1046 0) = g85 1100025 (g100 1046 0) := congrArg ((g85 1100025)) (la_stepBehind_266 h1907_)
      have e2172_ : g85 1100025 (g85 1100025 (g85 1046 0)) = g85 1100025 (g100 1046 0) := congrArg ((g85 1100025)) (la_stepBehind_266 h1907_)
      have e2173_ : g85 1100025 (g85 1100025 (g85 1046 0)) = g85 1100025 (g85 1046 0) := congrArg ((g85 1100025)) (la_stepBehind_266 h1907_)
      have e2174_ : g85 1100025 (g93 1046 0) = g85 1100025 (g100 1046 0) := congrArg ((g85 1100025)) (la_stepBehind_266 h1907_)
      have e2175_ : g85 1100025 (g93 1046 0) = g85 1100025 (g85 1046 0) := congrArg ((g85 1100025)) (la_stepBehind_266 h1907_)
      have e2176_ : g85 1100025 (g93 1046 0) = g85 1100025 (g85 1100025 (g85 1046 0)) := congrArg ((g85 1100025)) (la_stepBehind_266 h1907_)
      have e2177_ : g85 26 (g93 1046 0) = g85 26 (g85 1046 0) := congrArg ((g85 26)) (la_stepBehind_266 h1907_)
      have e2178_ : g85 29 (g93 1046 0) = g85 29 (g85 1046 0) := congrArg ((g85 29)) (la_stepBehind_266 h1907_)
      have e2179_ : g93 1100007 (g100 1100023 (g100 1046 0)) = g93 1100007 (g100 1046 0) := congrArg ((g93 1100007)) (la_stepBehind_266 h1907_)
      have e2180_ : g93 1100007 (g100 1100025 (g100 1046 0)) = g93 1100007 (g100 1046 0) := congrArg ((g93 1100007)) (la_stepBehind_266 h1907_)
      have e2181_ : g93 1100007 (g100 1100025 (g100 1046 0)) = g93 1100007 (g100 1100023 (g100 1046 0)) := congrArg ((g93 1100007)) (la_stepBehind_266 h1907_)
      have e2182_ : g93 1100007 (g93 1046 0) = g93 1100007 (g100 1046 0) := congrArg ((g93 1100007)) (la_stepBehind_266 h1907_)
      have e2183_ : g93 1100007 (g93 1046 0) = g93 1100007 (g100 1100023 (g100 1046 0)) := congrArg ((g93 1100007)) (la_stepBehind_266 h1907_)
      have e2184_ : g93 1100007 (g93 1046 0) = g93 1100007 (g100 1100025 (g100 1046 0)) := congrArg ((g93 1100007)) (la_stepBehind_266 h1907_)
      have e2185_ : g93 1100007 (g93 1100023 (g93 1046 0)) = g93 1100007 (g100 1046 0) := congrArg ((g93 1100007)) (la_stepBehind_266 h1907_)
      have e2186_ : g93 1100007 (g93 1100023 (g93 1046 0)) = g93 1100007 (g100 1100023 (g100 1046 0)) := congrArg ((g93 1100007)) (la_stepBehind_266 h1907_)
      have e2187_ : g93 1100007 (g93 1100023 (g93 1046 0)) = g93 1100007 (g100 1100025 (g100 1046 0)) := congrArg ((g93 1100007)) (la_stepBehind_266 h1907_)
      have e2188_ : g93 1100007 (g93 1100023 (g93 1046 0)) = g93 1100007 (g93 1046 0) := congrArg ((g93 1100007)) (la_stepBehind_266 h1907_)
      have e2189_ : g93 1100007 (g93 1100023 (g93 1100023 (g93 1046 0))) = g93 1100007 (g100 1046 0) := congrArg ((g93 1100007)) (la_stepBehind_266 h1907_)
      have e2190_ : g93 1100007 (g93 1100023 (g93 1100023 (g93 1046 0))) = g93 1100007 (g100 1100023 (g100 1046 0)) := congrArg ((g93 1100007)) (la_stepBehind_266 h1907_)
      have e2191_ : g93 1100007 (g93 1100023 (g93 1100023 (g93 1046 0))) = g93 1100007 (g100 1100025 (g100 1046 0)) := congrArg ((g93 1100007)) (la_stepBehind_266 h1907_)
      have e2192_ : g93 1100007 (g93 1100023 (g93 1100023 (g93 1046 0))) = g93 1100007 (g93 1046 0) := congrArg ((g93 1100007)) (la_stepBehind_266 h1907_)
      have e2193_ : g93 1100007 (g93 1100023 (g93 1100023 (g93 1046 0))) = g93 1100007 (g93 1100023 (g93 1046 0)) := congrArg ((g93 1100007)) (la_stepBehind_266 h1907_)
      have e2194_ : g93 1100007 (g93 1100025 (g93 1046 0)) = g93 1100007 (g100 1046 0) := congrArg ((g93 1100007)) (la_stepBehind_266 h1907_)
      have e2195_ : g93 1100007 (g93 1100025 (g93 1046 0)) = g93 1100007 (g100 1100023 (g100 1046 0)) := congrArg ((g93 1100007)) (la_stepBehind_266 h1907_)
      have e2196_ : g93 1100007 (g93 1100025 (g93 1046 0)) = g93 1100007 (g100 1100025 (g100 1046 0)) := congrArg ((g93 1100007)) (la_stepBehind_266 h1907_)
      have e2197_ : g93 1100007 (g93 1100025 (g93 1046 0)) = g93 1100007 (g93 1046 0) := congrArg ((g93 1100007)) (la_stepBehind_266 h1907_)
      have e2198_ : g93 1100007 (g93 1100025 (g93 1046 0)) = g93 1100007 (g93 1100023 (g93 1046 0)) := congrArg ((g93 1100007)) (la_stepBehind_266 h1907_)
      have e2199_ : g93 1100007 (g93 1100025 (g93 1046 0)) = g93 1100007 (g93 1100023 (g93 1100023 (g93 1046 0))) := congrArg ((g93 1100007)) (la_stepBehind_266 h1907_)
      have e2200_ : g93 1100023 (g93 1046 0) = g93 1100023 (g100 1046 0) := congrArg ((g93 1100023)) (la_stepBehind_266 h1907_)
      have e2201_ : g93 1100023 (g93 1100023 (g93 1046 0)) = g93 1100023 (g100 1046 0) := congrArg ((g93 1100023)) (la_stepBehind_266 h1907_)
      have e2202_ : g93 1100023 (g93 1100023 (g93 1046 0)) = g93 1100023 (g93 1046 0) := congrArg ((g93 1100023)) (la_stepBehind_266 h1907_)
      have e2203_ : g93 1100024 (g93 1046 0) = g93 1100024 (g100 1046 0) := congrArg ((g93 1100024)) (la_stepBehind_266 h1907_)
      have e2204_ : g93 1100025 (g93 1046 0) = g93 1100025 (g100 1046 0) := congrArg ((g93 1100025)) (la_stepBehind_266 h1907_)
      have e2205_ : g93 1100025 (g93 1100025 (g93 1046 0)) = g93 1100025 (g100 1046 0) := congrArg ((g93 1100025)) (la_stepBehind_266 h1907_)
      have e2206_ : g93 1100025 (g93 1100025 (g93 1046 0)) = g93 1100025 (g93 1046 0) := congrArg ((g93 1100025)) (la_stepBehind_266 h1907_)
      have e2207_ : g93 26 (g93 1046 0) = g93 26 (g85 1046 0) := congrArg ((g93 26)) (la_stepBehind_266 h1907_)
      have e2208_ : g93 29 (g93 1046 0) = g93 29 (g85 1046 0) := congrArg ((g93 29)) (la_stepBehind_266 h1907_)
      have e2209_ : S 1100023 (g100 1046 0) = S 1100023 (S 1046 0) := congrArg ((S 1100023)) (la_stepBehind_266 h1907_)
      have e2210_ : S 1100023 (g75 1046 0) = S 1100023 (g100 1046 0) := congrArg ((S 1100023)) (la_stepBehind_266 h1907_)
      have e2211_ : S 1100023 (g85 1046 0) = S 1100023 (g100 1046 0) := congrArg ((S 1100023)) (la_stepBehind_266 h1907_)
      have e2212_ : S 1100023 (g85 1100023 (g85 1046 0)) = S 1100023 (S 1046 0) := congrArg ((S 1100023)) (la_stepBehind_266 h1907_)
      have e2213_ : S 1100023 (g85 1100023 (g85 1046 0)) = S 1100023 (g100 1046 0) := congrArg ((S 1100023)) (la_stepBehind_266 h1907_)
      have e2214_ : S 1100023 (g85 1100023 (g85 1046 0)) = S 1100023 (g75 1046 0) := congrArg ((S 1100023)) (la_stepBehind_266 h1907_)
      have e2215_ : S 1100023 (g85 1100023 (g85 1046 0)) = S 1100023 (g85 1046 0) := congrArg ((S 1100023)) (la_stepBehind_266 h1907_)
      have e2216_ : S 1100023 (g93 1046 0) = S 1100023 (g100 1046 0) := congrArg ((S 1100023)) (la_stepBehind_266 h1907_)
      have e2217_ : S 1100023 (g93 1046 0) = S 1100023 (g85 1100023 (g85 1046 0)) := congrArg ((S 1100023)) (la_stepBehind_266 h1907_)
      have e2218_ : S 1100023 (g93 1100023 (g93 1046 0)) = S 1100023 (S 1046 0) := congrArg ((S 1100023)) (la_stepBehind_266 h1907_)
      have e2219_ : S 1100023 (g93 1100023 (g93 1046 0)) = S 1100023 (g100 1046 0) := congrArg ((S 1100023)) (la_stepBehind_266 h1907_)
      have e2220_ : S 1100023 (g93 1100023 (g93 1046 0)) = S 1100023 (g75 1046 0) := congrArg ((S 1100023)) (la_stepBehind_266 h1907_)
      have e2221_ : S 1100023 (g93 1100023 (g93 1046 0)) = S 1100023 (g85 1046 0) := congrArg ((S 1100023)) (la_stepBehind_266 h1907_)
      have e2222_ : S 1100023 (g93 1100023 (g93 1046 0)) = S 1100023 (g85 1100023 (g85 1046 0)) := congrArg ((S 1100023)) (la_stepBehind_266 h1907_)
      have e2223_ : S 1100023 (g93 1100023 (g93 1046 0)) = S 1100023 (g93 1046 0) := congrArg ((S 1100023)) (la_stepBehind_266 h1907_)
      have e2224_ : S 1100024 (g100 1046 0) = S 1100024 (S 1046 0) := congrArg ((S 1100024)) (la_stepBehind_266 h1907_)
      have e2225_ : S 1100024 (g75 1046 0) = S 1100024 (g100 1046 0) := congrArg ((S 1100024)) (la_stepBehind_266 h1907_)
      have e2226_ : S 1100024 (g85 1046 0) = S 1100024 (g100 1046 0) := congrArg ((S 1100024)) (la_stepBehind_266 h1907_)
      have e2227_ : S 1100024 (g93 1046 0) = S 1100024 (g100 1046 0) := congrArg ((S 1100024)) (la_stepBehind_266 h1907_)
      have e2228_ : S 1100025 (g100 1046 0) = S 1100025 (S 1046 0) := congrArg ((S 1100025)) (la_stepBehind_266 h1907_)
      have e2229_ : S 1100025 (g75 1046 0) = S 1100025 (g100 1046 0) := congrArg ((S 1100025)) (la_stepBehind_266 h1907_)
      have e2230_ : S 1100025 (g85 1046 0) = S 1100025 (g100 1046 0) := congrArg ((S 1100025)) (la_stepBehind_266 h1907_)
      have e2231_ : S 1100025 (g85 1100025 (g85 1046 0)) = S 1100025 (S 1046 0) := congrArg ((S 1100025)) (la_stepBehind_266 h1907_)
      have e2232_ : S 1100025 (g85 1100025 (g85 1046 0)) = S 1100025 (g100 1046 0) := congrArg ((S 1100025)) (la_stepBehind_266 h1907_)
      have e2233_ : S 1100025 (g85 1100025 (g85 1046 0)) = S 1100025 (g75 1046 0) := congrArg ((S 1100025)) (la_stepBehind_266 h1907_)
      have e2234_ : S 1100025 (g85 1100025 (g85 1046 0)) = S 1100025 (g85 1046 0) := congrArg ((S 1100025)) (la_stepBehind_266 h1907_)
      have e2235_ : S 1100025 (g93 1046 0) = S 1100025 (g100 1046 0) := congrArg ((S 1100025)) (la_stepBehind_266 h1907_)
      have e2236_ : S 1100025 (g93 1046 0) = S 1100025 (g85 1100025 (g85 1046 0)) := congrArg ((S 1100025)) (la_stepBehind_266 h1907_)
      have e2237_ : S 1100025 (g93 1100025 (g93 1046 0)) = S 1100025 (S 1046 0) := congrArg ((S 1100025)) (la_stepBehind_266 h1907_)
      have e2238_ : S 1100025 (g93 1100025 (g93 1046 0)) = S 1100025 (g100 1046 0) := congrArg ((S 1100025)) (la_stepBehind_266 h1907_)
      have e2239_ : S 1100025 (g93 1100025 (g93 1046 0)) = S 1100025 (g75 1046 0) := congrArg ((S 1100025)) (la_stepBehind_266 h1907_)
      have e2240_ : S 1100025 (g93 1100025 (g93 1046 0)) = S 1100025 (g85 1046 0) := congrArg ((S 1100025)) (la_stepBehind_266 h1907_)
      have e2241_ : S 1100025 (g93 1100025 (g93 1046 0)) = S 1100025 (g85 1100025 (g85 1046 0)) := congrArg ((S 1100025)) (la_stepBehind_266 h1907_)
      have e2242_ : S 1100025 (g93 1100025 (g93 1046 0)) = S 1100025 (g93 1046 0) := congrArg ((S 1100025)) (la_stepBehind_266 h1907_)
      have e2243_ : S 26 (g93 1046 0) = S 26 (g85 1046 0) := congrArg ((S 26)) (la_stepBehind_266 h1907_)
      have e2244_ : S 29 (g93 1046 0) = S 29 (g85 1046 0) := congrArg ((S 29)) (la_stepBehind_266 h1907_)
      have e2245_ : g75 1100007 (g85 1100023 (g85 1100023 (g85 1046 0))) = g75 1100007 (g100 1046 0) := congrArg ((g75 1100007)) (la_stepBehind_266 h1907_)
      have e2246_ : g75 1100007 (g85 1100023 (g85 1100023 (g85 1046 0))) = g75 1100007 (g100 1100023 (g100 1046 0)) := congrArg ((g75 1100007)) (la_stepBehind_266 h1907_)
      have e2247_ : g75 1100007 (g85 1100023 (g85 1100023 (g85 1046 0))) = g75 1100007 (g100 1100025 (g100 1046 0)) := congrArg ((g75 1100007)) (la_stepBehind_266 h1907_)
      have e2248_ : g75 1100007 (g85 1100023 (g85 1100023 (g85 1046 0))) = g75 1100007 (g75 1046 0) := congrArg ((g75 1100007)) (la_stepBehind_266 h1907_)
      have e2249_ : g75 1100007 (g85 1100023 (g85 1100023 (g85 1046 0))) = g75 1100007 (g75 1100023 (g75 1046 0)) := congrArg ((g75 1100007)) (la_stepBehind_266 h1907_)
      have e2250_ : g75 1100007 (g85 1100023 (g85 1100023 (g85 1046 0))) = g75 1100007 (g75 1100025 (g75 1046 0)) := congrArg ((g75 1100007)) (la_stepBehind_266 h1907_)
      have e2251_ : g75 1100007 (g85 1100023 (g85 1100023 (g85 1046 0))) = g75 1100007 (g85 1046 0) := congrArg ((g75 1100007)) (la_stepBehind_266 h1907_)
      have e2252_ : g75 1100007 (g85 1100023 (g85 1100023 (g85 1046 0))) = g75 1100007 (g85 1100023 (g85 1046 0)) := congrArg ((g75 1100007)) e2164_
      have e2253_ : g75 1100007 (g85 1100025 (g85 1046 0)) = g75 1100007 (g85 1100023 (g85 1100023 (g85 1046 0))) := congrArg ((g75 1100007)) (la_stepBehind_266 h1907_)
      have e2254_ : g75 1100007 (g93 1046 0) = g75 1100007 (g85 1100023 (g85 1100023 (g85 1046 0))) := congrArg ((g75 1100007)) (la_stepBehind_266 h1907_)
      have e2255_ : g75 1100007 (g93 1100023 (g93 1046 0)) = g75 1100007 (g85 1100023 (g85 1100023 (g85 1046 0))) := congrArg ((g75 1100007)) (la_stepBehind_266 h1907_)
      have e2256_ : g75 1100007 (g93 1100023 (g93 1100023 (g93 1046 0))) = g75 1100007 (g100 1046 0) := congrArg ((g75 1100007)) (la_stepBehind_266 h1907_)
      have e2257_ : g75 1100007 (g93 1100023 (g93 1100023 (g93 1046 0))) = g75 1100007 (g100 1100023 (g100 1046 0)) := congrArg ((g75 1100007)) (la_stepBehind_266 h1907_)
      have e2258_ : g75 1100007 (g93 1100023 (g93 1100023 (g93 1046 0))) = g75 1100007 (g100 1100025 (g100 1046 0)) := congrArg ((g75 1100007)) (la_stepBehind_266 h1907_)
      have e2259_ : g75 1100007 (g93 1100023 (g93 1100023 (g93 1046 0))) = g75 1100007 (g75 1046 0) := congrArg ((g75 1100007)) (la_stepBehind_266 h1907_)
      have e2260_ : g75 1100007 (g93 1100023 (g93 1100023 (g93 1046 0))) = g75 1100007 (g75 1100023 (g75 1046 0)) := congrArg ((g75 1100007)) (la_stepBehind_266 h1907_)
      have e2261_ : g75 1100007 (g93 1100023 (g93 1100023 (g93 1046 0))) = g75 1100007 (g75 1100025 (g75 1046 0)) := congrArg ((g75 1100007)) (la_stepBehind_266 h1907_)
      have e2262_ : g75 1100007 (g93 1100023 (g93 1100023 (g93 1046 0))) = g75 1100007 (g85 1046 0) := congrArg ((g75 1100007)) (la_stepBehind_266 h1907_)
      have e2263_ : g75 1100007 (g93 1100023 (g93 1100023 (g93 1046 0))) = g75 1100007 (g85 1100023 (g85 1046 0)) := congrArg ((g75 1100007)) (la_stepBehind_266 h1907_)
      have e2264_ : g75 1100007 (g93 1100023 (g93 1100023 (g93 1046 0))) = g75 1100007 (g85 1100023 (g85 1100023 (g85 1046 0))) := congrArg ((g75 1100007)) (la_stepBehind_266 h1907_)
      have e2265_ : g75 1100007 (g93 1100023 (g93 1100023 (g93 1046 0))) = g75 1100007 (g85 1100025 (g85 1046 0)) := congrArg ((g75 1100007)) (la_stepBehind_266 h1907_)
      have e2266_ : g75 1100007 (g93 1100023 (g93 1100023 (g93 1046 0))) = g75 1100007 (g93 1046 0) := congrArg ((g75 1100007)) (la_stepBehind_266 h1907_)
      have e2267_ : g75 1100007 (g93 1100023 (g93 1100023 (g93 1046 0))) = g75 1100007 (g93 1100023 (g93 1046 0)) := congrArg ((g75 1100007)) e2202_
      have e2268_ : g75 1100007 (g93 1100025 (g93 1046 0)) = g75 1100007 (g85 1100023 (g85 1100023 (g85 1046 0))) := congrArg ((g75 1100007)) (la_stepBehind_266 h1907_)
      have e2269_ : g75 1100007 (g93 1100025 (g93 1046 0)) = g75 1100007 (g93 1100023 (g93 1100023 (g93 1046 0))) := congrArg ((g75 1100007)) (la_stepBehind_266 h1907_)
      have e2270_ : g75 1100023 (g100 1100023 (g100 1046 0)) = g75 1100023 (g100 1046 0) := congrArg ((g75 1100023)) (la_stepBehind_266 h1907_)
      have e2271_ : g75 1100023 (g75 1046 0) = g75 1100023 (g100 1100023 (g100 1046 0)) := congrArg ((g75 1100023)) (la_stepBehind_266 h1907_)
      have e2272_ : g75 1100023 (g85 1046 0) = g75 1100023 (g100 1100023 (g100 1046 0)) := congrArg ((g75 1100023)) (la_stepBehind_266 h1907_)
      have e2273_ : g75 1100023 (g85 1100023 (g85 1046 0)) = g75 1100023 (g100 1046 0) := congrArg ((g75 1100023)) (la_stepBehind_266 h1907_)
      have e2274_ : g75 1100023 (g85 1100023 (g85 1046 0)) = g75 1100023 (g100 1100023 (g100 1046 0)) := congrArg ((g75 1100023)) (la_stepBehind_266 h1907_)
      have e2275_ : g75 1100023 (g85 1100023 (g85 1046 0)) = g75 1100023 (g75 1046 0) := congrArg ((g75 1100023)) (la_stepBehind_266 h1907_)
      have e2276_ : g75 1100023 (g85 1100023 (g85 1046 0)) = g75 1100023 (g85 1046 0) := congrArg ((g75 1100023)) (la_stepBehind_266 h1907_)
      have e2277_ : g75 1100023 (g93 1046 0) = g75 1100023 (g100 1100023 (g100 1046 0)) := congrArg ((g75 1100023)) (la_stepBehind_266 h1907_)
      have e2278_ : g75 1100023 (g93 1046 0) = g75 1100023 (g85 1100023 (g85 1046 0)) := congrArg ((g75 1100023)) (la_stepBehind_266 h1907_)
      have e2279_ : g75 1100023 (g93 1100023 (g93 1046 0)) = g75 1100023 (g100 1046 0) := congrArg ((g75 1100023)) (la_stepBehind_266 h1907_)
      have e2280_ : g75 1100023 (g93 1100023 (g93 1046 0)) = g75 1100023 (g100 1100023 (g100 1046 0)) := congrArg ((g75 1100023)) (la_stepBehind_266 h1907_)
      have e2281_ : g75 1100023 (g93 1100023 (g93 1046 0)) = g75 1100023 (g75 1046 0) := congrArg ((g75 1100023)) (la_stepBehind_266 h1907_)
      have e2282_ : g75 1100023 (g93 1100023 (g93 1046 0)) = g75 1100023 (g85 1046 0) := congrArg ((g75 1100023)) (la_stepBehind_266 h1907_)
      have e2283_ : g75 1100023 (g93 1100023 (g93 1046 0)) = g75 1100023 (g85 1100023 (g85 1046 0)) := congrArg ((g75 1100023)) (la_stepBehind_266 h1907_)
      have e2284_ : g75 1100023 (g93 1100023 (g93 1046 0)) = g75 1100023 (g93 1046 0) := congrArg ((g75 1100023)) (la_stepBehind_266 h1907_)
      have e2285_ : g75 1100025 (g100 1100025 (g100 1046 0)) = g75 1100025 (g100 1046 0) := congrArg ((g75 1100025)) (la_stepBehind_266 h1907_)
      have e2286_ : g75 1100025 (g75 1046 0) = g75 1100025 (g100 1100025 (g100 1046 0)) := congrArg ((g75 1100025)) (la_stepBehind_266 h1907_)
      have e2287_ : g75 1100025 (g85 1046 0) = g75 1100025 (g100 1100025 (g100 1046 0)) := congrArg ((g75 1100025)) (la_stepBehind_266 h1907_)
      have e2288_ : g75 1100025 (g85 1100025 (g85 1046 0)) = g75 1100025 (g100 1046 0) := congrArg ((g75 1100025)) (la_stepBehind_266 h1907_)
      have e2289_ : g75 1100025 (g85 1100025 (g85 1046 0)) = g75 1100025 (g100 1100025 (g100 1046 0)) := congrArg ((g75 1100025)) (la_stepBehind_266 h1907_)
      have e2290_ : g75 1100025 (g85 1100025 (g85 1046 0)) = g75 1100025 (g75 1046 0) := congrArg ((g75 1100025)) (la_stepBehind_266 h1907_)
      have e2291_ : g75 1100025 (g85 1100025 (g85 1046 0)) = g75 1100025 (g85 1046 0) := congrArg ((g75 1100025)) (la_stepBehind_266 h1907_)
      have e2292_ : g75 1100025 (g93 1046 0) = g75 1100025 (g100 1100025 (g100 1046 0)) := congrArg ((g75 1100025)) (la_stepBehind_266 h1907_)
      have e2293_ : g75 1100025 (g93 1046 0) = g75 1100025 (g85 1100025 (g85 1046 0)) := congrArg ((g75 1100025)) (la_stepBehind_266 h1907_)
      have e2294_ : g75 1100025 (g93 1100025 (g93 1046 0)) = g75 1100025 (g100 1046 0) := congrArg ((g75 1100025)) (la_stepBehind_266 h1907_)
      have e2295_ : g75 1100025 (g93 1100025 (g93 1046 0)) = g75 1100025 (g100 1100025 (g100 1046 0)) := congrArg ((g75 1100025)) (la_stepBehind_266 h1907_)
      have e2296_ : g75 1100025 (g93 1100025 (g93 1046 0)) = g75 1100025 (g75 1046 0) := congrArg ((g75 1100025)) (la_stepBehind_266 h1907_)
      have e2297_ : g75 1100025 (g93 1100025 (g93 1046 0)) = g75 1100025 (g85 1046 0) := congrArg ((g75 1100025)) (la_stepBehind_266 h1907_)
      have e2298_ : g75 1100025 (g93 1100025 (g93 1046 0)) = g75 1100025 (g85 1100025 (g85 1046 0)) := congrArg ((g75 1100025)) (la_stepBehind_266 h1907_)
      have e2299_ : g75 1100025 (g93 1100025 (g93 1046 0)) = g75 1100025 (g93 1046 0) := congrArg ((g75 1100025)) (la_stepBehind_266 h1907_)
      have e2300_ : g85 1100007 (g93 1100023 (g93 1100023 (g93 1046 0))) = g85 1100007 (g100 1046 0) := congrArg ((g85 1100007)) (la_stepBehind_266 h1907_)
      have e2301_ : g85 1100007 (g93 1100023 (g93 1100023 (g93 1046 0))) = g85 1100007 (g100 1100023 (g100 1046 0)) := congrArg ((g85 1100007)) (la_stepBehind_266 h1907_)
      have e2302_ : g85 1100007 (g93 1100023 (g93 1100023 (g93 1046 0))) = g85 1100007 (g100 1100025 (g100 1046 0)) := congrArg ((g85 1100007)) (la_stepBehind_266 h1907_)
      have e2303_ : g85 1100007 (g93 1100023 (g93 1100023 (g93 1046 0))) = g85 1100007 (g85 1046 0) := congrArg ((g85 1100007)) (la_stepBehind_266 h1907_)
      have e2304_ : g85 1100007 (g93 1100023 (g93 1100023 (g93 1046 0))) = g85 1100007 (g85 1100023 (g85 1046 0)) := congrArg ((g85 1100007)) (la_stepBehind_266 h1907_)
      have e2305_ : g85 1100007 (g93 1100023 (g93 1100023 (g93 1046 0))) = g85 1100007 (g85 1100023 (g85 1100023 (g85 1046 0))) := congrArg ((g85 1100007)) (la_stepBehind_266 h1907_)
      have e2306_ : g85 1100007 (g93 1100023 (g93 1100023 (g93 1046 0))) = g85 1100007 (g85 1100025 (g85 1046 0)) := congrArg ((g85 1100007)) (la_stepBehind_266 h1907_)
      have e2307_ : g85 1100007 (g93 1100023 (g93 1100023 (g93 1046 0))) = g85 1100007 (g93 1046 0) := congrArg ((g85 1100007)) (la_stepBehind_266 h1907_)
      have e2308_ : g85 1100007 (g93 1100023 (g93 1100023 (g93 1046 0))) = g85 1100007 (g93 1100023 (g93 1046 0)) := congrArg ((g85 1100007)) e2202_
      have e2309_ : g85 1100007 (g93 1100025 (g93 1046 0)) = g85 1100007 (g93 1100023 (g93 1100023 (g93 1046 0))) := congrArg ((g85 1100007)) (la_stepBehind_266 h1907_)
      have e2310_ : g85 1100023 (g100 1100023 (g100 1046 0)) = g85 1100023 (g100 1046 0) := congrArg ((g85 1100023)) (la_stepBehind_266 h1907_)
      have e2311_ : g85 1100023 (g85 1046 0) = g85 1100023 (g100 1100023 (g100 1046 0)) := congrArg ((g85 1100023)) (la_stepBehind_266 h1907_)
      have e2312_ : g85 1100023 (g85 1100023 (g85 1046 0)) = g85 1100023 (g100 1100023 (g100 1046 0)) := congrArg ((g85 1100023)) (la_stepBehind_266 h1907_)
      have e2313_ : g85 1100023 (g93 1046 0) = g85 1100023 (g100 1100023 (g100 1046 0)) := congrArg ((g85 1100023)) (la_stepBehind_266 h1907_)
      have e2314_ : g85 1100023 (g93 1100023 (g93 1046 0)) = g85 1100023 (g100 1046 0) := congrArg ((g85 1100023)) (la_stepBehind_266 h1907_)
      have e2315_ : g85 1100023 (g93 1100023 (g93 1046 0)) = g85 1100023 (g100 1100023 (g100 1046 0)) := congrArg ((g85 1100023)) (la_stepBehind_266 h1907_)
      have e2316_ : g85 1100023 (g93 1100023 (g93 1046 0)) = g85 1100023 (g85 1046 0) := congrArg ((g85 1100023)) (la_stepBehind_266 h1907_)
      have e2317_ : g85 1100023 (g93 1100023 (g93 1046 0)) = g85 1100023 (g85 1100023 (g85 1046 0)) := congrArg ((g85 1100023)) (la_stepBehind_266 h1907_)
      have e2318_ : g85 1100023 (g93 1100023 (g93 1046 0)) = g85 1100023 (g93 1046 0) := congrArg ((g85 1100023)) (la_stepBehind_266 h1907_)
      have e2319_ : g85 1100025 (g100 1100025 (g100 1046 0)) = g85 1100025 (g100 1046 0) := congrArg ((g85 1100025)) (la_stepBehind_266 h1907_)
      have e2320_ : g85 1100025 (g85 1046 0) = g85 1100025 (g100 1100025 (g100 1046 0)) := congrArg ((g85 1100025)) (la_stepBehind_266 h1907_)
      have e2321_ : g85 1100025 (g85 1100025 (g85 1046 0)) = g85 1100025 (g100 1100025 (g100 1046 0)) := congrArg ((g85 1100025)) (la_stepBehind_266 h1907_)
      have e2322_ : g85 1100025 (g93 1046 0) = g85 1100025 (g100 1100025 (g100 1046 0)) := congrArg ((g85 1100025)) (la_stepBehind_266 h1907_)
      have e2323_ : g85 1100025 (g93 1100025 (g93 1046 0)) = g85 1100025 (g100 1046 0) := congrArg ((g85 1100025)) (la_stepBehind_266 h1907_)
      have e2324_ : g85 1100025 (g93 1100025 (g93 1046 0)) = g85 1100025 (g100 1100025 (g100 1046 0)) := congrArg ((g85 1100025)) (la_stepBehind_266 h1907_)
      have e2325_ : g85 1100025 (g93 1100025 (g93 1046 0)) = g85 1100025 (g85 1046 0) := congrArg ((g85 1100025)) (la_stepBehind_266 h1907_)
      have e2326_ : g85 1100025 (g93 1100025 (g93 1046 0)) = g85 1100025 (g85 1100025 (g85 1046 0)) := congrArg ((g85 1100025)) (la_stepBehind_266 h1907_)
      have e2327_ : g85 1100025 (g93 1100025 (g93 1046 0)) = g85 1100025 (g93 1046 0) := congrArg ((g85 1100025)) (la_stepBehind_266 h1907_)
      have e2328_ : g93 1100023 (g100 1100023 (g100 1046 0)) = g93 1100023 (g100 1046 0) := congrArg ((g93 1100023)) (la_stepBehind_266 h1907_)
      have e2329_ : g93 1100023 (g93 1046 0) = g93 1100023 (g100 1100023 (g100 1046 0)) := congrArg ((g93 1100023)) (la_stepBehind_266 h1907_)
      have e2330_ : g93 1100023 (g93 1100023 (g93 1046 0)) = g93 1100023 (g100 1100023 (g100 1046 0)) := congrArg ((g93 1100023)) (la_stepBehind_266 h1907_)
      have e2331_ : g93 1100025 (g100 1100025 (g100 1046 0)) = g93 1100025 (g100 1046 0) := congrArg ((g93 1100025)) (la_stepBehind_266 h1907_)
      have e2332_ : g93 1100025 (g93 1046 0) = g93 1100025 (g100 1100025 (g100 1046 0)) := congrArg ((g93 1100025)) (la_stepBehind_266 h1907_)
      have e2333_ : g93 1100025 (g93 1100025 (g93 1046 0)) = g93 1100025 (g100 1100025 (g100 1046 0)) := congrArg ((g93 1100025)) (la_stepBehind_266 h1907_)
      have e2334_ : S 1100023 (g100 1100023 (g100 1046 0)) = S 1100023 (S 1046 0) := congrArg ((S 1100023)) (la_stepBehind_266 h1907_)
      have e2335_ : S 1100023 (g100 1100023 (g100 1046 0)) = S 1100023 (g100 1046 0) := congrArg ((S 1100023)) (la_stepBehind_266 h1907_)
      have e2336_ : S 1100023 (g75 1046 0) = S 1100023 (g100 1100023 (g100 1046 0)) := congrArg ((S 1100023)) (la_stepBehind_266 h1907_)
      have e2337_ : S 1100023 (g85 1046 0) = S 1100023 (g100 1100023 (g100 1046 0)) := congrArg ((S 1100023)) (la_stepBehind_266 h1907_)
      have e2338_ : S 1100023 (g85 1100023 (g85 1046 0)) = S 1100023 (g100 1100023 (g100 1046 0)) := congrArg ((S 1100023)) (la_stepBehind_266 h1907_)
      have e2339_ : S 1100023 (g93 1046 0) = S 1100023 (g100 1100023 (g100 1046 0)) := congrArg ((S 1100023)) (la_stepBehind_266 h1907_)
      have e2340_ : S 1100023 (g93 1100023 (g93 1046 0)) = S 1100023 (g100 1100023 (g100 1046 0)) := congrArg ((S 1100023)) (la_stepBehind_266 h1907_)
      have e2341_ : S 1100025 (g100 1100025 (g100 1046 0)) = S 1100025 (S 1046 0) := congrArg ((S 1100025)) (la_stepBehind_266 h1907_)
      have e2342_ : S 1100025 (g100 1100025 (g100 1046 0)) = S 1100025 (g100 1046 0) := congrArg ((S 1100025)) (la_stepBehind_266 h1907_)
      have e2343_ : S 1100025 (g75 1046 0) = S 1100025 (g100 1100025 (g100 1046 0)) := congrArg ((S 1100025)) (la_stepBehind_266 h1907_)
      have e2344_ : S 1100025 (g85 1046 0) = S 1100025 (g100 1100025 (g100 1046 0)) := congrArg ((S 1100025)) (la_stepBehind_266 h1907_)
      have e2345_ : S 1100025 (g85 1100025 (g85 1046 0)) = S 1100025 (g100 1100025 (g100 1046 0)) := congrArg ((S 1100025)) (la_stepBehind_266 h1907_)
      have e2346_ : S 1100025 (g93 1046 0) = S 1100025 (g100 1100025 (g100 1046 0)) := congrArg ((S 1100025)) (la_stepBehind_266 h1907_)
      have e2347_ : S 1100025 (g93 1100025 (g93 1046 0)) = S 1100025 (g100 1100025 (g100 1046 0)) := congrArg ((S 1100025)) (la_stepBehind_266 h1907_)
      exact ((la_stepBehind_272 h1907_)).elim
    intro g107
    rintro ⟨h2348_, ⟨h2349_, ⟨h2350_, ⟨h2351_, ⟨h2352_, ⟨h2353_, ⟨h2354_, ⟨h2355_, ⟨h2356_, ⟨h2357_, ⟨h2358_, ⟨h2359_, ⟨h2360_, ⟨h2361_, ⟨h2362_, ⟨h2363_, h2364_⟩⟩⟩⟩⟩⟩⟩⟩⟩⟩⟩⟩⟩⟩⟩⟩
    refine ⟨?_, ?_⟩
    · skip
      refine ⟨(la_stepBehind_21 h2350_), ?_⟩
      refine ⟨h2353_, ?_⟩
      refine ⟨h2348_, ?_⟩
      refine ⟨h2349_, ?_⟩
      intro h2365_
      have h2366_ : ¬ (g100 1047 0 = 1) := fun q_ => (la_stepBehind_3 h2365_) (h2354_ q_)
      obtain ⟨h2367_, ⟨h2368_, ⟨h2369_, ⟨h2370_, ⟨h2371_, ⟨h2372_, ⟨h2373_, ⟨h2374_, ⟨h2375_, ⟨h2376_, ⟨h2377_, ⟨h2378_, ⟨h2379_, h2380_⟩⟩⟩⟩⟩⟩⟩⟩⟩⟩⟩⟩⟩ := (h2364_ h2365_)
      have h2381_ : ¬ (g93 1047 0 = 1) := fun q_ => h2366_ (h1826_ q_)
      have h2382_ := (h2380_ la_stepBehind_273)
      obtain ⟨h2383_, ⟨h2384_, ⟨h2385_, ⟨h2386_, ⟨h2387_, ⟨h2388_, ⟨h2389_, ⟨h2390_, ⟨h2391_, ⟨h2392_, ⟨h2393_, ⟨h2394_, ⟨h2395_, h2396_⟩⟩⟩⟩⟩⟩⟩⟩⟩⟩⟩⟩⟩ := (h1836_ h2367_)
      have h2397_ : ¬ (g85 1047 0 = 1) := fun q_ => h2381_ (h1500_ q_)
      have h2398_ := (h2382_ la_stepBehind_275)
      have h2399_ := (h2396_ la_stepBehind_250)
      obtain ⟨h2400_, ⟨h2401_, ⟨h2402_, ⟨h2403_, ⟨h2404_, ⟨h2405_, ⟨h2406_, ⟨h2407_, ⟨h2408_, ⟨h2409_, ⟨h2410_, ⟨h2411_, ⟨h2412_, h2413_⟩⟩⟩⟩⟩⟩⟩⟩⟩⟩⟩⟩⟩ := (h1510_ h2383_)
      have h2414_ : ¬ (g75 1047 0 = 1) := fun q_ => h2397_ (h1324_ q_)
      have h2415_ := (h2399_ la_stepBehind_252)
      have h2416_ := (h2413_ la_stepBehind_227)
      obtain ⟨h2417_, ⟨h2418_, ⟨h2419_, ⟨h2420_, ⟨h2421_, ⟨h2422_, ⟨h2423_, ⟨h2424_, ⟨h2425_, ⟨h2426_, ⟨h2427_, ⟨h2428_, ⟨h2429_, ⟨h2430_, ⟨h2431_, ⟨h2432_, -⟩⟩⟩⟩⟩⟩⟩⟩⟩⟩⟩⟩⟩⟩⟩⟩ := (h1344_ h2400_)
      have h2433_ := (h1343_ h2417_)
      have h2434_ := (h2416_ la_stepBehind_229)
      obtain ⟨h2435_, ⟨h2436_, ⟨h2437_, ⟨h2438_, ⟨h2439_, ⟨h2440_, ⟨h2441_, ⟨h2442_, ⟨h2443_, ⟨h2444_, ⟨h2445_, ⟨h2446_, ⟨h2447_, ⟨h2448_, ⟨h2449_, ⟨h2450_, -⟩⟩⟩⟩⟩⟩⟩⟩⟩⟩⟩⟩⟩⟩⟩⟩ := (h1185_ h2417_)
      refine ⟨h2369_, ?_⟩
      refine ⟨la_stepBehind_276, ?_⟩
      refine ⟨la_stepBehind_277, ?_⟩
      refine ⟨(sm_ci_20 (la_stepBehind_278 (sm_KC_n h29_).2.1.1 h33_ h34_ h2373_ (sm_dl_13 : sm_dl 13 0 = 0) h2374_ (sm_nt_13 : sm_nt 13 (g100 1046 0) (g100 1100023 (g100 1046 0)) (g100 1100023 (g100 1100023 (g100 1046 0))) = g100 1100023 (g100 1046 0)) h2376_ (sm_nl_13 : sm_nl 13 (g100 1046 0) (g100 1100007 (g100 1046 0)) (g100 1100025 (g100 1046 0)) (g100 1100007 (g100 1100025 (g100 1046 0))) (g100 1100025 (g100 1100025 (g100 1046 0))) = g100 1100025 (g100 1046 0)) h2377_ (sm_nt_13 : sm_nt 13 (g100 1100007 (g100 1046 0)) (g100 1100007 (g100 1100023 (g100 1046 0))) (g100 1100007 (g100 1100023 (g100 1100023 (g100 1046 0)))) = g100 1100007 (g100 1100023 (g100 1046 0))) h2389_ (sm_dl_10 : sm_dl 10 0 = (-1)) h2390_ (sm_nt_10 : sm_nt 10 (g93 1046 0) (g93 1100023 (g93 1046 0)) (g93 1100023 (g93 1100023 (g93 1046 0))) = g93 1100023 (g93 1046 0)) h2392_ (sm_nl_10 : sm_nl 10 (g93 1046 0) (g93 1100007 (g93 1046 0)) (g93 1100025 (g93 1046 0)) (g93 1100007 (g93 1100025 (g93 1046 0))) (g93 1100025 (g93 1100025 (g93 1046 0))) = g93 1100025 (g93 1046 0)) h2393_ (sm_nt_10 : sm_nt 10 (g93 1100007 (g93 1046 0)) (g93 1100007 (g93 1100023 (g93 1046 0))) (g93 1100007 (g93 1100023 (g93 1100023 (g93 1046 0)))) = g93 1100007 (g93 1100023 (g93 1046 0))) h2398_ h2406_ (sm_dl_19 : sm_dl 19 0 = 2) h2407_ (sm_nt_19 : sm_nt 19 (g85 1046 0) (g85 1100023 (g85 1046 0)) (g85 1100023 (g85 1100023 (g85 1046 0))) = g85 1100023 (g85 1046 0)) h2409_ (sm_nl_19 : sm_nl 19 (g85 1046 0) (g85 1100007 (g85 1046 0)) (g85 1100025 (g85 1046 0)) (g85 1100007 (g85 1100025 (g85 1046 0))) (g85 1100025 (g85 1100025 (g85 1046 0))) = g85 1100025 (g85 1046 0)) h2410_ (sm_nt_19 : sm_nt 19 (g85 1100007 (g85 1046 0)) (g85 1100007 (g85 1100023 (g85 1046 0))) (g85 1100007 (g85 1100023 (g85 1100023 (g85 1046 0)))) = g85 1100007 (g85 1100023 (g85 1046 0))) h2415_ h2424_ h2425_ h2427_ h2428_ h2429_ h2434_ h2442_ h2443_ h2445_ h2446_ h2447_ (sm_dl_20 : sm_dl 20 0 = 1) (sm_nt_20 : sm_nt 20 (g107 1046 0) (g107 1100023 (g107 1046 0)) (g107 1100023 (g107 1100023 (g107 1046 0))) = g107 1100023 (g107 1046 0)) (sm_nl_20 : sm_nl 20 (g107 1046 0) (g107 1100007 (g107 1046 0)) (g107 1100025 (g107 1046 0)) (g107 1100007 (g107 1100025 (g107 1046 0))) (g107 1100025 (g107 1100025 (g107 1046 0))) = g107 1100025 (g107 1046 0)))), ?_⟩
      refine ⟨la_stepBehind_279, ?_⟩
      intro h2451_
      have h2452_ := (h2451_.resolve_left la_stepBehind_280)
      have h2453_ := (h59_ (sm_nm_i (la_stepBehind_281 h2452_) (la_stepBehind_282 h2452_) (la_stepBehind_283 h2452_)))
      have h2454_ := (h1126_ (la_stepBehind_284 h2452_))
      have h2455_ := (h1137_ (la_stepBehind_284 h2452_))
      obtain ⟨h2456_, h2457_⟩ := (h2453_ h5_)
      have h2458_ := (h33_ (la_stepBehind_287 h2452_))
      have h2459_ := (h34_ (la_stepBehind_287 h2452_))
      have h2460_ := (h1127_ (la_stepBehind_288 h2452_))
      have h2461_ := (h1138_ (la_stepBehind_288 h2452_))
      have e2462_ : S 1100001 (S 12 (5 * p2 + 1)) = S 1100001 (S 12 (5 * p2)) := congrArg ((S 1100001)) (la_stepBehind_289 h2452_)
      have e2463_ : S 1100001 p2 = S 1100001 (S 12 (5 * p2)) := congrArg ((S 1100001)) (la_stepBehind_289 h2452_)
      have e2464_ : S 1100001 p2 = S 1100001 (S 12 (5 * p2 + 1)) := congrArg ((S 1100001)) (la_stepBehind_289 h2452_)
      have e2465_ : S 1100002 (S 12 (5 * p2 + 0)) = S 1100002 (S 12 (5 * p2)) := congrArg ((S 1100002)) (la_stepBehind_289 h2452_)
      have e2466_ : S 1100002 (S 12 (5 * p2 + 1)) = S 1100002 (S 12 (5 * p2)) := congrArg ((S 1100002)) (la_stepBehind_289 h2452_)
      have e2467_ : S 1100002 (S 12 (5 * p2 + 1)) = S 1100002 (S 12 (5 * p2 + 0)) := congrArg ((S 1100002)) (la_stepBehind_289 h2452_)
      have e2468_ : S 1100002 p2 = S 1100002 (S 12 (5 * p2)) := congrArg ((S 1100002)) (la_stepBehind_289 h2452_)
      have e2469_ : S 1100002 p2 = S 1100002 (S 12 (5 * p2 + 0)) := congrArg ((S 1100002)) (la_stepBehind_289 h2452_)
      have e2470_ : S 1100002 p2 = S 1100002 (S 12 (5 * p2 + 1)) := congrArg ((S 1100002)) (la_stepBehind_289 h2452_)
      have e2471_ : S 1100005 (S 12 (5 * p2 + 0)) = S 1100005 (S 12 (5 * p2)) := congrArg ((S 1100005)) (la_stepBehind_289 h2452_)
      have e2472_ : S 1100005 (S 12 (5 * p2 + 1)) = S 1100005 (S 12 (5 * p2)) := congrArg ((S 1100005)) (la_stepBehind_289 h2452_)
      have e2473_ : S 1100005 (S 12 (5 * p2 + 1)) = S 1100005 (S 12 (5 * p2 + 0)) := congrArg ((S 1100005)) (la_stepBehind_289 h2452_)
      have e2474_ : S 1100005 p2 = S 1100005 (S 12 (5 * p2)) := congrArg ((S 1100005)) (la_stepBehind_289 h2452_)
      have e2475_ : S 1100005 p2 = S 1100005 (S 12 (5 * p2 + 0)) := congrArg ((S 1100005)) (la_stepBehind_289 h2452_)
      have e2476_ : S 1100005 p2 = S 1100005 (S 12 (5 * p2 + 1)) := congrArg ((S 1100005)) (la_stepBehind_289 h2452_)
      have e2477_ : S 1100007 (S 1100023 (S 1046 0)) = S 1100007 (S 1046 0) := congrArg ((S 1100007)) (la_stepBehind_289 h2452_)
      have e2478_ : S 1100007 (S 1100025 (S 1046 0)) = S 1100007 (S 1046 0) := congrArg ((S 1100007)) (la_stepBehind_289 h2452_)
      have e2479_ : S 1100007 (S 1100025 (S 1046 0)) = S 1100007 (S 1100023 (S 1046 0)) := congrArg ((S 1100007)) (la_stepBehind_289 h2452_)
      have e2480_ : S 1100007 (g75 1046 0) = S 1100007 (S 1046 0) := congrArg ((S 1100007)) (la_stepBehind_289 h2452_)
      have e2481_ : S 1100007 (g75 1046 0) = S 1100007 (S 1100023 (S 1046 0)) := congrArg ((S 1100007)) (la_stepBehind_289 h2452_)
      have e2482_ : S 1100007 (g75 1046 0) = S 1100007 (S 1100025 (S 1046 0)) := congrArg ((S 1100007)) (la_stepBehind_289 h2452_)
      have e2483_ : S 1100007 (g75 1100023 (g75 1046 0)) = S 1100007 (S 1046 0) := congrArg ((S 1100007)) (la_stepBehind_289 h2452_)
      have e2484_ : S 1100007 (g75 1100023 (g75 1046 0)) = S 1100007 (S 1100023 (S 1046 0)) := congrArg ((S 1100007)) h2443_
      have e2485_ : S 1100007 (g75 1100023 (g75 1046 0)) = S 1100007 (S 1100025 (S 1046 0)) := congrArg ((S 1100007)) (la_stepBehind_289 h2452_)
      have e2486_ : S 1100007 (g75 1100023 (g75 1046 0)) = S 1100007 (g75 1046 0) := congrArg ((S 1100007)) (la_stepBehind_289 h2452_)
      have e2487_ : S 1100007 (g75 1100025 (g75 1046 0)) = S 1100007 (S 1046 0) := congrArg ((S 1100007)) (la_stepBehind_289 h2452_)
      have e2488_ : S 1100007 (g75 1100025 (g75 1046 0)) = S 1100007 (S 1100023 (S 1046 0)) := congrArg ((S 1100007)) (la_stepBehind_289 h2452_)
      have e2489_ : S 1100007 (g75 1100025 (g75 1046 0)) = S 1100007 (S 1100025 (S 1046 0)) := congrArg ((S 1100007)) h2445_
      have e2490_ : S 1100007 (g75 1100025 (g75 1046 0)) = S 1100007 (g75 1046 0) := congrArg ((S 1100007)) (la_stepBehind_289 h2452_)
      have e2491_ : S 1100007 (g75 1100025 (g75 1046 0)) = S 1100007 (g75 1100023 (g75 1046 0)) := congrArg ((S 1100007)) (la_stepBehind_289 h2452_)
      have e2492_ : S 1100007 (g85 1046 0) = S 1100007 (S 1046 0) := congrArg ((S 1100007)) (la_stepBehind_289 h2452_)
      have e2493_ : S 1100007 (g85 1046 0) = S 1100007 (S 1100023 (S 1046 0)) := congrArg ((S 1100007)) (la_stepBehind_289 h2452_)
      have e2494_ : S 1100007 (g85 1046 0) = S 1100007 (S 1100025 (S 1046 0)) := congrArg ((S 1100007)) (la_stepBehind_289 h2452_)
      have e2495_ : S 1100007 (g85 1046 0) = S 1100007 (g75 1046 0) := congrArg ((S 1100007)) (la_stepBehind_289 h2452_)
      have e2496_ : S 1100007 (g85 1046 0) = S 1100007 (g75 1100023 (g75 1046 0)) := congrArg ((S 1100007)) (la_stepBehind_289 h2452_)
      have e2497_ : S 1100007 (g85 1046 0) = S 1100007 (g75 1100025 (g75 1046 0)) := congrArg ((S 1100007)) (la_stepBehind_289 h2452_)
      have e2498_ : S 1100007 (g85 1100023 (g85 1046 0)) = S 1100007 (S 1046 0) := congrArg ((S 1100007)) (la_stepBehind_289 h2452_)
      have e2499_ : S 1100007 (g85 1100023 (g85 1046 0)) = S 1100007 (S 1100023 (S 1046 0)) := congrArg ((S 1100007)) (la_stepBehind_289 h2452_)
      have e2500_ : S 1100007 (g85 1100023 (g85 1046 0)) = S 1100007 (S 1100025 (S 1046 0)) := congrArg ((S 1100007)) (la_stepBehind_289 h2452_)
      have e2501_ : S 1100007 (g85 1100023 (g85 1046 0)) = S 1100007 (g75 1046 0) := congrArg ((S 1100007)) (la_stepBehind_289 h2452_)
      have e2502_ : S 1100007 (g85 1100023 (g85 1046 0)) = S 1100007 (g75 1100023 (g75 1046 0)) := congrArg ((S 1100007)) h2425_
      have e2503_ : S 1100007 (g85 1100023 (g85 1046 0)) = S 1100007 (g75 1100025 (g75 1046 0)) := congrArg ((S 1100007)) (la_stepBehind_289 h2452_)
      have e2504_ : S 1100007 (g85 1100023 (g85 1046 0)) = S 1100007 (g85 1046 0) := congrArg ((S 1100007)) (la_stepBehind_289 h2452_)
      have e2505_ : S 1100007 (g85 1100025 (g85 1046 0)) = S 1100007 (S 1046 0) := congrArg ((S 1100007)) (la_stepBehind_289 h2452_)
      have e2506_ : S 1100007 (g85 1100025 (g85 1046 0)) = S 1100007 (S 1100023 (S 1046 0)) := congrArg ((S 1100007)) (la_stepBehind_289 h2452_)
      have e2507_ : S 1100007 (g85 1100025 (g85 1046 0)) = S 1100007 (S 1100025 (S 1046 0)) := congrArg ((S 1100007)) (la_stepBehind_289 h2452_)
      have e2508_ : S 1100007 (g85 1100025 (g85 1046 0)) = S 1100007 (g75 1046 0) := congrArg ((S 1100007)) (la_stepBehind_289 h2452_)
      have e2509_ : S 1100007 (g85 1100025 (g85 1046 0)) = S 1100007 (g75 1100023 (g75 1046 0)) := congrArg ((S 1100007)) (la_stepBehind_289 h2452_)
      have e2510_ : S 1100007 (g85 1100025 (g85 1046 0)) = S 1100007 (g75 1100025 (g75 1046 0)) := congrArg ((S 1100007)) h2427_
      have e2511_ : S 1100007 (g85 1100025 (g85 1046 0)) = S 1100007 (g85 1046 0) := congrArg ((S 1100007)) (la_stepBehind_289 h2452_)
      have e2512_ : S 1100007 (g85 1100025 (g85 1046 0)) = S 1100007 (g85 1100023 (g85 1046 0)) := congrArg ((S 1100007)) (la_stepBehind_289 h2452_)
      have e2513_ : S 1100007 (g93 1046 0) = S 1100007 (S 1046 0) := congrArg ((S 1100007)) (la_stepBehind_289 h2452_)
      have e2514_ : S 1100007 (g93 1046 0) = S 1100007 (S 1100023 (S 1046 0)) := congrArg ((S 1100007)) (la_stepBehind_289 h2452_)
      have e2515_ : S 1100007 (g93 1046 0) = S 1100007 (S 1100025 (S 1046 0)) := congrArg ((S 1100007)) (la_stepBehind_289 h2452_)
      have e2516_ : S 1100007 (g93 1046 0) = S 1100007 (g75 1046 0) := congrArg ((S 1100007)) (la_stepBehind_289 h2452_)
      have e2517_ : S 1100007 (g93 1046 0) = S 1100007 (g75 1100023 (g75 1046 0)) := congrArg ((S 1100007)) (la_stepBehind_289 h2452_)
      have e2518_ : S 1100007 (g93 1046 0) = S 1100007 (g75 1100025 (g75 1046 0)) := congrArg ((S 1100007)) (la_stepBehind_289 h2452_)
      have e2519_ : S 1100007 (g93 1046 0) = S 1100007 (g85 1046 0) := congrArg ((S 1100007)) (la_stepBehind_289 h2452_)
      have e2520_ : S 1100007 (g93 1046 0) = S 1100007 (g85 1100023 (g85 1046 0)) := congrArg ((S 1100007)) (la_stepBehind_289 h2452_)
      have e2521_ : S 1100007 (g93 1046 0) = S 1100007 (g85 1100025 (g85 1046 0)) := congrArg ((S 1100007)) (la_stepBehind_289 h2452_)
      have e2522_ : S 1100007 (g93 1100023 (g93 1046 0)) = S 1100007 (S 1046 0) := congrArg ((S 1100007)) (la_stepBehind_289 h2452_)
      have e2523_ : S 1100007 (g93 1100023 (g93 1046 0)) = S 1100007 (S 1100023 (S 1046 0)) := congrArg ((S 1100007)) (la_stepBehind_289 h2452_)
      have e2524_ : S 1100007 (g93 1100023 (g93 1046 0)) = S 1100007 (S 1100025 (S 1046 0)) := congrArg ((S 1100007)) (la_stepBehind_289 h2452_)
      have e2525_ : S 1100007 (g93 1100023 (g93 1046 0)) = S 1100007 (g75 1046 0) := congrArg ((S 1100007)) (la_stepBehind_289 h2452_)
      have e2526_ : S 1100007 (g93 1100023 (g93 1046 0)) = S 1100007 (g75 1100023 (g75 1046 0)) := congrArg ((S 1100007)) (la_stepBehind_289 h2452_)
      have e2527_ : S 1100007 (g93 1100023 (g93 1046 0)) = S 1100007 (g75 1100025 (g75 1046 0)) := congrArg ((S 1100007)) (la_stepBehind_289 h2452_)
      have e2528_ : S 1100007 (g93 1100023 (g93 1046 0)) = S 1100007 (g85 1046 0) := congrArg ((S 1100007)) (la_stepBehind_289 h2452_)
      have e2529_ : S 1100007 (g93 1100023 (g93 1046 0)) = S 1100007 (g85 1100023 (g85 1046 0)) := congrArg ((S 1100007)) (la_stepBehind_289 h2452_)
      have e2530_ : S 1100007 (g93 1100023 (g93 1046 0)) = S 1100007 (g85 1100025 (g85 1046 0)) := congrArg ((S 1100007)) (la_stepBehind_289 h2452_)
      have e2531_ : S 1100007 (g93 1100023 (g93 1046 0)) = S 1100007 (g93 1046 0) := congrArg ((S 1100007)) (la_stepBehind_289 h2452_)
      have e2532_ : S 1100007 (g93 1100025 (g93 1046 0)) = S 1100007 (S 1046 0) := congrArg ((S 1100007)) (la_stepBehind_289 h2452_)
      have e2533_ : S 1100007 (g93 1100025 (g93 1046 0)) = S 1100007 (S 1100023 (S 1046 0)) := congrArg ((S 1100007)) (la_stepBehind_289 h2452_)
      have e2534_ : S 1100007 (g93 1100025 (g93 1046 0)) = S 1100007 (S 1100025 (S 1046 0)) := congrArg ((S 1100007)) (la_stepBehind_289 h2452_)
      have e2535_ : S 1100007 (g93 1100025 (g93 1046 0)) = S 1100007 (g75 1046 0) := congrArg ((S 1100007)) (la_stepBehind_289 h2452_)
      have e2536_ : S 1100007 (g93 1100025 (g93 1046 0)) = S 1100007 (g75 1100023 (g75 1046 0)) := congrArg ((S 1100007)) (la_stepBehind_289 h2452_)
      have e2537_ : S 1100007 (g93 1100025 (g93 1046 0)) = S 1100007 (g75 1100025 (g75 1046 0)) := congrArg ((S 1100007)) (la_stepBehind_289 h2452_)
      have e2538_ : S 1100007 (g93 1100025 (g93 1046 0)) = S 1100007 (g85 1046 0) := congrArg ((S 1100007)) (la_stepBehind_289 h2452_)
      have e2539_ : S 1100007 (g93 1100025 (g93 1046 0)) = S 1100007 (g85 1100023 (g85 1046 0)) := congrArg ((S 1100007)) (la_stepBehind_289 h2452_)
      have e2540_ : S 1100007 (g93 1100025 (g93 1046 0)) = S 1100007 (g85 1100025 (g85 1046 0)) := congrArg ((S 1100007)) (la_stepBehind_289 h2452_)
      have e2541_ : S 1100007 (g93 1100025 (g93 1046 0)) = S 1100007 (g93 1046 0) := congrArg ((S 1100007)) (la_stepBehind_289 h2452_)
      have e2542_ : S 1100007 (g93 1100025 (g93 1046 0)) = S 1100007 (g93 1100023 (g93 1046 0)) := congrArg ((S 1100007)) (la_stepBehind_289 h2452_)
      have e2543_ : S 1100023 (g75 1046 0) = S 1100023 (S 1046 0) := congrArg ((S 1100023)) (la_stepBehind_289 h2452_)
      have e2544_ : S 1100023 (g85 1046 0) = S 1100023 (S 1046 0) := congrArg ((S 1100023)) (la_stepBehind_289 h2452_)
      have e2545_ : S 1100023 (g85 1046 0) = S 1100023 (g75 1046 0) := congrArg ((S 1100023)) (la_stepBehind_289 h2452_)
      have e2546_ : S 1100023 (g93 1046 0) = S 1100023 (S 1046 0) := congrArg ((S 1100023)) (la_stepBehind_289 h2452_)
      have e2547_ : S 1100023 (g93 1046 0) = S 1100023 (g75 1046 0) := congrArg ((S 1100023)) (la_stepBehind_289 h2452_)
      have e2548_ : S 1100023 (g93 1046 0) = S 1100023 (g85 1046 0) := congrArg ((S 1100023)) (la_stepBehind_289 h2452_)
      have e2549_ : S 1100024 (g75 1046 0) = S 1100024 (S 1046 0) := congrArg ((S 1100024)) (la_stepBehind_289 h2452_)
      have e2550_ : S 1100024 (g85 1046 0) = S 1100024 (S 1046 0) := congrArg ((S 1100024)) (la_stepBehind_289 h2452_)
      have e2551_ : S 1100024 (g85 1046 0) = S 1100024 (g75 1046 0) := congrArg ((S 1100024)) (la_stepBehind_289 h2452_)
      have e2552_ : S 1100024 (g93 1046 0) = S 1100024 (S 1046 0) := congrArg ((S 1100024)) (la_stepBehind_289 h2452_)
      have e2553_ : S 1100024 (g93 1046 0) = S 1100024 (g75 1046 0) := congrArg ((S 1100024)) (la_stepBehind_289 h2452_)
      have e2554_ : S 1100024 (g93 1046 0) = S 1100024 (g85 1046 0) := congrArg ((S 1100024)) (la_stepBehind_289 h2452_)
      have e2555_ : S 1100025 (g75 1046 0) = S 1100025 (S 1046 0) := congrArg ((S 1100025)) (la_stepBehind_289 h2452_)
      have e2556_ : S 1100025 (g85 1046 0) = S 1100025 (S 1046 0) := congrArg ((S 1100025)) (la_stepBehind_289 h2452_)
      have e2557_ : S 1100025 (g85 1046 0) = S 1100025 (g75 1046 0) := congrArg ((S 1100025)) (la_stepBehind_289 h2452_)
      have e2558_ : S 1100025 (g93 1046 0) = S 1100025 (S 1046 0) := congrArg ((S 1100025)) (la_stepBehind_289 h2452_)
      have e2559_ : S 1100025 (g93 1046 0) = S 1100025 (g75 1046 0) := congrArg ((S 1100025)) (la_stepBehind_289 h2452_)
      have e2560_ : S 1100025 (g93 1046 0) = S 1100025 (g85 1046 0) := congrArg ((S 1100025)) (la_stepBehind_289 h2452_)
      have e2561_ : S 12 (5 * S 12 (5 * p2) + 1) = S 12 (5 * p2) := congrArg ((S 12)) (la_stepBehind_290 h2452_)
      have e2562_ : S 12 (5 * S 12 (5 * p2 + 1) + 1) = S 12 (5 * p2) := congrArg ((S 12)) (la_stepBehind_290 h2452_)
      have e2563_ : S 12 (5 * S 12 (5 * p2 + 1) + 1) = S 12 (5 * S 12 (5 * p2) + 1) := congrArg ((S 12)) (la_stepBehind_291 h2452_)
      have e2564_ : S 12 (5 * p2 + 0) = S 12 (5 * p2) := congrArg ((S 12)) la_stepBehind_157
      have e2565_ : S 12 (5 * p2 + 0) = S 12 (5 * S 12 (5 * p2) + 1) := congrArg ((S 12)) (la_stepBehind_292 h2452_)
      have e2566_ : S 12 (5 * p2 + 0) = S 12 (5 * S 12 (5 * p2 + 1) + 1) := congrArg ((S 12)) (la_stepBehind_292 h2452_)
      have e2567_ : S 12 (5 * p2 + 1) = S 12 (5 * p2) := congrArg ((S 12)) (la_stepBehind_293 h2452_)
      have e2568_ : S 12 (5 * p2 + 1) = S 12 (5 * S 12 (5 * p2) + 1) := congrArg ((S 12)) (la_stepBehind_291 h2452_)
      have e2569_ : S 12 (5 * p2 + 1) = S 12 (5 * S 12 (5 * p2 + 1) + 1) := congrArg ((S 12)) (la_stepBehind_291 h2452_)
      have e2570_ : S 12 (5 * p2 + 1) = S 12 (5 * p2 + 0) := congrArg ((S 12)) (la_stepBehind_294 h2452_)
      have e2571_ : g100 1100007 (g100 1100023 (g100 1046 0)) = g100 1100007 (g100 1046 0) := congrArg ((g100 1100007)) (la_stepBehind_289 h2452_)
      have e2572_ : g100 1100007 (g100 1100023 (g100 1100023 (g100 1046 0))) = g100 1100007 (g100 1046 0) := congrArg ((g100 1100007)) (la_stepBehind_289 h2452_)
      have e2573_ : g100 1100007 (g100 1100023 (g100 1100023 (g100 1046 0))) = g100 1100007 (g100 1100023 (g100 1046 0)) := congrArg ((g100 1100007)) (la_stepBehind_289 h2452_)
      have e2574_ : g100 1100007 (g100 1100025 (g100 1046 0)) = g100 1100007 (g100 1046 0) := congrArg ((g100 1100007)) (la_stepBehind_289 h2452_)
      have e2575_ : g100 1100007 (g100 1100025 (g100 1046 0)) = g100 1100007 (g100 1100023 (g100 1046 0)) := congrArg ((g100 1100007)) (la_stepBehind_289 h2452_)
      have e2576_ : g100 1100007 (g100 1100025 (g100 1046 0)) = g100 1100007 (g100 1100023 (g100 1100023 (g100 1046 0))) := congrArg ((g100 1100007)) (la_stepBehind_289 h2452_)
      have e2577_ : g100 1100007 (g107 1046 0) = g100 1100007 (g100 1046 0) := congrArg ((g100 1100007)) (la_stepBehind_289 h2452_)
      have e2578_ : g100 1100007 (g107 1046 0) = g100 1100007 (g100 1100023 (g100 1046 0)) := congrArg ((g100 1100007)) (la_stepBehind_289 h2452_)
      have e2579_ : g100 1100007 (g107 1046 0) = g100 1100007 (g100 1100023 (g100 1100023 (g100 1046 0))) := congrArg ((g100 1100007)) (la_stepBehind_289 h2452_)
      have e2580_ : g100 1100007 (g107 1046 0) = g100 1100007 (g100 1100025 (g100 1046 0)) := congrArg ((g100 1100007)) (la_stepBehind_289 h2452_)
      have e2581_ : g100 1100007 (g107 1100023 (g107 1046 0)) = g100 1100007 (g100 1046 0) := congrArg ((g100 1100007)) (la_stepBehind_289 h2452_)
      have e2582_ : g100 1100007 (g107 1100023 (g107 1046 0)) = g100 1100007 (g100 1100023 (g100 1046 0)) := congrArg ((g100 1100007)) (la_stepBehind_289 h2452_)
      have e2583_ : g100 1100007 (g107 1100023 (g107 1046 0)) = g100 1100007 (g100 1100023 (g100 1100023 (g100 1046 0))) := congrArg ((g100 1100007)) (la_stepBehind_289 h2452_)
      have e2584_ : g100 1100007 (g107 1100023 (g107 1046 0)) = g100 1100007 (g100 1100025 (g100 1046 0)) := congrArg ((g100 1100007)) (la_stepBehind_289 h2452_)
      have e2585_ : g100 1100007 (g107 1100023 (g107 1046 0)) = g100 1100007 (g107 1046 0) := congrArg ((g100 1100007)) (la_stepBehind_289 h2452_)
      have e2586_ : g100 1100007 (g107 1100025 (g107 1046 0)) = g100 1100007 (g100 1046 0) := congrArg ((g100 1100007)) (la_stepBehind_289 h2452_)
      have e2587_ : g100 1100007 (g107 1100025 (g107 1046 0)) = g100 1100007 (g100 1100023 (g100 1046 0)) := congrArg ((g100 1100007)) (la_stepBehind_289 h2452_)
      have e2588_ : g100 1100007 (g107 1100025 (g107 1046 0)) = g100 1100007 (g100 1100023 (g100 1100023 (g100 1046 0))) := congrArg ((g100 1100007)) (la_stepBehind_289 h2452_)
      have e2589_ : g100 1100007 (g107 1100025 (g107 1046 0)) = g100 1100007 (g100 1100025 (g100 1046 0)) := congrArg ((g100 1100007)) (la_stepBehind_289 h2452_)
      have e2590_ : g100 1100007 (g107 1100025 (g107 1046 0)) = g100 1100007 (g107 1046 0) := congrArg ((g100 1100007)) (la_stepBehind_289 h2452_)
      have e2591_ : g100 1100007 (g107 1100025 (g107 1046 0)) = g100 1100007 (g107 1100023 (g107 1046 0)) := congrArg ((g100 1100007)) (la_stepBehind_289 h2452_)
      have e2592_ : g100 1100023 (g100 1100023 (g100 1046 0)) = g100 1100023 (g100 1046 0) := congrArg ((g100 1100023)) (la_stepBehind_289 h2452_)
      have e2593_ : g100 1100023 (g107 1046 0) = g100 1100023 (g100 1046 0) := congrArg ((g100 1100023)) (la_stepBehind_289 h2452_)
      have e2594_ : g100 1100023 (g107 1046 0) = g100 1100023 (g100 1100023 (g100 1046 0)) := congrArg ((g100 1100023)) (la_stepBehind_289 h2452_)
      have e2595_ : g100 1100024 (g107 1046 0) = g100 1100024 (g100 1046 0) := congrArg ((g100 1100024)) (la_stepBehind_289 h2452_)
      have e2596_ : g100 1100025 (g100 1100025 (g100 1046 0)) = g100 1100025 (g100 1046 0) := congrArg ((g100 1100025)) (la_stepBehind_289 h2452_)
      have e2597_ : g100 1100025 (g107 1046 0) = g100 1100025 (g100 1046 0) := congrArg ((g100 1100025)) (la_stepBehind_289 h2452_)
      have e2598_ : g100 1100025 (g107 1046 0) = g100 1100025 (g100 1100025 (g100 1046 0)) := congrArg ((g100 1100025)) (la_stepBehind_289 h2452_)
      have e2599_ : g100 26 (g93 1046 0) = g100 26 (g100 1046 0) := congrArg ((g100 26)) (la_stepBehind_289 h2452_)
      have e2600_ : g100 29 (g93 1046 0) = g100 29 (g100 1046 0) := congrArg ((g100 29)) (la_stepBehind_289 h2452_)
      have e2601_ : g107 1100007 (g107 1100023 (g107 1046 0)) = g107 1100007 (g107 1046 0) := congrArg ((g107 1100007)) (la_stepBehind_289 h2452_)
      have e2602_ : g107 1100007 (g107 1100025 (g107 1046 0)) = g107 1100007 (g107 1046 0) := congrArg ((g107 1100007)) (la_stepBehind_289 h2452_)
      have e2603_ : g107 1100007 (g107 1100025 (g107 1046 0)) = g107 1100007 (g107 1100023 (g107 1046 0)) := congrArg ((g107 1100007)) (la_stepBehind_289 h2452_)
      have e2604_ : g107 1100023 (g107 1100023 (g107 1046 0)) = g107 1100023 (g107 1046 0) := congrArg ((g107 1100023)) (la_stepBehind_289 h2452_)
      have e2605_ : g107 1100025 (g107 1100025 (g107 1046 0)) = g107 1100025 (g107 1046 0) := congrArg ((g107 1100025)) (la_stepBehind_289 h2452_)
      have e2606_ : g75 1100007 (g100 1100023 (g100 1046 0)) = g75 1100007 (g100 1046 0) := congrArg ((g75 1100007)) (la_stepBehind_289 h2452_)
      have e2607_ : g75 1100007 (g100 1100025 (g100 1046 0)) = g75 1100007 (g100 1046 0) := congrArg ((g75 1100007)) (la_stepBehind_289 h2452_)
      have e2608_ : g75 1100007 (g100 1100025 (g100 1046 0)) = g75 1100007 (g100 1100023 (g100 1046 0)) := congrArg ((g75 1100007)) (la_stepBehind_289 h2452_)
      have e2609_ : g75 1100007 (g75 1046 0) = g75 1100007 (g100 1046 0) := congrArg ((g75 1100007)) (la_stepBehind_289 h2452_)
      have e2610_ : g75 1100007 (g75 1046 0) = g75 1100007 (g100 1100023 (g100 1046 0)) := congrArg ((g75 1100007)) (la_stepBehind_289 h2452_)
      have e2611_ : g75 1100007 (g75 1046 0) = g75 1100007 (g100 1100025 (g100 1046 0)) := congrArg ((g75 1100007)) (la_stepBehind_289 h2452_)
      have e2612_ : g75 1100007 (g75 1100023 (g75 1046 0)) = g75 1100007 (g100 1046 0) := congrArg ((g75 1100007)) (la_stepBehind_289 h2452_)
      have e2613_ : g75 1100007 (g75 1100023 (g75 1046 0)) = g75 1100007 (g100 1100023 (g100 1046 0)) := congrArg ((g75 1100007)) (la_stepBehind_289 h2452_)
      have e2614_ : g75 1100007 (g75 1100023 (g75 1046 0)) = g75 1100007 (g100 1100025 (g100 1046 0)) := congrArg ((g75 1100007)) (la_stepBehind_289 h2452_)
      have e2615_ : g75 1100007 (g75 1100023 (g75 1046 0)) = g75 1100007 (g75 1046 0) := congrArg ((g75 1100007)) (la_stepBehind_289 h2452_)
      have e2616_ : g75 1100007 (g75 1100025 (g75 1046 0)) = g75 1100007 (g100 1046 0) := congrArg ((g75 1100007)) (la_stepBehind_289 h2452_)
      have e2617_ : g75 1100007 (g75 1100025 (g75 1046 0)) = g75 1100007 (g100 1100023 (g100 1046 0)) := congrArg ((g75 1100007)) (la_stepBehind_289 h2452_)
      have e2618_ : g75 1100007 (g75 1100025 (g75 1046 0)) = g75 1100007 (g100 1100025 (g100 1046 0)) := congrArg ((g75 1100007)) (la_stepBehind_289 h2452_)
      have e2619_ : g75 1100007 (g75 1100025 (g75 1046 0)) = g75 1100007 (g75 1046 0) := congrArg ((g75 1100007)) (la_stepBehind_289 h2452_)
      have e2620_ : g75 1100007 (g75 1100025 (g75 1046 0)) = g75 1100007 (g75 1100023 (g75 1046 0)) := congrArg ((g75 1100007)) (la_stepBehind_289 h2452_)
      have e2621_ : g75 1100007 (g85 1046 0) = g75 1100007 (g100 1046 0) := congrArg ((g75 1100007)) (la_stepBehind_289 h2452_)
      have e2622_ : g75 1100007 (g85 1046 0) = g75 1100007 (g100 1100023 (g100 1046 0)) := congrArg ((g75 1100007)) (la_stepBehind_289 h2452_)
      have e2623_ : g75 1100007 (g85 1046 0) = g75 1100007 (g100 1100025 (g100 1046 0)) := congrArg ((g75 1100007)) (la_stepBehind_289 h2452_)
      have e2624_ : g75 1100007 (g85 1046 0) = g75 1100007 (g75 1046 0) := congrArg ((g75 1100007)) (la_stepBehind_289 h2452_)
      have e2625_ : g75 1100007 (g85 1046 0) = g75 1100007 (g75 1100023 (g75 1046 0)) := congrArg ((g75 1100007)) (la_stepBehind_289 h2452_)
      have e2626_ : g75 1100007 (g85 1046 0) = g75 1100007 (g75 1100025 (g75 1046 0)) := congrArg ((g75 1100007)) (la_stepBehind_289 h2452_)
      have e2627_ : g75 1100007 (g85 1100023 (g85 1046 0)) = g75 1100007 (g100 1046 0) := congrArg ((g75 1100007)) (la_stepBehind_289 h2452_)
      have e2628_ : g75 1100007 (g85 1100023 (g85 1046 0)) = g75 1100007 (g100 1100023 (g100 1046 0)) := congrArg ((g75 1100007)) (la_stepBehind_289 h2452_)
      have e2629_ : g75 1100007 (g85 1100023 (g85 1046 0)) = g75 1100007 (g100 1100025 (g100 1046 0)) := congrArg ((g75 1100007)) (la_stepBehind_289 h2452_)
      have e2630_ : g75 1100007 (g85 1100023 (g85 1046 0)) = g75 1100007 (g75 1046 0) := congrArg ((g75 1100007)) (la_stepBehind_289 h2452_)
      have e2631_ : g75 1100007 (g85 1100023 (g85 1046 0)) = g75 1100007 (g75 1100023 (g75 1046 0)) := congrArg ((g75 1100007)) h2425_
      have e2632_ : g75 1100007 (g85 1100023 (g85 1046 0)) = g75 1100007 (g75 1100025 (g75 1046 0)) := congrArg ((g75 1100007)) (la_stepBehind_289 h2452_)
      have e2633_ : g75 1100007 (g85 1100023 (g85 1046 0)) = g75 1100007 (g85 1046 0) := congrArg ((g75 1100007)) (la_stepBehind_289 h2452_)
      have e2634_ : g75 1100007 (g85 1100025 (g85 1046 0)) = g75 1100007 (g100 1046 0) := congrArg ((g75 1100007)) (la_stepBehind_289 h2452_)
      have e2635_ : g75 1100007 (g85 1100025 (g85 1046 0)) = g75 1100007 (g100 1100023 (g100 1046 0)) := congrArg ((g75 1100007)) (la_stepBehind_289 h2452_)
      have e2636_ : g75 1100007 (g85 1100025 (g85 1046 0)) = g75 1100007 (g100 1100025 (g100 1046 0)) := congrArg ((g75 1100007)) (la_stepBehind_289 h2452_)
      have e2637_ : g75 1100007 (g85 1100025 (g85 1046 0)) = g75 1100007 (g75 1046 0) := congrArg ((g75 1100007)) (la_stepBehind_289 h2452_)
      have e2638_ : g75 1100007 (g85 1100025 (g85 1046 0)) = g75 1100007 (g75 1100023 (g75 1046 0)) := congrArg ((g75 1100007)) (la_stepBehind_289 h2452_)
      have e2639_ : g75 1100007 (g85 1100025 (g85 1046 0)) = g75 1100007 (g75 1100025 (g75 1046 0)) := congrArg ((g75 1100007)) h2427_
      have e2640_ : g75 1100007 (g85 1100025 (g85 1046 0)) = g75 1100007 (g85 1046 0) := congrArg ((g75 1100007)) (la_stepBehind_289 h2452_)
      have e2641_ : g75 1100007 (g85 1100025 (g85 1046 0)) = g75 1100007 (g85 1100023 (g85 1046 0)) := congrArg ((g75 1100007)) (la_stepBehind_289 h2452_)
      have e2642_ : g75 1100007 (g93 1046 0) = g75 1100007 (g100 1046 0) := congrArg ((g75 1100007)) (la_stepBehind_289 h2452_)
      have e2643_ : g75 1100007 (g93 1046 0) = g75 1100007 (g100 1100023 (g100 1046 0)) := congrArg ((g75 1100007)) (la_stepBehind_289 h2452_)
      have e2644_ : g75 1100007 (g93 1046 0) = g75 1100007 (g100 1100025 (g100 1046 0)) := congrArg ((g75 1100007)) (la_stepBehind_289 h2452_)
      have e2645_ : g75 1100007 (g93 1046 0) = g75 1100007 (g75 1046 0) := congrArg ((g75 1100007)) (la_stepBehind_289 h2452_)
      have e2646_ : g75 1100007 (g93 1046 0) = g75 1100007 (g75 1100023 (g75 1046 0)) := congrArg ((g75 1100007)) (la_stepBehind_289 h2452_)
      have e2647_ : g75 1100007 (g93 1046 0) = g75 1100007 (g75 1100025 (g75 1046 0)) := congrArg ((g75 1100007)) (la_stepBehind_289 h2452_)
      have e2648_ : g75 1100007 (g93 1046 0) = g75 1100007 (g85 1046 0) := congrArg ((g75 1100007)) (la_stepBehind_289 h2452_)
      have e2649_ : g75 1100007 (g93 1046 0) = g75 1100007 (g85 1100023 (g85 1046 0)) := congrArg ((g75 1100007)) (la_stepBehind_289 h2452_)
      have e2650_ : g75 1100007 (g93 1046 0) = g75 1100007 (g85 1100025 (g85 1046 0)) := congrArg ((g75 1100007)) (la_stepBehind_289 h2452_)
      have e2651_ : g75 1100007 (g93 1100023 (g93 1046 0)) = g75 1100007 (g100 1046 0) := congrArg ((g75 1100007)) (la_stepBehind_289 h2452_)
      have e2652_ : g75 1100007 (g93 1100023 (g93 1046 0)) = g75 1100007 (g100 1100023 (g100 1046 0)) := congrArg ((g75 1100007)) (la_stepBehind_289 h2452_)
      have e2653_ : g75 1100007 (g93 1100023 (g93 1046 0)) = g75 1100007 (g100 1100025 (g100 1046 0)) := congrArg ((g75 1100007)) (la_stepBehind_289 h2452_)
      have e2654_ : g75 1100007 (g93 1100023 (g93 1046 0)) = g75 1100007 (g75 1046 0) := congrArg ((g75 1100007)) (la_stepBehind_289 h2452_)
      have e2655_ : g75 1100007 (g93 1100023 (g93 1046 0)) = g75 1100007 (g75 1100023 (g75 1046 0)) := congrArg ((g75 1100007)) (la_stepBehind_289 h2452_)
      have e2656_ : g75 1100007 (g93 1100023 (g93 1046 0)) = g75 1100007 (g75 1100025 (g75 1046 0)) := congrArg ((g75 1100007)) (la_stepBehind_289 h2452_)
      have e2657_ : g75 1100007 (g93 1100023 (g93 1046 0)) = g75 1100007 (g85 1046 0) := congrArg ((g75 1100007)) (la_stepBehind_289 h2452_)
      have e2658_ : g75 1100007 (g93 1100023 (g93 1046 0)) = g75 1100007 (g85 1100023 (g85 1046 0)) := congrArg ((g75 1100007)) (la_stepBehind_289 h2452_)
      have e2659_ : g75 1100007 (g93 1100023 (g93 1046 0)) = g75 1100007 (g85 1100025 (g85 1046 0)) := congrArg ((g75 1100007)) (la_stepBehind_289 h2452_)
      have e2660_ : g75 1100007 (g93 1100023 (g93 1046 0)) = g75 1100007 (g93 1046 0) := congrArg ((g75 1100007)) (la_stepBehind_289 h2452_)
      have e2661_ : g75 1100007 (g93 1100025 (g93 1046 0)) = g75 1100007 (g100 1046 0) := congrArg ((g75 1100007)) (la_stepBehind_289 h2452_)
      have e2662_ : g75 1100007 (g93 1100025 (g93 1046 0)) = g75 1100007 (g100 1100023 (g100 1046 0)) := congrArg ((g75 1100007)) (la_stepBehind_289 h2452_)
      have e2663_ : g75 1100007 (g93 1100025 (g93 1046 0)) = g75 1100007 (g100 1100025 (g100 1046 0)) := congrArg ((g75 1100007)) (la_stepBehind_289 h2452_)
      have e2664_ : g75 1100007 (g93 1100025 (g93 1046 0)) = g75 1100007 (g75 1046 0) := congrArg ((g75 1100007)) (la_stepBehind_289 h2452_)
      have e2665_ : g75 1100007 (g93 1100025 (g93 1046 0)) = g75 1100007 (g75 1100023 (g75 1046 0)) := congrArg ((g75 1100007)) (la_stepBehind_289 h2452_)
      have e2666_ : g75 1100007 (g93 1100025 (g93 1046 0)) = g75 1100007 (g75 1100025 (g75 1046 0)) := congrArg ((g75 1100007)) (la_stepBehind_289 h2452_)
      have e2667_ : g75 1100007 (g93 1100025 (g93 1046 0)) = g75 1100007 (g85 1046 0) := congrArg ((g75 1100007)) (la_stepBehind_289 h2452_)
      have e2668_ : g75 1100007 (g93 1100025 (g93 1046 0)) = g75 1100007 (g85 1100023 (g85 1046 0)) := congrArg ((g75 1100007)) (la_stepBehind_289 h2452_)
      have e2669_ : g75 1100007 (g93 1100025 (g93 1046 0)) = g75 1100007 (g85 1100025 (g85 1046 0)) := congrArg ((g75 1100007)) (la_stepBehind_289 h2452_)
      have e2670_ : g75 1100007 (g93 1100025 (g93 1046 0)) = g75 1100007 (g93 1046 0) := congrArg ((g75 1100007)) (la_stepBehind_289 h2452_)
      have e2671_ : g75 1100007 (g93 1100025 (g93 1046 0)) = g75 1100007 (g93 1100023 (g93 1046 0)) := congrArg ((g75 1100007)) (la_stepBehind_289 h2452_)
      have e2672_ : g75 1100023 (g75 1046 0) = g75 1100023 (g100 1046 0) := congrArg ((g75 1100023)) (la_stepBehind_289 h2452_)
      have e2673_ : g75 1100023 (g85 1046 0) = g75 1100023 (g100 1046 0) := congrArg ((g75 1100023)) (la_stepBehind_289 h2452_)
      have e2674_ : g75 1100023 (g85 1046 0) = g75 1100023 (g75 1046 0) := congrArg ((g75 1100023)) (la_stepBehind_289 h2452_)
      have e2675_ : g75 1100023 (g93 1046 0) = g75 1100023 (g100 1046 0) := congrArg ((g75 1100023)) (la_stepBehind_289 h2452_)
      have e2676_ : g75 1100023 (g93 1046 0) = g75 1100023 (g75 1046 0) := congrArg ((g75 1100023)) (la_stepBehind_289 h2452_)
      have e2677_ : g75 1100023 (g93 1046 0) = g75 1100023 (g85 1046 0) := congrArg ((g75 1100023)) (la_stepBehind_289 h2452_)
      have e2678_ : g75 1100024 (g75 1046 0) = g75 1100024 (g100 1046 0) := congrArg ((g75 1100024)) (la_stepBehind_289 h2452_)
      have e2679_ : g75 1100024 (g85 1046 0) = g75 1100024 (g100 1046 0) := congrArg ((g75 1100024)) (la_stepBehind_289 h2452_)
      have e2680_ : g75 1100024 (g85 1046 0) = g75 1100024 (g75 1046 0) := congrArg ((g75 1100024)) (la_stepBehind_289 h2452_)
      have e2681_ : g75 1100024 (g93 1046 0) = g75 1100024 (g100 1046 0) := congrArg ((g75 1100024)) (la_stepBehind_289 h2452_)
      have e2682_ : g75 1100024 (g93 1046 0) = g75 1100024 (g75 1046 0) := congrArg ((g75 1100024)) (la_stepBehind_289 h2452_)
      have e2683_ : g75 1100024 (g93 1046 0) = g75 1100024 (g85 1046 0) := congrArg ((g75 1100024)) (la_stepBehind_289 h2452_)
      have e2684_ : g75 1100025 (g75 1046 0) = g75 1100025 (g100 1046 0) := congrArg ((g75 1100025)) (la_stepBehind_289 h2452_)
      have e2685_ : g75 1100025 (g85 1046 0) = g75 1100025 (g100 1046 0) := congrArg ((g75 1100025)) (la_stepBehind_289 h2452_)
      have e2686_ : g75 1100025 (g85 1046 0) = g75 1100025 (g75 1046 0) := congrArg ((g75 1100025)) (la_stepBehind_289 h2452_)
      have e2687_ : g75 1100025 (g93 1046 0) = g75 1100025 (g100 1046 0) := congrArg ((g75 1100025)) (la_stepBehind_289 h2452_)
      have e2688_ : g75 1100025 (g93 1046 0) = g75 1100025 (g75 1046 0) := congrArg ((g75 1100025)) (la_stepBehind_289 h2452_)
      have e2689_ : g75 1100025 (g93 1046 0) = g75 1100025 (g85 1046 0) := congrArg ((g75 1100025)) (la_stepBehind_289 h2452_)
      have e2690_ : g75 26 (g93 1046 0) = g75 26 (g85 1046 0) := congrArg ((g75 26)) (la_stepBehind_289 h2452_)
      have e2691_ : g75 29 (g93 1046 0) = g75 29 (g85 1046 0) := congrArg ((g75 29)) (la_stepBehind_289 h2452_)
      have e2692_ : g85 1100007 (g100 1100023 (g100 1046 0)) = g85 1100007 (g100 1046 0) := congrArg ((g85 1100007)) (la_stepBehind_289 h2452_)
      have e2693_ : g85 1100007 (g100 1100025 (g100 1046 0)) = g85 1100007 (g100 1046 0) := congrArg ((g85 1100007)) (la_stepBehind_289 h2452_)
      have e2694_ : g85 1100007 (g100 1100025 (g100 1046 0)) = g85 1100007 (g100 1100023 (g100 1046 0)) := congrArg ((g85 1100007)) (la_stepBehind_289 h2452_)
      have e2695_ : g85 1100007 (g107 1046 0) = g85 1100007 (g100 1046 0) := congrArg ((g85 1100007)) (la_stepBehind_289 h2452_)
      have e2696_ : g85 1100007 (g107 1046 0) = g85 1100007 (g100 1100023 (g100 1046 0)) := congrArg ((g85 1100007)) (la_stepBehind_289 h2452_)
      have e2697_ : g85 1100007 (g107 1046 0) = g85 1100007 (g100 1100025 (g100 1046 0)) := congrArg ((g85 1100007)) (la_stepBehind_289 h2452_)
      have e2698_ : g85 1100007 (g107 1100023 (g107 1046 0)) = g85 1100007 (g100 1046 0) := congrArg ((g85 1100007)) (la_stepBehind_289 h2452_)
      have e2699_ : g85 1100007 (g107 1100023 (g107 1046 0)) = g85 1100007 (g100 1100023 (g100 1046 0)) := congrArg ((g85 1100007)) (la_stepBehind_289 h2452_)
      have e2700_ : g85 1100007 (g107 1100023 (g107 1046 0)) = g85 1100007 (g100 1100025 (g100 1046 0)) := congrArg ((g85 1100007)) (la_stepBehind_289 h2452_)
      have e2701_ : g85 1100007 (g107 1100023 (g107 1046 0)) = g85 1100007 (g107 1046 0) := congrArg ((g85 1100007)) (la_stepBehind_289 h2452_)
      have e2702_ : g85 1100007 (g107 1100025 (g107 1046 0)) = g85 1100007 (g100 1046 0) := congrArg ((g85 1100007)) (la_stepBehind_289 h2452_)
      have e2703_ : g85 1100007 (g107 1100025 (g107 1046 0)) = g85 1100007 (g100 1100023 (g100 1046 0)) := congrArg ((g85 1100007)) (la_stepBehind_289 h2452_)
      have e2704_ : g85 1100007 (g107 1100025 (g107 1046 0)) = g85 1100007 (g100 1100025 (g100 1046 0)) := congrArg ((g85 1100007)) (la_stepBehind_289 h2452_)
      have e2705_ : g85 1100007 (g107 1100025 (g107 1046 0)) = g85 1100007 (g107 1046 0) := congrArg ((g85 1100007)) (la_stepBehind_289 h2452_)
      have e2706_ : g85 1100007 (g107 1100025 (g107 1046 0)) = g85 1100007 (g107 1100023 (g107 1046 0)) := congrArg ((g85 1100007)) (la_stepBehind_289 h2452_)
      have e2707_ : g85 1100007 (g85 1046 0) = g85 1100007 (g100 1046 0) := congrArg ((g85 1100007)) (la_stepBehind_289 h2452_)
      have e2708_ : g85 1100007 (g85 1046 0) = g85 1100007 (g100 1100023 (g100 1046 0)) := congrArg ((g85 1100007)) (la_stepBehind_289 h2452_)
      have e2709_ : g85 1100007 (g85 1046 0) = g85 1100007 (g100 1100025 (g100 1046 0)) := congrArg ((g85 1100007)) (la_stepBehind_289 h2452_)
      have e2710_ : g85 1100007 (g85 1046 0) = g85 1100007 (g107 1046 0) := congrArg ((g85 1100007)) (la_stepBehind_289 h2452_)
      have e2711_ : g85 1100007 (g85 1046 0) = g85 1100007 (g107 1100023 (g107 1046 0)) := congrArg ((g85 1100007)) (la_stepBehind_289 h2452_)
      have e2712_ : g85 1100007 (g85 1046 0) = g85 1100007 (g107 1100025 (g107 1046 0)) := congrArg ((g85 1100007)) (la_stepBehind_289 h2452_)
      have e2713_ : g85 1100007 (g85 1100023 (g85 1046 0)) = g85 1100007 (g100 1046 0) := congrArg ((g85 1100007)) (la_stepBehind_289 h2452_)
      have e2714_ : g85 1100007 (g85 1100023 (g85 1046 0)) = g85 1100007 (g100 1100023 (g100 1046 0)) := congrArg ((g85 1100007)) (la_stepBehind_289 h2452_)
      have e2715_ : g85 1100007 (g85 1100023 (g85 1046 0)) = g85 1100007 (g100 1100025 (g100 1046 0)) := congrArg ((g85 1100007)) (la_stepBehind_289 h2452_)
      have e2716_ : g85 1100007 (g85 1100023 (g85 1046 0)) = g85 1100007 (g107 1046 0) := congrArg ((g85 1100007)) (la_stepBehind_289 h2452_)
      have e2717_ : g85 1100007 (g85 1100023 (g85 1046 0)) = g85 1100007 (g107 1100023 (g107 1046 0)) := congrArg ((g85 1100007)) (la_stepBehind_289 h2452_)
      have e2718_ : g85 1100007 (g85 1100023 (g85 1046 0)) = g85 1100007 (g107 1100025 (g107 1046 0)) := congrArg ((g85 1100007)) (la_stepBehind_289 h2452_)
      have e2719_ : g85 1100007 (g85 1100023 (g85 1046 0)) = g85 1100007 (g85 1046 0) := congrArg ((g85 1100007)) (la_stepBehind_289 h2452_)
      have e2720_ : g85 1100007 (g85 1100023 (g85 1100023 (g85 1046 0))) = g85 1100007 (g100 1046 0) := congrArg ((g85 1100007)) (la_stepBehind_289 h2452_)
      have e2721_ : g85 1100007 (g85 1100023 (g85 1100023 (g85 1046 0))) = g85 1100007 (g100 1100023 (g100 1046 0)) := congrArg ((g85 1100007)) (la_stepBehind_289 h2452_)
      have e2722_ : g85 1100007 (g85 1100023 (g85 1100023 (g85 1046 0))) = g85 1100007 (g100 1100025 (g100 1046 0)) := congrArg ((g85 1100007)) (la_stepBehind_289 h2452_)
      have e2723_ : g85 1100007 (g85 1100023 (g85 1100023 (g85 1046 0))) = g85 1100007 (g107 1046 0) := congrArg ((g85 1100007)) (la_stepBehind_289 h2452_)
      have e2724_ : g85 1100007 (g85 1100023 (g85 1100023 (g85 1046 0))) = g85 1100007 (g107 1100023 (g107 1046 0)) := congrArg ((g85 1100007)) (la_stepBehind_289 h2452_)
      have e2725_ : g85 1100007 (g85 1100023 (g85 1100023 (g85 1046 0))) = g85 1100007 (g107 1100025 (g107 1046 0)) := congrArg ((g85 1100007)) (la_stepBehind_289 h2452_)
      have e2726_ : g85 1100007 (g85 1100023 (g85 1100023 (g85 1046 0))) = g85 1100007 (g85 1046 0) := congrArg ((g85 1100007)) (la_stepBehind_289 h2452_)
      have e2727_ : g85 1100007 (g85 1100023 (g85 1100023 (g85 1046 0))) = g85 1100007 (g85 1100023 (g85 1046 0)) := congrArg ((g85 1100007)) (la_stepBehind_289 h2452_)
      have e2728_ : g85 1100007 (g85 1100025 (g85 1046 0)) = g85 1100007 (g100 1046 0) := congrArg ((g85 1100007)) (la_stepBehind_289 h2452_)
      have e2729_ : g85 1100007 (g85 1100025 (g85 1046 0)) = g85 1100007 (g100 1100023 (g100 1046 0)) := congrArg ((g85 1100007)) (la_stepBehind_289 h2452_)
      have e2730_ : g85 1100007 (g85 1100025 (g85 1046 0)) = g85 1100007 (g100 1100025 (g100 1046 0)) := congrArg ((g85 1100007)) (la_stepBehind_289 h2452_)
      have e2731_ : g85 1100007 (g85 1100025 (g85 1046 0)) = g85 1100007 (g107 1046 0) := congrArg ((g85 1100007)) (la_stepBehind_289 h2452_)
      have e2732_ : g85 1100007 (g85 1100025 (g85 1046 0)) = g85 1100007 (g107 1100023 (g107 1046 0)) := congrArg ((g85 1100007)) (la_stepBehind_289 h2452_)
      have e2733_ : g85 1100007 (g85 1100025 (g85 1046 0)) = g85 1100007 (g107 1100025 (g107 1046 0)) := congrArg ((g85 1100007)) (la_stepBehind_289 h2452_)
      have e2734_ : g85 1100007 (g85 1100025 (g85 1046 0)) = g85 1100007 (g85 1046 0) := congrArg ((g85 1100007)) (la_stepBehind_289 h2452_)
      have e2735_ : g85 1100007 (g85 1100025 (g85 1046 0)) = g85 1100007 (g85 1100023 (g85 1046 0)) := congrArg ((g85 1100007)) (la_stepBehind_289 h2452_)
      have e2736_ : g85 1100007 (g85 1100025 (g85 1046 0)) = g85 1100007 (g85 1100023 (g85 1100023 (g85 1046 0))) := congrArg ((g85 1100007)) (la_stepBehind_289 h2452_)
      have e2737_ : g85 1100007 (g93 1046 0) = g85 1100007 (g100 1046 0) := congrArg ((g85 1100007)) (la_stepBehind_289 h2452_)
      have e2738_ : g85 1100007 (g93 1046 0) = g85 1100007 (g100 1100023 (g100 1046 0)) := congrArg ((g85 1100007)) (la_stepBehind_289 h2452_)
      have e2739_ : g85 1100007 (g93 1046 0) = g85 1100007 (g100 1100025 (g100 1046 0)) := congrArg ((g85 1100007)) (la_stepBehind_289 h2452_)
      have e2740_ : g85 1100007 (g93 1046 0) = g85 1100007 (g107 1046 0) := congrArg ((g85 1100007)) (la_stepBehind_289 h2452_)
      have e2741_ : g85 1100007 (g93 1046 0) = g85 1100007 (g107 1100023 (g107 1046 0)) := congrArg ((g85 1100007)) (la_stepBehind_289 h2452_)
      have e2742_ : g85 1100007 (g93 1046 0) = g85 1100007 (g107 1100025 (g107 1046 0)) := congrArg ((g85 1100007)) (la_stepBehind_289 h2452_)
      have e2743_ : g85 1100007 (g93 1046 0) = g85 1100007 (g85 1046 0) := congrArg ((g85 1100007)) (la_stepBehind_289 h2452_)
      have e2744_ : g85 1100007 (g93 1046 0) = g85 1100007 (g85 1100023 (g85 1046 0)) := congrArg ((g85 1100007)) (la_stepBehind_289 h2452_)
      have e2745_ : g85 1100007 (g93 1046 0) = g85 1100007 (g85 1100023 (g85 1100023 (g85 1046 0))) := congrArg ((g85 1100007)) (la_stepBehind_289 h2452_)
      have e2746_ : g85 1100007 (g93 1046 0) = g85 1100007 (g85 1100025 (g85 1046 0)) := congrArg ((g85 1100007)) (la_stepBehind_289 h2452_)
      have e2747_ : g85 1100007 (g93 1100023 (g93 1046 0)) = g85 1100007 (g100 1046 0) := congrArg ((g85 1100007)) (la_stepBehind_289 h2452_)
      have e2748_ : g85 1100007 (g93 1100023 (g93 1046 0)) = g85 1100007 (g100 1100023 (g100 1046 0)) := congrArg ((g85 1100007)) (la_stepBehind_289 h2452_)
      have e2749_ : g85 1100007 (g93 1100023 (g93 1046 0)) = g85 1100007 (g100 1100025 (g100 1046 0)) := congrArg ((g85 1100007)) (la_stepBehind_289 h2452_)
      have e2750_ : g85 1100007 (g93 1100023 (g93 1046 0)) = g85 1100007 (g107 1046 0) := congrArg ((g85 1100007)) (la_stepBehind_289 h2452_)
      have e2751_ : g85 1100007 (g93 1100023 (g93 1046 0)) = g85 1100007 (g107 1100023 (g107 1046 0)) := congrArg ((g85 1100007)) (la_stepBehind_289 h2452_)
      have e2752_ : g85 1100007 (g93 1100023 (g93 1046 0)) = g85 1100007 (g107 1100025 (g107 1046 0)) := congrArg ((g85 1100007)) (la_stepBehind_289 h2452_)
      have e2753_ : g85 1100007 (g93 1100023 (g93 1046 0)) = g85 1100007 (g85 1046 0) := congrArg ((g85 1100007)) (la_stepBehind_289 h2452_)
      have e2754_ : g85 1100007 (g93 1100023 (g93 1046 0)) = g85 1100007 (g85 1100023 (g85 1046 0)) := congrArg ((g85 1100007)) (la_stepBehind_289 h2452_)
      have e2755_ : g85 1100007 (g93 1100023 (g93 1046 0)) = g85 1100007 (g85 1100023 (g85 1100023 (g85 1046 0))) := congrArg ((g85 1100007)) (la_stepBehind_289 h2452_)
      have e2756_ : g85 1100007 (g93 1100023 (g93 1046 0)) = g85 1100007 (g85 1100025 (g85 1046 0)) := congrArg ((g85 1100007)) (la_stepBehind_289 h2452_)
      have e2757_ : g85 1100007 (g93 1100023 (g93 1046 0)) = g85 1100007 (g93 1046 0) := congrArg ((g85 1100007)) (la_stepBehind_289 h2452_)
      have e2758_ : g85 1100007 (g93 1100025 (g93 1046 0)) = g85 1100007 (g100 1046 0) := congrArg ((g85 1100007)) (la_stepBehind_289 h2452_)
      have e2759_ : g85 1100007 (g93 1100025 (g93 1046 0)) = g85 1100007 (g100 1100023 (g100 1046 0)) := congrArg ((g85 1100007)) (la_stepBehind_289 h2452_)
      have e2760_ : g85 1100007 (g93 1100025 (g93 1046 0)) = g85 1100007 (g100 1100025 (g100 1046 0)) := congrArg ((g85 1100007)) (la_stepBehind_289 h2452_)
      have e2761_ : g85 1100007 (g93 1100025 (g93 1046 0)) = g85 1100007 (g107 1046 0) := congrArg ((g85 1100007)) (la_stepBehind_289 h2452_)
      have e2762_ : g85 1100007 (g93 1100025 (g93 1046 0)) = g85 1100007 (g107 1100023 (g107 1046 0)) := congrArg ((g85 1100007)) (la_stepBehind_289 h2452_)
      have e2763_ : g85 1100007 (g93 1100025 (g93 1046 0)) = g85 1100007 (g107 1100025 (g107 1046 0)) := congrArg ((g85 1100007)) (la_stepBehind_289 h2452_)
      have e2764_ : g85 1100007 (g93 1100025 (g93 1046 0)) = g85 1100007 (g85 1046 0) := congrArg ((g85 1100007)) (la_stepBehind_289 h2452_)
      have e2765_ : g85 1100007 (g93 1100025 (g93 1046 0)) = g85 1100007 (g85 1100023 (g85 1046 0)) := congrArg ((g85 1100007)) (la_stepBehind_289 h2452_)
      have e2766_ : g85 1100007 (g93 1100025 (g93 1046 0)) = g85 1100007 (g85 1100023 (g85 1100023 (g85 1046 0))) := congrArg ((g85 1100007)) (la_stepBehind_289 h2452_)
      have e2767_ : g85 1100007 (g93 1100025 (g93 1046 0)) = g85 1100007 (g85 1100025 (g85 1046 0)) := congrArg ((g85 1100007)) (la_stepBehind_289 h2452_)
      have e2768_ : g85 1100007 (g93 1100025 (g93 1046 0)) = g85 1100007 (g93 1046 0) := congrArg ((g85 1100007)) (la_stepBehind_289 h2452_)
      have e2769_ : g85 1100007 (g93 1100025 (g93 1046 0)) = g85 1100007 (g93 1100023 (g93 1046 0)) := congrArg ((g85 1100007)) (la_stepBehind_289 h2452_)
      have e2770_ : g85 1100023 (g107 1046 0) = g85 1100023 (g100 1046 0) := congrArg ((g85 1100023)) (la_stepBehind_289 h2452_)
      have e2771_ : g85 1100023 (g85 1046 0) = g85 1100023 (g100 1046 0) := congrArg ((g85 1100023)) (la_stepBehind_289 h2452_)
      have e2772_ : g85 1100023 (g85 1046 0) = g85 1100023 (g107 1046 0) := congrArg ((g85 1100023)) (la_stepBehind_289 h2452_)
      have e2773_ : g85 1100023 (g85 1100023 (g85 1046 0)) = g85 1100023 (g100 1046 0) := congrArg ((g85 1100023)) (la_stepBehind_289 h2452_)
      have e2774_ : g85 1100023 (g85 1100023 (g85 1046 0)) = g85 1100023 (g107 1046 0) := congrArg ((g85 1100023)) (la_stepBehind_289 h2452_)
      have e2775_ : g85 1100023 (g85 1100023 (g85 1046 0)) = g85 1100023 (g85 1046 0) := congrArg ((g85 1100023)) (la_stepBehind_289 h2452_)
      have e2776_ : g85 1100023 (g93 1046 0) = g85 1100023 (g100 1046 0) := congrArg ((g85 1100023)) (la_stepBehind_289 h2452_)
      have e2777_ : g85 1100023 (g93 1046 0) = g85 1100023 (g107 1046 0) := congrArg ((g85 1100023)) (la_stepBehind_289 h2452_)
      have e2778_ : g85 1100023 (g93 1046 0) = g85 1100023 (g85 1046 0) := congrArg ((g85 1100023)) (la_stepBehind_289 h2452_)
      have e2779_ : g85 1100023 (g93 1046 0) = g85 1100023 (g85 1100023 (g85 1046 0)) := congrArg ((g85 1100023)) (la_stepBehind_289 h2452_)
      have e2780_ : g85 1100024 (g107 1046 0) = g85 1100024 (g100 1046 0) := congrArg ((g85 1100024)) (la_stepBehind_289 h2452_)
      have e2781_ : g85 1100024 (g85 1046 0) = g85 1100024 (g100 1046 0) := congrArg ((g85 1100024)) (la_stepBehind_289 h2452_)
      have e2782_ : g85 1100024 (g85 1046 0) = g85 1100024 (g107 1046 0) := congrArg ((g85 1100024)) (la_stepBehind_289 h2452_)
      have e2783_ : g85 1100024 (g93 1046 0) = g85 1100024 (g100 1046 0) := congrArg ((g85 1100024)) (la_stepBehind_289 h2452_)
      have e2784_ : g85 1100024 (g93 1046 0) = g85 1100024 (g107 1046 0) := congrArg ((g85 1100024)) (la_stepBehind_289 h2452_)
      have e2785_ : g85 1100024 (g93 1046 0) = g85 1100024 (g85 1046 0) := congrArg ((g85 1100024)) (la_stepBehind_289 h2452_)
      have e2786_ : g85 1100025 (g107 1046 0) = g85 1100025 (g100 1046 0) := congrArg ((g85 1100025)) (la_stepBehind_289 h2452_)
      have e2787_ : g85 1100025 (g85 1046 0) = g85 1100025 (g100 1046 0) := congrArg ((g85 1100025)) (la_stepBehind_289 h2452_)
      have e2788_ : g85 1100025 (g85 1046 0) = g85 1100025 (g107 1046 0) := congrArg ((g85 1100025)) (la_stepBehind_289 h2452_)
      have e2789_ : g85 1100025 (g85 1100025 (g85 1046 0)) = g85 1100025 (g100 1046 0) := congrArg ((g85 1100025)) (la_stepBehind_289 h2452_)
      have e2790_ : g85 1100025 (g85 1100025 (g85 1046 0)) = g85 1100025 (g107 1046 0) := congrArg ((g85 1100025)) (la_stepBehind_289 h2452_)
      have e2791_ : g85 1100025 (g85 1100025 (g85 1046 0)) = g85 1100025 (g85 1046 0) := congrArg ((g85 1100025)) (la_stepBehind_289 h2452_)
      have e2792_ : g85 1100025 (g93 1046 0) = g85 1100025 (g100 1046 0) := congrArg ((g85 1100025)) (la_stepBehind_289 h2452_)
      have e2793_ : g85 1100025 (g93 1046 0) = g85 1100025 (g107 1046 0) := congrArg ((g85 1100025)) (la_stepBehind_289 h2452_)
      have e2794_ : g85 1100025 (g93 1046 0) = g85 1100025 (g85 1046 0) := congrArg ((g85 1100025)) (la_stepBehind_289 h2452_)
      have e2795_ : g85 1100025 (g93 1046 0) = g85 1100025 (g85 1100025 (g85 1046 0)) := congrArg ((g85 1100025)) (la_stepBehind_289 h2452_)
      have e2796_ : g85 26 (g85 1046 0) = g85 26 (g100 1046 0) := congrArg ((g85 26)) (la_stepBehind_289 h2452_)
      have e2797_ : g85 26 (g93 1046 0) = g85 26 (g100 1046 0) := congrArg ((g85 26)) (la_stepBehind_289 h2452_)
      have e2798_ : g85 26 (g93 1046 0) = g85 26 (g85 1046 0) := congrArg ((g85 26)) (la_stepBehind_289 h2452_)
      have e2799_ : g85 29 (g85 1046 0) = g85 29 (g100 1046 0) := congrArg ((g85 29)) (la_stepBehind_289 h2452_)
      have e2800_ : g85 29 (g93 1046 0) = g85 29 (g100 1046 0) := congrArg ((g85 29)) (la_stepBehind_289 h2452_)
      have e2801_ : g85 29 (g93 1046 0) = g85 29 (g85 1046 0) := congrArg ((g85 29)) (la_stepBehind_289 h2452_)
      have e2802_ : g93 1100007 (g100 1100023 (g100 1046 0)) = g93 1100007 (g100 1046 0) := congrArg ((g93 1100007)) (la_stepBehind_289 h2452_)
      have e2803_ : g93 1100007 (g100 1100025 (g100 1046 0)) = g93 1100007 (g100 1046 0) := congrArg ((g93 1100007)) (la_stepBehind_289 h2452_)
      have e2804_ : g93 1100007 (g100 1100025 (g100 1046 0)) = g93 1100007 (g100 1100023 (g100 1046 0)) := congrArg ((g93 1100007)) (la_stepBehind_289 h2452_)
      have e2805_ : g93 1100007 (g107 1046 0) = g93 1100007 (g100 1046 0) := congrArg ((g93 1100007)) (la_stepBehind_289 h2452_)
      have e2806_ : g93 1100007 (g107 1046 0) = g93 1100007 (g100 1100023 (g100 1046 0)) := congrArg ((g93 1100007)) (la_stepBehind_289 h2452_)
      have e2807_ : g93 1100007 (g107 1046 0) = g93 1100007 (g100 1100025 (g100 1046 0)) := congrArg ((g93 1100007)) (la_stepBehind_289 h2452_)
      have e2808_ : g93 1100007 (g107 1100023 (g107 1046 0)) = g93 1100007 (g100 1046 0) := congrArg ((g93 1100007)) (la_stepBehind_289 h2452_)
      have e2809_ : g93 1100007 (g107 1100023 (g107 1046 0)) = g93 1100007 (g100 1100023 (g100 1046 0)) := congrArg ((g93 1100007)) (la_stepBehind_289 h2452_)
      have e2810_ : g93 1100007 (g107 1100023 (g107 1046 0)) = g93 1100007 (g100 1100025 (g100 1046 0)) := congrArg ((g93 1100007)) (la_stepBehind_289 h2452_)
      have e2811_ : g93 1100007 (g107 1100023 (g107 1046 0)) = g93 1100007 (g107 1046 0) := congrArg ((g93 1100007)) (la_stepBehind_289 h2452_)
      have e2812_ : g93 1100007 (g107 1100025 (g107 1046 0)) = g93 1100007 (g100 1046 0) := congrArg ((g93 1100007)) (la_stepBehind_289 h2452_)
      have e2813_ : g93 1100007 (g107 1100025 (g107 1046 0)) = g93 1100007 (g100 1100023 (g100 1046 0)) := congrArg ((g93 1100007)) (la_stepBehind_289 h2452_)
      have e2814_ : g93 1100007 (g107 1100025 (g107 1046 0)) = g93 1100007 (g100 1100025 (g100 1046 0)) := congrArg ((g93 1100007)) (la_stepBehind_289 h2452_)
      have e2815_ : g93 1100007 (g107 1100025 (g107 1046 0)) = g93 1100007 (g107 1046 0) := congrArg ((g93 1100007)) (la_stepBehind_289 h2452_)
      have e2816_ : g93 1100007 (g107 1100025 (g107 1046 0)) = g93 1100007 (g107 1100023 (g107 1046 0)) := congrArg ((g93 1100007)) (la_stepBehind_289 h2452_)
      have e2817_ : g93 1100007 (g93 1046 0) = g93 1100007 (g100 1046 0) := congrArg ((g93 1100007)) (la_stepBehind_289 h2452_)
      have e2818_ : g93 1100007 (g93 1046 0) = g93 1100007 (g100 1100023 (g100 1046 0)) := congrArg ((g93 1100007)) (la_stepBehind_289 h2452_)
      have e2819_ : g93 1100007 (g93 1046 0) = g93 1100007 (g100 1100025 (g100 1046 0)) := congrArg ((g93 1100007)) (la_stepBehind_289 h2452_)
      have e2820_ : g93 1100007 (g93 1046 0) = g93 1100007 (g107 1046 0) := congrArg ((g93 1100007)) (la_stepBehind_289 h2452_)
      have e2821_ : g93 1100007 (g93 1046 0) = g93 1100007 (g107 1100023 (g107 1046 0)) := congrArg ((g93 1100007)) (la_stepBehind_289 h2452_)
      have e2822_ : g93 1100007 (g93 1046 0) = g93 1100007 (g107 1100025 (g107 1046 0)) := congrArg ((g93 1100007)) (la_stepBehind_289 h2452_)
      have e2823_ : g93 1100007 (g93 1100023 (g93 1046 0)) = g93 1100007 (g100 1046 0) := congrArg ((g93 1100007)) (la_stepBehind_289 h2452_)
      have e2824_ : g93 1100007 (g93 1100023 (g93 1046 0)) = g93 1100007 (g100 1100023 (g100 1046 0)) := congrArg ((g93 1100007)) (la_stepBehind_289 h2452_)
      have e2825_ : g93 1100007 (g93 1100023 (g93 1046 0)) = g93 1100007 (g100 1100025 (g100 1046 0)) := congrArg ((g93 1100007)) (la_stepBehind_289 h2452_)
      have e2826_ : g93 1100007 (g93 1100023 (g93 1046 0)) = g93 1100007 (g107 1046 0) := congrArg ((g93 1100007)) (la_stepBehind_289 h2452_)
      have e2827_ : g93 1100007 (g93 1100023 (g93 1046 0)) = g93 1100007 (g107 1100023 (g107 1046 0)) := congrArg ((g93 1100007)) (la_stepBehind_289 h2452_)
      have e2828_ : g93 1100007 (g93 1100023 (g93 1046 0)) = g93 1100007 (g107 1100025 (g107 1046 0)) := congrArg ((g93 1100007)) (la_stepBehind_289 h2452_)
      have e2829_ : g93 1100007 (g93 1100023 (g93 1046 0)) = g93 1100007 (g93 1046 0) := congrArg ((g93 1100007)) (la_stepBehind_289 h2452_)
      have e2830_ : g93 1100007 (g93 1100023 (g93 1100023 (g93 1046 0))) = g93 1100007 (g100 1046 0) := congrArg ((g93 1100007)) (la_stepBehind_289 h2452_)
      have e2831_ : g93 1100007 (g93 1100023 (g93 1100023 (g93 1046 0))) = g93 1100007 (g100 1100023 (g100 1046 0)) := congrArg ((g93 1100007)) (la_stepBehind_289 h2452_)
      have e2832_ : g93 1100007 (g93 1100023 (g93 1100023 (g93 1046 0))) = g93 1100007 (g100 1100025 (g100 1046 0)) := congrArg ((g93 1100007)) (la_stepBehind_289 h2452_)
      have e2833_ : g93 1100007 (g93 1100023 (g93 1100023 (g93 1046 0))) = g93 1100007 (g107 1046 0) := congrArg ((g93 1100007)) (la_stepBehind_289 h2452_)
      have e2834_ : g93 1100007 (g93 1100023 (g93 1100023 (g93 1046 0))) = g93 1100007 (g107 1100023 (g107 1046 0)) := congrArg ((g93 1100007)) (la_stepBehind_289 h2452_)
      have e2835_ : g93 1100007 (g93 1100023 (g93 1100023 (g93 1046 0))) = g93 1100007 (g107 1100025 (g107 1046 0)) := congrArg ((g93 1100007)) (la_stepBehind_289 h2452_)
      have e2836_ : g93 1100007 (g93 1100023 (g93 1100023 (g93 1046 0))) = g93 1100007 (g93 1046 0) := congrArg ((g93 1100007)) (la_stepBehind_289 h2452_)
      have e2837_ : g93 1100007 (g93 1100023 (g93 1100023 (g93 1046 0))) = g93 1100007 (g93 1100023 (g93 1046 0)) := congrArg ((g93 1100007)) (la_stepBehind_289 h2452_)
      have e2838_ : g93 1100007 (g93 1100025 (g93 1046 0)) = g93 1100007 (g100 1046 0) := congrArg ((g93 1100007)) (la_stepBehind_289 h2452_)
      have e2839_ : g93 1100007 (g93 1100025 (g93 1046 0)) = g93 1100007 (g100 1100023 (g100 1046 0)) := congrArg ((g93 1100007)) (la_stepBehind_289 h2452_)
      have e2840_ : g93 1100007 (g93 1100025 (g93 1046 0)) = g93 1100007 (g100 1100025 (g100 1046 0)) := congrArg ((g93 1100007)) (la_stepBehind_289 h2452_)
      have e2841_ : g93 1100007 (g93 1100025 (g93 1046 0)) = g93 1100007 (g107 1046 0) := congrArg ((g93 1100007)) (la_stepBehind_289 h2452_)
      have e2842_ : g93 1100007 (g93 1100025 (g93 1046 0)) = g93 1100007 (g107 1100023 (g107 1046 0)) := congrArg ((g93 1100007)) (la_stepBehind_289 h2452_)
      have e2843_ : g93 1100007 (g93 1100025 (g93 1046 0)) = g93 1100007 (g107 1100025 (g107 1046 0)) := congrArg ((g93 1100007)) (la_stepBehind_289 h2452_)
      have e2844_ : g93 1100007 (g93 1100025 (g93 1046 0)) = g93 1100007 (g93 1046 0) := congrArg ((g93 1100007)) (la_stepBehind_289 h2452_)
      have e2845_ : g93 1100007 (g93 1100025 (g93 1046 0)) = g93 1100007 (g93 1100023 (g93 1046 0)) := congrArg ((g93 1100007)) (la_stepBehind_289 h2452_)
      have e2846_ : g93 1100007 (g93 1100025 (g93 1046 0)) = g93 1100007 (g93 1100023 (g93 1100023 (g93 1046 0))) := congrArg ((g93 1100007)) (la_stepBehind_289 h2452_)
      have e2847_ : g93 1100023 (g107 1046 0) = g93 1100023 (g100 1046 0) := congrArg ((g93 1100023)) (la_stepBehind_289 h2452_)
      have e2848_ : g93 1100023 (g93 1046 0) = g93 1100023 (g100 1046 0) := congrArg ((g93 1100023)) (la_stepBehind_289 h2452_)
      have e2849_ : g93 1100023 (g93 1046 0) = g93 1100023 (g107 1046 0) := congrArg ((g93 1100023)) (la_stepBehind_289 h2452_)
      have e2850_ : g93 1100023 (g93 1100023 (g93 1046 0)) = g93 1100023 (g100 1046 0) := congrArg ((g93 1100023)) (la_stepBehind_289 h2452_)
      have e2851_ : g93 1100023 (g93 1100023 (g93 1046 0)) = g93 1100023 (g107 1046 0) := congrArg ((g93 1100023)) (la_stepBehind_289 h2452_)
      have e2852_ : g93 1100023 (g93 1100023 (g93 1046 0)) = g93 1100023 (g93 1046 0) := congrArg ((g93 1100023)) (la_stepBehind_289 h2452_)
      have e2853_ : g93 1100024 (g107 1046 0) = g93 1100024 (g100 1046 0) := congrArg ((g93 1100024)) (la_stepBehind_289 h2452_)
      have e2854_ : g93 1100024 (g93 1046 0) = g93 1100024 (g100 1046 0) := congrArg ((g93 1100024)) (la_stepBehind_289 h2452_)
      have e2855_ : g93 1100024 (g93 1046 0) = g93 1100024 (g107 1046 0) := congrArg ((g93 1100024)) (la_stepBehind_289 h2452_)
      have e2856_ : g93 1100025 (g107 1046 0) = g93 1100025 (g100 1046 0) := congrArg ((g93 1100025)) (la_stepBehind_289 h2452_)
      have e2857_ : g93 1100025 (g93 1046 0) = g93 1100025 (g100 1046 0) := congrArg ((g93 1100025)) (la_stepBehind_289 h2452_)
      have e2858_ : g93 1100025 (g93 1046 0) = g93 1100025 (g107 1046 0) := congrArg ((g93 1100025)) (la_stepBehind_289 h2452_)
      have e2859_ : g93 1100025 (g93 1100025 (g93 1046 0)) = g93 1100025 (g100 1046 0) := congrArg ((g93 1100025)) (la_stepBehind_289 h2452_)
      have e2860_ : g93 1100025 (g93 1100025 (g93 1046 0)) = g93 1100025 (g107 1046 0) := congrArg ((g93 1100025)) (la_stepBehind_289 h2452_)
      have e2861_ : g93 1100025 (g93 1100025 (g93 1046 0)) = g93 1100025 (g93 1046 0) := congrArg ((g93 1100025)) (la_stepBehind_289 h2452_)
      have e2862_ : g93 26 (g85 1046 0) = g93 26 (g100 1046 0) := congrArg ((g93 26)) (la_stepBehind_289 h2452_)
      have e2863_ : g93 26 (g93 1046 0) = g93 26 (g100 1046 0) := congrArg ((g93 26)) (la_stepBehind_289 h2452_)
      have e2864_ : g93 26 (g93 1046 0) = g93 26 (g85 1046 0) := congrArg ((g93 26)) (la_stepBehind_289 h2452_)
      have e2865_ : g93 29 (g85 1046 0) = g93 29 (g100 1046 0) := congrArg ((g93 29)) (la_stepBehind_289 h2452_)
      have e2866_ : g93 29 (g93 1046 0) = g93 29 (g100 1046 0) := congrArg ((g93 29)) (la_stepBehind_289 h2452_)
      have e2867_ : g93 29 (g93 1046 0) = g93 29 (g85 1046 0) := congrArg ((g93 29)) (la_stepBehind_289 h2452_)
      have e2868_ : S 1100023 (g100 1046 0) = S 1100023 (S 1046 0) := congrArg ((S 1100023)) (la_stepBehind_289 h2452_)
      have e2869_ : S 1100023 (g107 1046 0) = S 1100023 (S 1046 0) := congrArg ((S 1100023)) (la_stepBehind_289 h2452_)
      have e2870_ : S 1100023 (g107 1046 0) = S 1100023 (g100 1046 0) := congrArg ((S 1100023)) (la_stepBehind_289 h2452_)
      have e2871_ : S 1100023 (g75 1046 0) = S 1100023 (g100 1046 0) := congrArg ((S 1100023)) (la_stepBehind_289 h2452_)
      have e2872_ : S 1100023 (g75 1046 0) = S 1100023 (g107 1046 0) := congrArg ((S 1100023)) (la_stepBehind_289 h2452_)
      have e2873_ : S 1100023 (g85 1046 0) = S 1100023 (g100 1046 0) := congrArg ((S 1100023)) (la_stepBehind_289 h2452_)
      have e2874_ : S 1100023 (g85 1046 0) = S 1100023 (g107 1046 0) := congrArg ((S 1100023)) (la_stepBehind_289 h2452_)
      have e2875_ : S 1100023 (g85 1100023 (g85 1046 0)) = S 1100023 (S 1046 0) := congrArg ((S 1100023)) (la_stepBehind_289 h2452_)
      have e2876_ : S 1100023 (g85 1100023 (g85 1046 0)) = S 1100023 (g100 1046 0) := congrArg ((S 1100023)) (la_stepBehind_289 h2452_)
      have e2877_ : S 1100023 (g85 1100023 (g85 1046 0)) = S 1100023 (g107 1046 0) := congrArg ((S 1100023)) (la_stepBehind_289 h2452_)
      have e2878_ : S 1100023 (g85 1100023 (g85 1046 0)) = S 1100023 (g75 1046 0) := congrArg ((S 1100023)) (la_stepBehind_289 h2452_)
      have e2879_ : S 1100023 (g85 1100023 (g85 1046 0)) = S 1100023 (g85 1046 0) := congrArg ((S 1100023)) (la_stepBehind_289 h2452_)
      have e2880_ : S 1100023 (g93 1046 0) = S 1100023 (g100 1046 0) := congrArg ((S 1100023)) (la_stepBehind_289 h2452_)
      have e2881_ : S 1100023 (g93 1046 0) = S 1100023 (g107 1046 0) := congrArg ((S 1100023)) (la_stepBehind_289 h2452_)
      have e2882_ : S 1100023 (g93 1046 0) = S 1100023 (g85 1100023 (g85 1046 0)) := congrArg ((S 1100023)) (la_stepBehind_289 h2452_)
      have e2883_ : S 1100023 (g93 1100023 (g93 1046 0)) = S 1100023 (S 1046 0) := congrArg ((S 1100023)) (la_stepBehind_289 h2452_)
      have e2884_ : S 1100023 (g93 1100023 (g93 1046 0)) = S 1100023 (g100 1046 0) := congrArg ((S 1100023)) (la_stepBehind_289 h2452_)
      have e2885_ : S 1100023 (g93 1100023 (g93 1046 0)) = S 1100023 (g107 1046 0) := congrArg ((S 1100023)) (la_stepBehind_289 h2452_)
      have e2886_ : S 1100023 (g93 1100023 (g93 1046 0)) = S 1100023 (g75 1046 0) := congrArg ((S 1100023)) (la_stepBehind_289 h2452_)
      have e2887_ : S 1100023 (g93 1100023 (g93 1046 0)) = S 1100023 (g85 1046 0) := congrArg ((S 1100023)) (la_stepBehind_289 h2452_)
      have e2888_ : S 1100023 (g93 1100023 (g93 1046 0)) = S 1100023 (g85 1100023 (g85 1046 0)) := congrArg ((S 1100023)) (la_stepBehind_289 h2452_)
      have e2889_ : S 1100023 (g93 1100023 (g93 1046 0)) = S 1100023 (g93 1046 0) := congrArg ((S 1100023)) (la_stepBehind_289 h2452_)
      have e2890_ : S 1100024 (g100 1046 0) = S 1100024 (S 1046 0) := congrArg ((S 1100024)) (la_stepBehind_289 h2452_)
      have e2891_ : S 1100024 (g107 1046 0) = S 1100024 (S 1046 0) := congrArg ((S 1100024)) (la_stepBehind_289 h2452_)
      have e2892_ : S 1100024 (g107 1046 0) = S 1100024 (g100 1046 0) := congrArg ((S 1100024)) (la_stepBehind_289 h2452_)
      have e2893_ : S 1100024 (g75 1046 0) = S 1100024 (g100 1046 0) := congrArg ((S 1100024)) (la_stepBehind_289 h2452_)
      have e2894_ : S 1100024 (g75 1046 0) = S 1100024 (g107 1046 0) := congrArg ((S 1100024)) (la_stepBehind_289 h2452_)
      have e2895_ : S 1100024 (g85 1046 0) = S 1100024 (g100 1046 0) := congrArg ((S 1100024)) (la_stepBehind_289 h2452_)
      have e2896_ : S 1100024 (g85 1046 0) = S 1100024 (g107 1046 0) := congrArg ((S 1100024)) (la_stepBehind_289 h2452_)
      have e2897_ : S 1100024 (g93 1046 0) = S 1100024 (g100 1046 0) := congrArg ((S 1100024)) (la_stepBehind_289 h2452_)
      have e2898_ : S 1100024 (g93 1046 0) = S 1100024 (g107 1046 0) := congrArg ((S 1100024)) (la_stepBehind_289 h2452_)
      have e2899_ : S 1100025 (g100 1046 0) = S 1100025 (S 1046 0) := congrArg ((S 1100025)) (la_stepBehind_289 h2452_)
      have e2900_ : S 1100025 (g107 1046 0) = S 1100025 (S 1046 0) := congrArg ((S 1100025)) (la_stepBehind_289 h2452_)
      have e2901_ : S 1100025 (g107 1046 0) = S 1100025 (g100 1046 0) := congrArg ((S 1100025)) (la_stepBehind_289 h2452_)
      have e2902_ : S 1100025 (g75 1046 0) = S 1100025 (g100 1046 0) := congrArg ((S 1100025)) (la_stepBehind_289 h2452_)
      have e2903_ : S 1100025 (g75 1046 0) = S 1100025 (g107 1046 0) := congrArg ((S 1100025)) (la_stepBehind_289 h2452_)
      have e2904_ : S 1100025 (g85 1046 0) = S 1100025 (g100 1046 0) := congrArg ((S 1100025)) (la_stepBehind_289 h2452_)
      have e2905_ : S 1100025 (g85 1046 0) = S 1100025 (g107 1046 0) := congrArg ((S 1100025)) (la_stepBehind_289 h2452_)
      have e2906_ : S 1100025 (g85 1100025 (g85 1046 0)) = S 1100025 (S 1046 0) := congrArg ((S 1100025)) (la_stepBehind_289 h2452_)
      have e2907_ : S 1100025 (g85 1100025 (g85 1046 0)) = S 1100025 (g100 1046 0) := congrArg ((S 1100025)) (la_stepBehind_289 h2452_)
      have e2908_ : S 1100025 (g85 1100025 (g85 1046 0)) = S 1100025 (g107 1046 0) := congrArg ((S 1100025)) (la_stepBehind_289 h2452_)
      have e2909_ : S 1100025 (g85 1100025 (g85 1046 0)) = S 1100025 (g75 1046 0) := congrArg ((S 1100025)) (la_stepBehind_289 h2452_)
      have e2910_ : S 1100025 (g85 1100025 (g85 1046 0)) = S 1100025 (g85 1046 0) := congrArg ((S 1100025)) (la_stepBehind_289 h2452_)
      have e2911_ : S 1100025 (g93 1046 0) = S 1100025 (g100 1046 0) := congrArg ((S 1100025)) (la_stepBehind_289 h2452_)
      have e2912_ : S 1100025 (g93 1046 0) = S 1100025 (g107 1046 0) := congrArg ((S 1100025)) (la_stepBehind_289 h2452_)
      have e2913_ : S 1100025 (g93 1046 0) = S 1100025 (g85 1100025 (g85 1046 0)) := congrArg ((S 1100025)) (la_stepBehind_289 h2452_)
      have e2914_ : S 1100025 (g93 1100025 (g93 1046 0)) = S 1100025 (S 1046 0) := congrArg ((S 1100025)) (la_stepBehind_289 h2452_)
      have e2915_ : S 1100025 (g93 1100025 (g93 1046 0)) = S 1100025 (g100 1046 0) := congrArg ((S 1100025)) (la_stepBehind_289 h2452_)
      have e2916_ : S 1100025 (g93 1100025 (g93 1046 0)) = S 1100025 (g107 1046 0) := congrArg ((S 1100025)) (la_stepBehind_289 h2452_)
      have e2917_ : S 1100025 (g93 1100025 (g93 1046 0)) = S 1100025 (g75 1046 0) := congrArg ((S 1100025)) (la_stepBehind_289 h2452_)
      have e2918_ : S 1100025 (g93 1100025 (g93 1046 0)) = S 1100025 (g85 1046 0) := congrArg ((S 1100025)) (la_stepBehind_289 h2452_)
      have e2919_ : S 1100025 (g93 1100025 (g93 1046 0)) = S 1100025 (g85 1100025 (g85 1046 0)) := congrArg ((S 1100025)) (la_stepBehind_289 h2452_)
      have e2920_ : S 1100025 (g93 1100025 (g93 1046 0)) = S 1100025 (g93 1046 0) := congrArg ((S 1100025)) (la_stepBehind_289 h2452_)
      have e2921_ : S 26 (g85 1046 0) = S 26 (g100 1046 0) := congrArg ((S 26)) (la_stepBehind_289 h2452_)
      have e2922_ : S 26 (g93 1046 0) = S 26 (g100 1046 0) := congrArg ((S 26)) (la_stepBehind_289 h2452_)
      have e2923_ : S 26 (g93 1046 0) = S 26 (g85 1046 0) := congrArg ((S 26)) (la_stepBehind_289 h2452_)
      have e2924_ : S 29 (g85 1046 0) = S 29 (g100 1046 0) := congrArg ((S 29)) (la_stepBehind_289 h2452_)
      have e2925_ : S 29 (g93 1046 0) = S 29 (g100 1046 0) := congrArg ((S 29)) (la_stepBehind_289 h2452_)
      have e2926_ : S 29 (g93 1046 0) = S 29 (g85 1046 0) := congrArg ((S 29)) (la_stepBehind_289 h2452_)
      have e2927_ : g100 1100023 (g107 1100023 (g107 1046 0)) = g100 1100023 (g100 1046 0) := congrArg ((g100 1100023)) (la_stepBehind_289 h2452_)
      have e2928_ : g100 1100023 (g107 1100023 (g107 1046 0)) = g100 1100023 (g100 1100023 (g100 1046 0)) := congrArg ((g100 1100023)) (la_stepBehind_289 h2452_)
      have e2929_ : g100 1100023 (g107 1100023 (g107 1046 0)) = g100 1100023 (g107 1046 0) := congrArg ((g100 1100023)) (la_stepBehind_289 h2452_)
      have e2930_ : g100 1100025 (g107 1100025 (g107 1046 0)) = g100 1100025 (g100 1046 0) := congrArg ((g100 1100025)) (la_stepBehind_289 h2452_)
      have e2931_ : g100 1100025 (g107 1100025 (g107 1046 0)) = g100 1100025 (g100 1100025 (g100 1046 0)) := congrArg ((g100 1100025)) (la_stepBehind_289 h2452_)
      have e2932_ : g100 1100025 (g107 1100025 (g107 1046 0)) = g100 1100025 (g107 1046 0) := congrArg ((g100 1100025)) (la_stepBehind_289 h2452_)
      have e2933_ : g75 1100023 (g100 1100023 (g100 1046 0)) = g75 1100023 (g100 1046 0) := congrArg ((g75 1100023)) (la_stepBehind_289 h2452_)
      have e2934_ : g75 1100023 (g107 1046 0) = g75 1100023 (g100 1046 0) := congrArg ((g75 1100023)) (la_stepBehind_289 h2452_)
      have e2935_ : g75 1100023 (g107 1046 0) = g75 1100023 (g100 1100023 (g100 1046 0)) := congrArg ((g75 1100023)) (la_stepBehind_289 h2452_)
      have e2936_ : g75 1100023 (g75 1046 0) = g75 1100023 (g100 1100023 (g100 1046 0)) := congrArg ((g75 1100023)) (la_stepBehind_289 h2452_)
      have e2937_ : g75 1100023 (g75 1046 0) = g75 1100023 (g107 1046 0) := congrArg ((g75 1100023)) (la_stepBehind_289 h2452_)
      have e2938_ : g75 1100023 (g85 1046 0) = g75 1100023 (g100 1100023 (g100 1046 0)) := congrArg ((g75 1100023)) (la_stepBehind_289 h2452_)
      have e2939_ : g75 1100023 (g85 1046 0) = g75 1100023 (g107 1046 0) := congrArg ((g75 1100023)) (la_stepBehind_289 h2452_)
      have e2940_ : g75 1100023 (g85 1100023 (g85 1046 0)) = g75 1100023 (g100 1046 0) := congrArg ((g75 1100023)) (la_stepBehind_289 h2452_)
      have e2941_ : g75 1100023 (g85 1100023 (g85 1046 0)) = g75 1100023 (g100 1100023 (g100 1046 0)) := congrArg ((g75 1100023)) (la_stepBehind_289 h2452_)
      have e2942_ : g75 1100023 (g85 1100023 (g85 1046 0)) = g75 1100023 (g107 1046 0) := congrArg ((g75 1100023)) (la_stepBehind_289 h2452_)
      have e2943_ : g75 1100023 (g85 1100023 (g85 1046 0)) = g75 1100023 (g75 1046 0) := congrArg ((g75 1100023)) (la_stepBehind_289 h2452_)
      have e2944_ : g75 1100023 (g85 1100023 (g85 1046 0)) = g75 1100023 (g85 1046 0) := congrArg ((g75 1100023)) (la_stepBehind_289 h2452_)
      have e2945_ : g75 1100023 (g93 1046 0) = g75 1100023 (g100 1100023 (g100 1046 0)) := congrArg ((g75 1100023)) (la_stepBehind_289 h2452_)
      have e2946_ : g75 1100023 (g93 1046 0) = g75 1100023 (g107 1046 0) := congrArg ((g75 1100023)) (la_stepBehind_289 h2452_)
      have e2947_ : g75 1100023 (g93 1046 0) = g75 1100023 (g85 1100023 (g85 1046 0)) := congrArg ((g75 1100023)) (la_stepBehind_289 h2452_)
      have e2948_ : g75 1100023 (g93 1100023 (g93 1046 0)) = g75 1100023 (g100 1046 0) := congrArg ((g75 1100023)) (la_stepBehind_289 h2452_)
      have e2949_ : g75 1100023 (g93 1100023 (g93 1046 0)) = g75 1100023 (g100 1100023 (g100 1046 0)) := congrArg ((g75 1100023)) (la_stepBehind_289 h2452_)
      have e2950_ : g75 1100023 (g93 1100023 (g93 1046 0)) = g75 1100023 (g107 1046 0) := congrArg ((g75 1100023)) (la_stepBehind_289 h2452_)
      have e2951_ : g75 1100023 (g93 1100023 (g93 1046 0)) = g75 1100023 (g75 1046 0) := congrArg ((g75 1100023)) (la_stepBehind_289 h2452_)
      have e2952_ : g75 1100023 (g93 1100023 (g93 1046 0)) = g75 1100023 (g85 1046 0) := congrArg ((g75 1100023)) (la_stepBehind_289 h2452_)
      have e2953_ : g75 1100023 (g93 1100023 (g93 1046 0)) = g75 1100023 (g85 1100023 (g85 1046 0)) := congrArg ((g75 1100023)) (la_stepBehind_289 h2452_)
      have e2954_ : g75 1100023 (g93 1100023 (g93 1046 0)) = g75 1100023 (g93 1046 0) := congrArg ((g75 1100023)) (la_stepBehind_289 h2452_)
      have e2955_ : g75 1100024 (g107 1046 0) = g75 1100024 (g100 1046 0) := congrArg ((g75 1100024)) (la_stepBehind_289 h2452_)
      have e2956_ : g75 1100024 (g75 1046 0) = g75 1100024 (g107 1046 0) := congrArg ((g75 1100024)) (la_stepBehind_289 h2452_)
      have e2957_ : g75 1100024 (g85 1046 0) = g75 1100024 (g107 1046 0) := congrArg ((g75 1100024)) (la_stepBehind_289 h2452_)
      have e2958_ : g75 1100024 (g93 1046 0) = g75 1100024 (g107 1046 0) := congrArg ((g75 1100024)) (la_stepBehind_289 h2452_)
      have e2959_ : g75 1100025 (g100 1100025 (g100 1046 0)) = g75 1100025 (g100 1046 0) := congrArg ((g75 1100025)) (la_stepBehind_289 h2452_)
      have e2960_ : g75 1100025 (g107 1046 0) = g75 1100025 (g100 1046 0) := congrArg ((g75 1100025)) (la_stepBehind_289 h2452_)
      have e2961_ : g75 1100025 (g107 1046 0) = g75 1100025 (g100 1100025 (g100 1046 0)) := congrArg ((g75 1100025)) (la_stepBehind_289 h2452_)
      have e2962_ : g75 1100025 (g75 1046 0) = g75 1100025 (g100 1100025 (g100 1046 0)) := congrArg ((g75 1100025)) (la_stepBehind_289 h2452_)
      have e2963_ : g75 1100025 (g75 1046 0) = g75 1100025 (g107 1046 0) := congrArg ((g75 1100025)) (la_stepBehind_289 h2452_)
      have e2964_ : g75 1100025 (g85 1046 0) = g75 1100025 (g100 1100025 (g100 1046 0)) := congrArg ((g75 1100025)) (la_stepBehind_289 h2452_)
      have e2965_ : g75 1100025 (g85 1046 0) = g75 1100025 (g107 1046 0) := congrArg ((g75 1100025)) (la_stepBehind_289 h2452_)
      have e2966_ : g75 1100025 (g85 1100025 (g85 1046 0)) = g75 1100025 (g100 1046 0) := congrArg ((g75 1100025)) (la_stepBehind_289 h2452_)
      have e2967_ : g75 1100025 (g85 1100025 (g85 1046 0)) = g75 1100025 (g100 1100025 (g100 1046 0)) := congrArg ((g75 1100025)) (la_stepBehind_289 h2452_)
      have e2968_ : g75 1100025 (g85 1100025 (g85 1046 0)) = g75 1100025 (g107 1046 0) := congrArg ((g75 1100025)) (la_stepBehind_289 h2452_)
      have e2969_ : g75 1100025 (g85 1100025 (g85 1046 0)) = g75 1100025 (g75 1046 0) := congrArg ((g75 1100025)) (la_stepBehind_289 h2452_)
      have e2970_ : g75 1100025 (g85 1100025 (g85 1046 0)) = g75 1100025 (g85 1046 0) := congrArg ((g75 1100025)) (la_stepBehind_289 h2452_)
      have e2971_ : g75 1100025 (g93 1046 0) = g75 1100025 (g100 1100025 (g100 1046 0)) := congrArg ((g75 1100025)) (la_stepBehind_289 h2452_)
      have e2972_ : g75 1100025 (g93 1046 0) = g75 1100025 (g107 1046 0) := congrArg ((g75 1100025)) (la_stepBehind_289 h2452_)
      have e2973_ : g75 1100025 (g93 1046 0) = g75 1100025 (g85 1100025 (g85 1046 0)) := congrArg ((g75 1100025)) (la_stepBehind_289 h2452_)
      have e2974_ : g75 1100025 (g93 1100025 (g93 1046 0)) = g75 1100025 (g100 1046 0) := congrArg ((g75 1100025)) (la_stepBehind_289 h2452_)
      have e2975_ : g75 1100025 (g93 1100025 (g93 1046 0)) = g75 1100025 (g100 1100025 (g100 1046 0)) := congrArg ((g75 1100025)) (la_stepBehind_289 h2452_)
      have e2976_ : g75 1100025 (g93 1100025 (g93 1046 0)) = g75 1100025 (g107 1046 0) := congrArg ((g75 1100025)) (la_stepBehind_289 h2452_)
      have e2977_ : g75 1100025 (g93 1100025 (g93 1046 0)) = g75 1100025 (g75 1046 0) := congrArg ((g75 1100025)) (la_stepBehind_289 h2452_)
      have e2978_ : g75 1100025 (g93 1100025 (g93 1046 0)) = g75 1100025 (g85 1046 0) := congrArg ((g75 1100025)) (la_stepBehind_289 h2452_)
      have e2979_ : g75 1100025 (g93 1100025 (g93 1046 0)) = g75 1100025 (g85 1100025 (g85 1046 0)) := congrArg ((g75 1100025)) (la_stepBehind_289 h2452_)
      have e2980_ : g75 1100025 (g93 1100025 (g93 1046 0)) = g75 1100025 (g93 1046 0) := congrArg ((g75 1100025)) (la_stepBehind_289 h2452_)
      have e2981_ : g75 26 (g85 1046 0) = g75 26 (g100 1046 0) := congrArg ((g75 26)) (la_stepBehind_289 h2452_)
      have e2982_ : g75 26 (g93 1046 0) = g75 26 (g100 1046 0) := congrArg ((g75 26)) (la_stepBehind_289 h2452_)
      have e2983_ : g75 29 (g85 1046 0) = g75 29 (g100 1046 0) := congrArg ((g75 29)) (la_stepBehind_289 h2452_)
      have e2984_ : g75 29 (g93 1046 0) = g75 29 (g100 1046 0) := congrArg ((g75 29)) (la_stepBehind_289 h2452_)
      have e2985_ : g85 1100023 (g100 1100023 (g100 1046 0)) = g85 1100023 (g100 1046 0) := congrArg ((g85 1100023)) (la_stepBehind_289 h2452_)
      have e2986_ : g85 1100023 (g107 1046 0) = g85 1100023 (g100 1100023 (g100 1046 0)) := congrArg ((g85 1100023)) (la_stepBehind_289 h2452_)
      have e2987_ : g85 1100023 (g107 1100023 (g107 1046 0)) = g85 1100023 (g100 1046 0) := congrArg ((g85 1100023)) (la_stepBehind_289 h2452_)
      have e2988_ : g85 1100023 (g107 1100023 (g107 1046 0)) = g85 1100023 (g100 1100023 (g100 1046 0)) := congrArg ((g85 1100023)) (la_stepBehind_289 h2452_)
      have e2989_ : g85 1100023 (g107 1100023 (g107 1046 0)) = g85 1100023 (g107 1046 0) := congrArg ((g85 1100023)) (la_stepBehind_289 h2452_)
      have e2990_ : g85 1100023 (g85 1046 0) = g85 1100023 (g100 1100023 (g100 1046 0)) := congrArg ((g85 1100023)) (la_stepBehind_289 h2452_)
      have e2991_ : g85 1100023 (g85 1046 0) = g85 1100023 (g107 1100023 (g107 1046 0)) := congrArg ((g85 1100023)) (la_stepBehind_289 h2452_)
      have e2992_ : g85 1100023 (g85 1100023 (g85 1046 0)) = g85 1100023 (g100 1100023 (g100 1046 0)) := congrArg ((g85 1100023)) (la_stepBehind_289 h2452_)
      have e2993_ : g85 1100023 (g85 1100023 (g85 1046 0)) = g85 1100023 (g107 1100023 (g107 1046 0)) := congrArg ((g85 1100023)) (la_stepBehind_289 h2452_)
      have e2994_ : g85 1100023 (g93 1046 0) = g85 1100023 (g100 1100023 (g100 1046 0)) := congrArg ((g85 1100023)) (la_stepBehind_289 h2452_)
      have e2995_ : g85 1100023 (g93 1046 0) = g85 1100023 (g107 1100023 (g107 1046 0)) := congrArg ((g85 1100023)) (la_stepBehind_289 h2452_)
      have e2996_ : g85 1100023 (g93 1100023 (g93 1046 0)) = g85 1100023 (g100 1046 0) := congrArg ((g85 1100023)) (la_stepBehind_289 h2452_)
      have e2997_ : g85 1100023 (g93 1100023 (g93 1046 0)) = g85 1100023 (g100 1100023 (g100 1046 0)) := congrArg ((g85 1100023)) (la_stepBehind_289 h2452_)
      have e2998_ : g85 1100023 (g93 1100023 (g93 1046 0)) = g85 1100023 (g107 1046 0) := congrArg ((g85 1100023)) (la_stepBehind_289 h2452_)
      have e2999_ : g85 1100023 (g93 1100023 (g93 1046 0)) = g85 1100023 (g107 1100023 (g107 1046 0)) := congrArg ((g85 1100023)) (la_stepBehind_289 h2452_)
      have e3000_ : g85 1100023 (g93 1100023 (g93 1046 0)) = g85 1100023 (g85 1046 0) := congrArg ((g85 1100023)) (la_stepBehind_289 h2452_)
      have e3001_ : g85 1100023 (g93 1100023 (g93 1046 0)) = g85 1100023 (g85 1100023 (g85 1046 0)) := congrArg ((g85 1100023)) (la_stepBehind_289 h2452_)
      have e3002_ : g85 1100023 (g93 1100023 (g93 1046 0)) = g85 1100023 (g93 1046 0) := congrArg ((g85 1100023)) (la_stepBehind_289 h2452_)
      have e3003_ : g85 1100025 (g100 1100025 (g100 1046 0)) = g85 1100025 (g100 1046 0) := congrArg ((g85 1100025)) (la_stepBehind_289 h2452_)
      have e3004_ : g85 1100025 (g107 1046 0) = g85 1100025 (g100 1100025 (g100 1046 0)) := congrArg ((g85 1100025)) (la_stepBehind_289 h2452_)
      have e3005_ : g85 1100025 (g107 1100025 (g107 1046 0)) = g85 1100025 (g100 1046 0) := congrArg ((g85 1100025)) (la_stepBehind_289 h2452_)
      have e3006_ : g85 1100025 (g107 1100025 (g107 1046 0)) = g85 1100025 (g100 1100025 (g100 1046 0)) := congrArg ((g85 1100025)) (la_stepBehind_289 h2452_)
      have e3007_ : g85 1100025 (g107 1100025 (g107 1046 0)) = g85 1100025 (g107 1046 0) := congrArg ((g85 1100025)) (la_stepBehind_289 h2452_)
      have e3008_ : g85 1100025 (g85 1046 0) = g85 1100025 (g100 1100025 (g100 1046 0)) := congrArg ((g85 1100025)) (la_stepBehind_289 h2452_)
      have e3009_ : g85 1100025 (g85 1046 0) = g85 1100025 (g107 1100025 (g107 1046 0)) := congrArg ((g85 1100025)) (la_stepBehind_289 h2452_)
      have e3010_ : g85 1100025 (g85 1100025 (g85 1046 0)) = g85 1100025 (g100 1100025 (g100 1046 0)) := congrArg ((g85 1100025)) (la_stepBehind_289 h2452_)
      have e3011_ : g85 1100025 (g85 1100025 (g85 1046 0)) = g85 1100025 (g107 1100025 (g107 1046 0)) := congrArg ((g85 1100025)) (la_stepBehind_289 h2452_)
      have e3012_ : g85 1100025 (g93 1046 0) = g85 1100025 (g100 1100025 (g100 1046 0)) := congrArg ((g85 1100025)) (la_stepBehind_289 h2452_)
      have e3013_ : g85 1100025 (g93 1046 0) = g85 1100025 (g107 1100025 (g107 1046 0)) := congrArg ((g85 1100025)) (la_stepBehind_289 h2452_)
      have e3014_ : g85 1100025 (g93 1100025 (g93 1046 0)) = g85 1100025 (g100 1046 0) := congrArg ((g85 1100025)) (la_stepBehind_289 h2452_)
      have e3015_ : g85 1100025 (g93 1100025 (g93 1046 0)) = g85 1100025 (g100 1100025 (g100 1046 0)) := congrArg ((g85 1100025)) (la_stepBehind_289 h2452_)
      have e3016_ : g85 1100025 (g93 1100025 (g93 1046 0)) = g85 1100025 (g107 1046 0) := congrArg ((g85 1100025)) (la_stepBehind_289 h2452_)
      have e3017_ : g85 1100025 (g93 1100025 (g93 1046 0)) = g85 1100025 (g107 1100025 (g107 1046 0)) := congrArg ((g85 1100025)) (la_stepBehind_289 h2452_)
      have e3018_ : g85 1100025 (g93 1100025 (g93 1046 0)) = g85 1100025 (g85 1046 0) := congrArg ((g85 1100025)) (la_stepBehind_289 h2452_)
      have e3019_ : g85 1100025 (g93 1100025 (g93 1046 0)) = g85 1100025 (g85 1100025 (g85 1046 0)) := congrArg ((g85 1100025)) (la_stepBehind_289 h2452_)
      have e3020_ : g85 1100025 (g93 1100025 (g93 1046 0)) = g85 1100025 (g93 1046 0) := congrArg ((g85 1100025)) (la_stepBehind_289 h2452_)
      have e3021_ : g93 1100007 (g100 1100023 (g100 1100023 (g100 1046 0))) = g93 1100007 (g100 1046 0) := congrArg ((g93 1100007)) (la_stepBehind_289 h2452_)
      have e3022_ : g93 1100007 (g100 1100023 (g100 1100023 (g100 1046 0))) = g93 1100007 (g100 1100023 (g100 1046 0)) := congrArg ((g93 1100007)) e2592_
      have e3023_ : g93 1100007 (g100 1100025 (g100 1046 0)) = g93 1100007 (g100 1100023 (g100 1100023 (g100 1046 0))) := congrArg ((g93 1100007)) (la_stepBehind_289 h2452_)
      have e3024_ : g93 1100007 (g107 1046 0) = g93 1100007 (g100 1100023 (g100 1100023 (g100 1046 0))) := congrArg ((g93 1100007)) (la_stepBehind_289 h2452_)
      have e3025_ : g93 1100007 (g107 1100023 (g107 1046 0)) = g93 1100007 (g100 1100023 (g100 1100023 (g100 1046 0))) := congrArg ((g93 1100007)) (la_stepBehind_289 h2452_)
      have e3026_ : g93 1100007 (g107 1100025 (g107 1046 0)) = g93 1100007 (g100 1100023 (g100 1100023 (g100 1046 0))) := congrArg ((g93 1100007)) (la_stepBehind_289 h2452_)
      have e3027_ : g93 1100007 (g93 1046 0) = g93 1100007 (g100 1100023 (g100 1100023 (g100 1046 0))) := congrArg ((g93 1100007)) (la_stepBehind_289 h2452_)
      have e3028_ : g93 1100007 (g93 1100023 (g93 1046 0)) = g93 1100007 (g100 1100023 (g100 1100023 (g100 1046 0))) := congrArg ((g93 1100007)) (la_stepBehind_289 h2452_)
      have e3029_ : g93 1100007 (g93 1100023 (g93 1100023 (g93 1046 0))) = g93 1100007 (g100 1100023 (g100 1100023 (g100 1046 0))) := congrArg ((g93 1100007)) (la_stepBehind_289 h2452_)
      have e3030_ : g93 1100007 (g93 1100025 (g93 1046 0)) = g93 1100007 (g100 1100023 (g100 1100023 (g100 1046 0))) := congrArg ((g93 1100007)) (la_stepBehind_289 h2452_)
      have e3031_ : g93 1100023 (g100 1100023 (g100 1046 0)) = g93 1100023 (g100 1046 0) := congrArg ((g93 1100023)) (la_stepBehind_289 h2452_)
      have e3032_ : g93 1100023 (g107 1046 0) = g93 1100023 (g100 1100023 (g100 1046 0)) := congrArg ((g93 1100023)) (la_stepBehind_289 h2452_)
      have e3033_ : g93 1100023 (g107 1100023 (g107 1046 0)) = g93 1100023 (g100 1046 0) := congrArg ((g93 1100023)) (la_stepBehind_289 h2452_)
      have e3034_ : g93 1100023 (g107 1100023 (g107 1046 0)) = g93 1100023 (g100 1100023 (g100 1046 0)) := congrArg ((g93 1100023)) (la_stepBehind_289 h2452_)
      have e3035_ : g93 1100023 (g107 1100023 (g107 1046 0)) = g93 1100023 (g107 1046 0) := congrArg ((g93 1100023)) (la_stepBehind_289 h2452_)
      have e3036_ : g93 1100023 (g93 1046 0) = g93 1100023 (g100 1100023 (g100 1046 0)) := congrArg ((g93 1100023)) (la_stepBehind_289 h2452_)
      have e3037_ : g93 1100023 (g93 1046 0) = g93 1100023 (g107 1100023 (g107 1046 0)) := congrArg ((g93 1100023)) (la_stepBehind_289 h2452_)
      have e3038_ : g93 1100023 (g93 1100023 (g93 1046 0)) = g93 1100023 (g100 1100023 (g100 1046 0)) := congrArg ((g93 1100023)) (la_stepBehind_289 h2452_)
      have e3039_ : g93 1100023 (g93 1100023 (g93 1046 0)) = g93 1100023 (g107 1100023 (g107 1046 0)) := congrArg ((g93 1100023)) (la_stepBehind_289 h2452_)
      have e3040_ : g93 1100025 (g100 1100025 (g100 1046 0)) = g93 1100025 (g100 1046 0) := congrArg ((g93 1100025)) (la_stepBehind_289 h2452_)
      have e3041_ : g93 1100025 (g107 1046 0) = g93 1100025 (g100 1100025 (g100 1046 0)) := congrArg ((g93 1100025)) (la_stepBehind_289 h2452_)
      have e3042_ : g93 1100025 (g107 1100025 (g107 1046 0)) = g93 1100025 (g100 1046 0) := congrArg ((g93 1100025)) (la_stepBehind_289 h2452_)
      have e3043_ : g93 1100025 (g107 1100025 (g107 1046 0)) = g93 1100025 (g100 1100025 (g100 1046 0)) := congrArg ((g93 1100025)) (la_stepBehind_289 h2452_)
      have e3044_ : g93 1100025 (g107 1100025 (g107 1046 0)) = g93 1100025 (g107 1046 0) := congrArg ((g93 1100025)) (la_stepBehind_289 h2452_)
      have e3045_ : g93 1100025 (g93 1046 0) = g93 1100025 (g100 1100025 (g100 1046 0)) := congrArg ((g93 1100025)) (la_stepBehind_289 h2452_)
      have e3046_ : g93 1100025 (g93 1046 0) = g93 1100025 (g107 1100025 (g107 1046 0)) := congrArg ((g93 1100025)) (la_stepBehind_289 h2452_)
      have e3047_ : g93 1100025 (g93 1100025 (g93 1046 0)) = g93 1100025 (g100 1100025 (g100 1046 0)) := congrArg ((g93 1100025)) (la_stepBehind_289 h2452_)
      have e3048_ : g93 1100025 (g93 1100025 (g93 1046 0)) = g93 1100025 (g107 1100025 (g107 1046 0)) := congrArg ((g93 1100025)) (la_stepBehind_289 h2452_)
      have e3049_ : S 1100023 (g100 1100023 (g100 1046 0)) = S 1100023 (S 1046 0) := congrArg ((S 1100023)) (la_stepBehind_289 h2452_)
      have e3050_ : S 1100023 (g100 1100023 (g100 1046 0)) = S 1100023 (g100 1046 0) := congrArg ((S 1100023)) (la_stepBehind_289 h2452_)
      have e3051_ : S 1100023 (g107 1046 0) = S 1100023 (g100 1100023 (g100 1046 0)) := congrArg ((S 1100023)) (la_stepBehind_289 h2452_)
      have e3052_ : S 1100023 (g107 1100023 (g107 1046 0)) = S 1100023 (S 1046 0) := congrArg ((S 1100023)) (la_stepBehind_289 h2452_)
      have e3053_ : S 1100023 (g107 1100023 (g107 1046 0)) = S 1100023 (g100 1046 0) := congrArg ((S 1100023)) (la_stepBehind_289 h2452_)
      have e3054_ : S 1100023 (g107 1100023 (g107 1046 0)) = S 1100023 (g100 1100023 (g100 1046 0)) := congrArg ((S 1100023)) (la_stepBehind_289 h2452_)
      have e3055_ : S 1100023 (g107 1100023 (g107 1046 0)) = S 1100023 (g107 1046 0) := congrArg ((S 1100023)) (la_stepBehind_289 h2452_)
      have e3056_ : S 1100023 (g75 1046 0) = S 1100023 (g100 1100023 (g100 1046 0)) := congrArg ((S 1100023)) (la_stepBehind_289 h2452_)
      have e3057_ : S 1100023 (g75 1046 0) = S 1100023 (g107 1100023 (g107 1046 0)) := congrArg ((S 1100023)) (la_stepBehind_289 h2452_)
      have e3058_ : S 1100023 (g85 1046 0) = S 1100023 (g100 1100023 (g100 1046 0)) := congrArg ((S 1100023)) (la_stepBehind_289 h2452_)
      have e3059_ : S 1100023 (g85 1046 0) = S 1100023 (g107 1100023 (g107 1046 0)) := congrArg ((S 1100023)) (la_stepBehind_289 h2452_)
      have e3060_ : S 1100023 (g85 1100023 (g85 1046 0)) = S 1100023 (g100 1100023 (g100 1046 0)) := congrArg ((S 1100023)) (la_stepBehind_289 h2452_)
      have e3061_ : S 1100023 (g85 1100023 (g85 1046 0)) = S 1100023 (g107 1100023 (g107 1046 0)) := congrArg ((S 1100023)) (la_stepBehind_289 h2452_)
      have e3062_ : S 1100023 (g93 1046 0) = S 1100023 (g100 1100023 (g100 1046 0)) := congrArg ((S 1100023)) (la_stepBehind_289 h2452_)
      have e3063_ : S 1100023 (g93 1046 0) = S 1100023 (g107 1100023 (g107 1046 0)) := congrArg ((S 1100023)) (la_stepBehind_289 h2452_)
      have e3064_ : S 1100023 (g93 1100023 (g93 1046 0)) = S 1100023 (g100 1100023 (g100 1046 0)) := congrArg ((S 1100023)) (la_stepBehind_289 h2452_)
      have e3065_ : S 1100023 (g93 1100023 (g93 1046 0)) = S 1100023 (g107 1100023 (g107 1046 0)) := congrArg ((S 1100023)) (la_stepBehind_289 h2452_)
      have e3066_ : S 1100025 (g100 1100025 (g100 1046 0)) = S 1100025 (S 1046 0) := congrArg ((S 1100025)) (la_stepBehind_289 h2452_)
      have e3067_ : S 1100025 (g100 1100025 (g100 1046 0)) = S 1100025 (g100 1046 0) := congrArg ((S 1100025)) (la_stepBehind_289 h2452_)
      have e3068_ : S 1100025 (g107 1046 0) = S 1100025 (g100 1100025 (g100 1046 0)) := congrArg ((S 1100025)) (la_stepBehind_289 h2452_)
      have e3069_ : S 1100025 (g107 1100025 (g107 1046 0)) = S 1100025 (S 1046 0) := congrArg ((S 1100025)) (la_stepBehind_289 h2452_)
      have e3070_ : S 1100025 (g107 1100025 (g107 1046 0)) = S 1100025 (g100 1046 0) := congrArg ((S 1100025)) (la_stepBehind_289 h2452_)
      have e3071_ : S 1100025 (g107 1100025 (g107 1046 0)) = S 1100025 (g100 1100025 (g100 1046 0)) := congrArg ((S 1100025)) (la_stepBehind_289 h2452_)
      have e3072_ : S 1100025 (g107 1100025 (g107 1046 0)) = S 1100025 (g107 1046 0) := congrArg ((S 1100025)) (la_stepBehind_289 h2452_)
      have e3073_ : S 1100025 (g75 1046 0) = S 1100025 (g100 1100025 (g100 1046 0)) := congrArg ((S 1100025)) (la_stepBehind_289 h2452_)
      have e3074_ : S 1100025 (g75 1046 0) = S 1100025 (g107 1100025 (g107 1046 0)) := congrArg ((S 1100025)) (la_stepBehind_289 h2452_)
      have e3075_ : S 1100025 (g85 1046 0) = S 1100025 (g100 1100025 (g100 1046 0)) := congrArg ((S 1100025)) (la_stepBehind_289 h2452_)
      have e3076_ : S 1100025 (g85 1046 0) = S 1100025 (g107 1100025 (g107 1046 0)) := congrArg ((S 1100025)) (la_stepBehind_289 h2452_)
      have e3077_ : S 1100025 (g85 1100025 (g85 1046 0)) = S 1100025 (g100 1100025 (g100 1046 0)) := congrArg ((S 1100025)) (la_stepBehind_289 h2452_)
      have e3078_ : S 1100025 (g85 1100025 (g85 1046 0)) = S 1100025 (g107 1100025 (g107 1046 0)) := congrArg ((S 1100025)) (la_stepBehind_289 h2452_)
      have e3079_ : S 1100025 (g93 1046 0) = S 1100025 (g100 1100025 (g100 1046 0)) := congrArg ((S 1100025)) (la_stepBehind_289 h2452_)
      have e3080_ : S 1100025 (g93 1046 0) = S 1100025 (g107 1100025 (g107 1046 0)) := congrArg ((S 1100025)) (la_stepBehind_289 h2452_)
      have e3081_ : S 1100025 (g93 1100025 (g93 1046 0)) = S 1100025 (g100 1100025 (g100 1046 0)) := congrArg ((S 1100025)) (la_stepBehind_289 h2452_)
      have e3082_ : S 1100025 (g93 1100025 (g93 1046 0)) = S 1100025 (g107 1100025 (g107 1046 0)) := congrArg ((S 1100025)) (la_stepBehind_289 h2452_)
      have e3083_ : g75 1100023 (g107 1100023 (g107 1046 0)) = g75 1100023 (g100 1046 0) := congrArg ((g75 1100023)) (la_stepBehind_289 h2452_)
      have e3084_ : g75 1100023 (g107 1100023 (g107 1046 0)) = g75 1100023 (g100 1100023 (g100 1046 0)) := congrArg ((g75 1100023)) (la_stepBehind_289 h2452_)
      have e3085_ : g75 1100023 (g107 1100023 (g107 1046 0)) = g75 1100023 (g107 1046 0) := congrArg ((g75 1100023)) (la_stepBehind_289 h2452_)
      have e3086_ : g75 1100023 (g75 1046 0) = g75 1100023 (g107 1100023 (g107 1046 0)) := congrArg ((g75 1100023)) (la_stepBehind_289 h2452_)
      have e3087_ : g75 1100023 (g85 1046 0) = g75 1100023 (g107 1100023 (g107 1046 0)) := congrArg ((g75 1100023)) (la_stepBehind_289 h2452_)
      have e3088_ : g75 1100023 (g85 1100023 (g85 1046 0)) = g75 1100023 (g107 1100023 (g107 1046 0)) := congrArg ((g75 1100023)) (la_stepBehind_289 h2452_)
      have e3089_ : g75 1100023 (g93 1046 0) = g75 1100023 (g107 1100023 (g107 1046 0)) := congrArg ((g75 1100023)) (la_stepBehind_289 h2452_)
      have e3090_ : g75 1100023 (g93 1100023 (g93 1046 0)) = g75 1100023 (g107 1100023 (g107 1046 0)) := congrArg ((g75 1100023)) (la_stepBehind_289 h2452_)
      have e3091_ : g75 1100025 (g107 1100025 (g107 1046 0)) = g75 1100025 (g100 1046 0) := congrArg ((g75 1100025)) (la_stepBehind_289 h2452_)
      have e3092_ : g75 1100025 (g107 1100025 (g107 1046 0)) = g75 1100025 (g100 1100025 (g100 1046 0)) := congrArg ((g75 1100025)) (la_stepBehind_289 h2452_)
      have e3093_ : g75 1100025 (g107 1100025 (g107 1046 0)) = g75 1100025 (g107 1046 0) := congrArg ((g75 1100025)) (la_stepBehind_289 h2452_)
      have e3094_ : g75 1100025 (g75 1046 0) = g75 1100025 (g107 1100025 (g107 1046 0)) := congrArg ((g75 1100025)) (la_stepBehind_289 h2452_)
      have e3095_ : g75 1100025 (g85 1046 0) = g75 1100025 (g107 1100025 (g107 1046 0)) := congrArg ((g75 1100025)) (la_stepBehind_289 h2452_)
      have e3096_ : g75 1100025 (g85 1100025 (g85 1046 0)) = g75 1100025 (g107 1100025 (g107 1046 0)) := congrArg ((g75 1100025)) (la_stepBehind_289 h2452_)
      have e3097_ : g75 1100025 (g93 1046 0) = g75 1100025 (g107 1100025 (g107 1046 0)) := congrArg ((g75 1100025)) (la_stepBehind_289 h2452_)
      have e3098_ : g75 1100025 (g93 1100025 (g93 1046 0)) = g75 1100025 (g107 1100025 (g107 1046 0)) := congrArg ((g75 1100025)) (la_stepBehind_289 h2452_)
      exact ((la_stepBehind_295 h2452_)).elim
    intro g114
    rintro ⟨h3099_, ⟨h3100_, ⟨h3101_, ⟨h3102_, ⟨h3103_, ⟨h3104_, ⟨h3105_, ⟨h3106_, ⟨h3107_, ⟨h3108_, ⟨h3109_, ⟨h3110_, ⟨h3111_, ⟨h3112_, ⟨h3113_, ⟨h3114_, h3115_⟩⟩⟩⟩⟩⟩⟩⟩⟩⟩⟩⟩⟩⟩⟩⟩
    refine ⟨(la_stepBehind_21 h3101_), ?_⟩
    refine ⟨h3104_, ?_⟩
    refine ⟨h3099_, ?_⟩
    refine ⟨h3100_, ?_⟩
    refine ⟨h1321_, ?_⟩
    refine ⟨h1322_, ?_⟩
    refine ⟨(la_stepBehind_296 h1164_ h1323_ h1497_ h1823_ h2351_ h3102_), ?_⟩
    refine ⟨(la_stepBehind_23 h28_ h3100_), ?_⟩
    refine ⟨(sm_F1_tr (sm_F1_tr (sm_F1_tr (sm_F1_tr (sm_F1_tr (sm_F1_le h1166_ (Int.le_refl _)) h1325_ h1164_) h1502_ (la_stepBehind_22 h1164_ h1323_)) h1828_ (la_stepBehind_103 h1164_ h1323_ h1497_)) h2356_ (la_stepBehind_102 h1164_ h1323_ h1497_ h1823_)) h3107_ (la_stepBehind_297 h1164_ h1323_ h1497_ h1823_ h2351_)), ?_⟩
    refine ⟨(sm_F1_tr (sm_F1_tr (sm_F1_tr (sm_F1_tr (sm_F1_tr (sm_F1_le h1167_ (Int.le_refl _)) h1326_ h1164_) h1503_ (la_stepBehind_22 h1164_ h1323_)) h1829_ (la_stepBehind_103 h1164_ h1323_ h1497_)) h2357_ (la_stepBehind_102 h1164_ h1323_ h1497_ h1823_)) h3108_ (la_stepBehind_297 h1164_ h1323_ h1497_ h1823_ h2351_)), ?_⟩
    refine ⟨(sm_F1_tr (sm_F1_tr (sm_F1_tr (sm_F1_tr (sm_F1_tr (sm_F1_le h1168_ (Int.le_refl _)) h1327_ h1164_) h1504_ (la_stepBehind_22 h1164_ h1323_)) h1830_ (la_stepBehind_103 h1164_ h1323_ h1497_)) h2358_ (la_stepBehind_102 h1164_ h1323_ h1497_ h1823_)) h3109_ (la_stepBehind_297 h1164_ h1323_ h1497_ h1823_ h2351_)), ?_⟩
    refine ⟨(sm_F1_tr (sm_F1_tr (sm_F1_tr (sm_F1_tr (sm_F1_tr (sm_F1_le h1169_ (Int.le_refl _)) h1328_ h1164_) h1505_ (la_stepBehind_22 h1164_ h1323_)) h1831_ (la_stepBehind_103 h1164_ h1323_ h1497_)) h2359_ (la_stepBehind_102 h1164_ h1323_ h1497_ h1823_)) h3110_ (la_stepBehind_297 h1164_ h1323_ h1497_ h1823_ h2351_)), ?_⟩
    refine ⟨(sm_F1_tr (sm_F1_tr (sm_F1_tr (sm_F1_tr (sm_F1_tr (sm_F1_le h1170_ (Int.le_refl _)) h1329_ (la_stepBehind_24 h1164_)) h1506_ (la_stepBehind_105 h1164_ h1323_)) h1832_ (la_stepBehind_104 h1164_ h1323_ h1497_)) h2360_ (la_stepBehind_299 h1164_ h1323_ h1497_ h1823_)) h3111_ (la_stepBehind_298 h1164_ h1323_ h1497_ h1823_ h2351_)), ?_⟩
    refine ⟨(sm_F1_tr (sm_F1_tr (sm_F1_tr (sm_F1_tr (sm_F1_tr (sm_F1_le h1171_ (Int.le_refl _)) h1330_ (la_stepBehind_24 h1164_)) h1507_ (la_stepBehind_105 h1164_ h1323_)) h1833_ (la_stepBehind_104 h1164_ h1323_ h1497_)) h2361_ (la_stepBehind_299 h1164_ h1323_ h1497_ h1823_)) h3112_ (la_stepBehind_298 h1164_ h1323_ h1497_ h1823_ h2351_)), ?_⟩
    refine ⟨(sm_F1_tr (sm_F1_tr (sm_F1_tr (sm_F1_tr (sm_F1_tr (sm_F1_le h1172_ (Int.le_refl _)) h1331_ (la_stepBehind_24 h1164_)) h1508_ (la_stepBehind_105 h1164_ h1323_)) h1834_ (la_stepBehind_104 h1164_ h1323_ h1497_)) h2362_ (la_stepBehind_299 h1164_ h1323_ h1497_ h1823_)) h3113_ (la_stepBehind_298 h1164_ h1323_ h1497_ h1823_ h2351_)), ?_⟩
    refine ⟨(sm_F1_tr (sm_F1_tr (sm_F1_tr (sm_F1_tr (sm_F1_tr (sm_F1_le h1173_ (Int.le_refl _)) h1332_ (la_stepBehind_24 h1164_)) h1509_ (la_stepBehind_105 h1164_ h1323_)) h1835_ (la_stepBehind_104 h1164_ h1323_ h1497_)) h2363_ (la_stepBehind_299 h1164_ h1323_ h1497_ h1823_)) h3114_ (la_stepBehind_298 h1164_ h1323_ h1497_ h1823_ h2351_)), ?_⟩
    refine ⟨(sm_F1_tr (sm_F1_le h1174_ (Int.le_refl _)) h1333_ h1180_), ?_⟩
    refine ⟨(sm_F1_tr (sm_F1_le h1175_ (Int.le_refl _)) h1334_ h1180_), ?_⟩
    refine ⟨(sm_F1_tr (sm_F1_le h1176_ (Int.le_refl _)) h1335_ h1180_), ?_⟩
    refine ⟨(sm_F1_tr (sm_F1_le h1177_ (Int.le_refl _)) h1336_ h1180_), ?_⟩
    refine ⟨(sm_F1_tr (sm_F1_le h1178_ (Int.le_refl _)) h1337_ h1180_), ?_⟩
    refine ⟨(sm_F1_tr (sm_F1_le h1179_ (Int.le_refl _)) h1338_ h1180_), ?_⟩
    refine ⟨(la_stepBehind_22 h1180_ h1339_), ?_⟩
    refine ⟨(la_stepBehind_300 h1181_ h1340_), ?_⟩
    refine ⟨(sm_F1_tr (sm_F1_le h1182_ (Int.le_refl _)) h1341_ (la_stepBehind_301 h1181_)), ?_⟩
    refine ⟨(la_stepBehind_302 h28_), ?_⟩
    refine ⟨?_, ?_⟩
    · skip
      intro h3116_
      have e3117_ : S 12 (5 * p2 + 0) = S 12 (5 * p2) := congrArg ((S 12)) la_stepBehind_157
      have e3118_ : S 1100002 (S 12 (5 * p2 + 0)) = S 1100002 (S 12 (5 * p2)) := congrArg ((S 1100002)) e3117_
      have e3119_ : S 1100005 (S 12 (5 * p2 + 0)) = S 1100005 (S 12 (5 * p2)) := congrArg ((S 1100005)) e3117_
      by_cases c3120_ : g75 1047 0 = 1
      · skip
        have h3121_ := (h1324_ c3120_)
        have h3122_ := (h1342_ c3120_)
        have h3123_ := (h1500_ h3121_)
        have h3124_ := (h1501_ h3123_)
        have h3125_ := (h1826_ h3123_)
        have h3126_ := (h1827_ h3125_)
        have h3127_ := (h2354_ h3125_)
        have h3128_ := (h2355_ h3127_)
        have h3129_ := (h3105_ h3127_)
        have h3130_ := (h3106_ h3129_)
        exact (la_stepBehind_304 (sm_ex_e h1114_).2.2.2.1 h1141_ h1186_ h3122_)
      · skip
        obtain ⟨h3131_, ⟨h3132_, ⟨h3133_, ⟨h3134_, ⟨h3135_, ⟨h3136_, ⟨h3137_, ⟨h3138_, ⟨h3139_, ⟨h3140_, ⟨h3141_, ⟨h3142_, ⟨h3143_, ⟨h3144_, ⟨h3145_, ⟨h3146_, -⟩⟩⟩⟩⟩⟩⟩⟩⟩⟩⟩⟩⟩⟩⟩⟩ := (h1185_ (la_stepBehind_305 h1160_ (la_stepBehind_25 h1161_ c3120_)))
        have h3147_ := (h1343_ (la_stepBehind_305 h1160_ (la_stepBehind_25 h1161_ c3120_)))
        exact (la_stepBehind_306 (sm_ex_e h1116_).2.2.2.1 h3146_ h3147_)
    intro h3148_
    have h3149_ : ¬ (g107 1047 0 = 1) := fun q_ => (la_stepBehind_3 h3148_) (h3105_ q_)
    obtain ⟨h3150_, ⟨h3151_, ⟨h3152_, ⟨h3153_, ⟨h3154_, ⟨h3155_, ⟨h3156_, ⟨h3157_, ⟨h3158_, ⟨h3159_, ⟨h3160_, ⟨h3161_, ⟨h3162_, h3163_⟩⟩⟩⟩⟩⟩⟩⟩⟩⟩⟩⟩⟩ := (h3115_ h3148_)
    have h3164_ : ¬ (g100 1047 0 = 1) := fun q_ => h3149_ (h2354_ q_)
    have h3165_ := (h3163_ la_stepBehind_307)
    obtain ⟨h3166_, ⟨h3167_, ⟨h3168_, ⟨h3169_, ⟨h3170_, ⟨h3171_, ⟨h3172_, ⟨h3173_, ⟨h3174_, ⟨h3175_, ⟨h3176_, ⟨h3177_, ⟨h3178_, h3179_⟩⟩⟩⟩⟩⟩⟩⟩⟩⟩⟩⟩⟩ := (h2364_ h3150_)
    have h3180_ : ¬ (g93 1047 0 = 1) := fun q_ => h3164_ (h1826_ q_)
    have h3181_ := (h3165_ la_stepBehind_309)
    have h3182_ := (h3179_ la_stepBehind_273)
    obtain ⟨h3183_, ⟨h3184_, ⟨h3185_, ⟨h3186_, ⟨h3187_, ⟨h3188_, ⟨h3189_, ⟨h3190_, ⟨h3191_, ⟨h3192_, ⟨h3193_, ⟨h3194_, ⟨h3195_, h3196_⟩⟩⟩⟩⟩⟩⟩⟩⟩⟩⟩⟩⟩ := (h1836_ h3166_)
    have h3197_ : ¬ (g85 1047 0 = 1) := fun q_ => h3180_ (h1500_ q_)
    have h3198_ := (h3182_ la_stepBehind_275)
    have h3199_ := (h3196_ la_stepBehind_250)
    obtain ⟨h3200_, ⟨h3201_, ⟨h3202_, ⟨h3203_, ⟨h3204_, ⟨h3205_, ⟨h3206_, ⟨h3207_, ⟨h3208_, ⟨h3209_, ⟨h3210_, ⟨h3211_, ⟨h3212_, h3213_⟩⟩⟩⟩⟩⟩⟩⟩⟩⟩⟩⟩⟩ := (h1510_ h3183_)
    have h3214_ : ¬ (g75 1047 0 = 1) := fun q_ => h3197_ (h1324_ q_)
    have h3215_ := (h3199_ la_stepBehind_252)
    have h3216_ := (h3213_ la_stepBehind_227)
    obtain ⟨h3217_, ⟨h3218_, ⟨h3219_, ⟨h3220_, ⟨h3221_, ⟨h3222_, ⟨h3223_, ⟨h3224_, ⟨h3225_, ⟨h3226_, ⟨h3227_, ⟨h3228_, ⟨h3229_, ⟨h3230_, ⟨h3231_, ⟨h3232_, -⟩⟩⟩⟩⟩⟩⟩⟩⟩⟩⟩⟩⟩⟩⟩⟩ := (h1344_ h3200_)
    have h3233_ := (h1343_ h3217_)
    have h3234_ := (h3216_ la_stepBehind_229)
    obtain ⟨h3235_, ⟨h3236_, ⟨h3237_, ⟨h3238_, ⟨h3239_, ⟨h3240_, ⟨h3241_, ⟨h3242_, ⟨h3243_, ⟨h3244_, ⟨h3245_, ⟨h3246_, ⟨h3247_, ⟨h3248_, ⟨h3249_, ⟨h3250_, -⟩⟩⟩⟩⟩⟩⟩⟩⟩⟩⟩⟩⟩⟩⟩⟩ := (h1185_ h3217_)
    refine ⟨h28_, ?_⟩
    refine ⟨h3152_, ?_⟩
    refine ⟨h3219_, ?_⟩
    refine ⟨h3220_, ?_⟩
    refine ⟨(la_stepBehind_310 h3151_ h3167_ h3184_ h3201_ h3221_), ?_⟩
    refine ⟨(la_stepBehind_311 h61_ h3151_ h3167_ h3184_ h3201_ h3222_ h3240_), ?_⟩
    refine ⟨(sm_FC_s (sm_FC_F h3241_ (sm_F1_tr (sm_F1_tr (sm_F1_tr (sm_F1_tr (sm_F1_le h1328_ (Int.le_refl _)) h1505_ h1323_) h1831_ (la_stepBehind_319 h3201_ h3222_)) h2359_ (la_stepBehind_318 h3184_ h3201_ h3222_)) h3110_ (la_stepBehind_317 h3167_ h3184_ h3201_ h3222_)) (Int.le_refl _) (Int.le_refl _) (Int.le_refl _) rfl) (sm_FC_s (sm_FC_F h3223_ (sm_F1_tr (sm_F1_tr (sm_F1_tr (sm_F1_le h1505_ (Int.le_refl _)) h1831_ h1497_) h2359_ (la_stepBehind_114 h3184_ h3201_)) h3110_ (la_stepBehind_323 h3167_ h3184_ h3201_)) (Int.le_refl _) (Int.le_refl _) (Int.le_refl _) rfl) (sm_FC_1 (((sm_F1_at h3110_ (g85 1046 0) (la_stepBehind_324 h3167_ h3184_ h3201_)).trans ((sm_F1_at h2359_ (g85 1046 0) (la_stepBehind_115 h3184_ h3201_)).trans ((sm_F1_at h1831_ (g85 1046 0) (la_stepBehind_116 h3201_)).trans rfl))).trans h3205_) (sm_FC_1 (((sm_F1_at h3110_ (g85 1046 0 + 1) (la_stepBehind_325 h3167_ h3184_ h3201_)).trans ((sm_F1_at h2359_ (g85 1046 0 + 1) (la_stepBehind_117 h3184_ h3201_)).trans ((congrArg (g100 29) (la_stepBehind_118 h1498_ h3201_)).trans h3188_))).trans rfl) (sm_FC_1 (((sm_F1_at h3110_ (g85 1046 0 + 1 + 1) (la_stepBehind_326 h3167_ h3184_ h3201_)).trans ((congrArg (g107 29) (la_stepBehind_327 h1824_ h3184_ h3201_)).trans h3171_)).trans rfl) (sm_FC_1 (((congrArg (g114 29) (la_stepBehind_328 h2352_ h3167_ h3184_ h3201_)).trans h3155_).trans rfl) (sm_FC_0 (la_stepBehind_329 h1498_ h2352_ h3103_ h3184_)))))))), ?_⟩
    refine ⟨(la_stepBehind_330 h61_ e1111_ h3156_ (sm_dl_20 : sm_dl 20 0 = 1) h3172_ (sm_dl_13 : sm_dl 13 0 = 0) h3189_ (sm_dl_10 : sm_dl 10 0 = (-1)) h3206_ (sm_dl_19 : sm_dl 19 0 = 2) h3224_ h3242_), ?_⟩
    refine ⟨(la_stepBehind_331 h3157_ (sm_nt_20 : sm_nt 20 (g107 1046 0) (g107 1100023 (g107 1046 0)) (g107 1100023 (g107 1100023 (g107 1046 0))) = g107 1100023 (g107 1046 0)) h3173_ (sm_nt_13 : sm_nt 13 (g100 1046 0) (g100 1100023 (g100 1046 0)) (g100 1100023 (g100 1100023 (g100 1046 0))) = g100 1100023 (g100 1046 0)) h3190_ (sm_nt_10 : sm_nt 10 (g93 1046 0) (g93 1100023 (g93 1046 0)) (g93 1100023 (g93 1100023 (g93 1046 0))) = g93 1100023 (g93 1046 0)) h3207_ (sm_nt_19 : sm_nt 19 (g85 1046 0) (g85 1100023 (g85 1046 0)) (g85 1100023 (g85 1100023 (g85 1046 0))) = g85 1100023 (g85 1046 0)) h3225_ h3243_), ?_⟩
    refine ⟨(la_stepBehind_331 h3158_ (sm_nd_20 : sm_nd 20 (g107 1100024 (g107 1046 0)) = g107 1100024 (g107 1046 0)) h3174_ (sm_nd_13 : sm_nd 13 (g100 1100024 (g100 1046 0)) = g100 1100024 (g100 1046 0)) h3191_ (sm_nd_10 : sm_nd 10 (g93 1100024 (g93 1046 0)) = g93 1100024 (g93 1046 0)) h3208_ (sm_nd_19 : sm_nd 19 (g85 1100024 (g85 1046 0)) = g85 1100024 (g85 1046 0)) h3226_ h3244_), ?_⟩
    refine ⟨(la_stepBehind_331 h3159_ (sm_nl_20 : sm_nl 20 (g107 1046 0) (g107 1100007 (g107 1046 0)) (g107 1100025 (g107 1046 0)) (g107 1100007 (g107 1100025 (g107 1046 0))) (g107 1100025 (g107 1100025 (g107 1046 0))) = g107 1100025 (g107 1046 0)) h3175_ (sm_nl_13 : sm_nl 13 (g100 1046 0) (g100 1100007 (g100 1046 0)) (g100 1100025 (g100 1046 0)) (g100 1100007 (g100 1100025 (g100 1046 0))) (g100 1100025 (g100 1100025 (g100 1046 0))) = g100 1100025 (g100 1046 0)) h3192_ (sm_nl_10 : sm_nl 10 (g93 1046 0) (g93 1100007 (g93 1046 0)) (g93 1100025 (g93 1046 0)) (g93 1100007 (g93 1100025 (g93 1046 0))) (g93 1100025 (g93 1100025 (g93 1046 0))) = g93 1100025 (g93 1046 0)) h3209_ (sm_nl_19 : sm_nl 19 (g85 1046 0) (g85 1100007 (g85 1046 0)) (g85 1100025 (g85 1046 0)) (g85 1100007 (g85 1100025 (g85 1046 0))) (g85 1100025 (g85 1100025 (g85 1046 0))) = g85 1100025 (g85 1046 0)) h3227_ h3245_), ?_⟩
    refine ⟨(la_stepBehind_331 h3160_ (sm_nt_20 : sm_nt 20 (g107 1100007 (g107 1046 0)) (g107 1100007 (g107 1100023 (g107 1046 0))) (g107 1100007 (g107 1100023 (g107 1100023 (g107 1046 0)))) = g107 1100007 (g107 1100023 (g107 1046 0))) h3176_ (sm_nt_13 : sm_nt 13 (g100 1100007 (g100 1046 0)) (g100 1100007 (g100 1100023 (g100 1046 0))) (g100 1100007 (g100 1100023 (g100 1100023 (g100 1046 0)))) = g100 1100007 (g100 1100023 (g100 1046 0))) h3193_ (sm_nt_10 : sm_nt 10 (g93 1100007 (g93 1046 0)) (g93 1100007 (g93 1100023 (g93 1046 0))) (g93 1100007 (g93 1100023 (g93 1100023 (g93 1046 0)))) = g93 1100007 (g93 1100023 (g93 1046 0))) h3210_ (sm_nt_19 : sm_nt 19 (g85 1100007 (g85 1046 0)) (g85 1100007 (g85 1100023 (g85 1046 0))) (g85 1100007 (g85 1100023 (g85 1100023 (g85 1046 0)))) = g85 1100007 (g85 1100023 (g85 1046 0))) h3228_ h3246_), ?_⟩
    refine ⟨(la_stepBehind_332 h3181_ h3198_ h3215_ h3229_ h3234_ h3247_), ?_⟩
    refine ⟨(sm_AP_s (sm_AP_F h3248_ (sm_F1_le h1337_ (Int.le_refl _)) (Int.le_refl _) (Int.le_refl _) (Int.le_refl _)) (sm_AP_F h3230_ sm_F1_rf (Int.le_refl _) (Int.le_refl _) (Int.le_refl _))), ?_⟩
    refine ⟨(sm_HB_1 (by rw [((sm_F1_at h3111_ (S 1046 0) (la_stepBehind_333 h3167_ h3184_ h3201_ h3222_ h3240_)).trans ((sm_F1_at h2360_ (S 1046 0) (la_stepBehind_334 h3184_ h3201_ h3222_ h3240_)).trans ((sm_F1_at h1832_ (S 1046 0) (la_stepBehind_335 h3201_ h3222_ h3240_)).trans ((sm_F1_at h1506_ (S 1046 0) (la_stepBehind_336 h3222_ h3240_)).trans ((sm_F1_at h1329_ (S 1046 0) (la_stepBehind_337 h3240_)).trans ((sm_F1_at h1170_ (S 1046 0) la_stepBehind_42).trans rfl))))))]; exact (la_stepBehind_338 h48_ h3151_ h3167_ h3184_ h3201_ h3222_ h3240_)) (sm_HB_s (sm_HB_F h3249_ (sm_F1_tr (sm_F1_tr (sm_F1_tr (sm_F1_tr (sm_F1_le h1329_ la_stepBehind_45) h1506_ (la_stepBehind_348 h3222_)) h1832_ (la_stepBehind_347 h3201_ h3222_)) h2360_ (la_stepBehind_346 h3184_ h3201_ h3222_)) h3111_ (la_stepBehind_345 h3167_ h3184_ h3201_ h3222_)) (Int.le_refl _) la_stepBehind_45 (Int.le_refl _) (la_stepBehind_344 (sm_ex_e h1114_).2.2.2.2 h1140_ h3151_ h3167_ h3184_ h3201_ h3222_)) (sm_HB_1 (by rw [((sm_F1_at h3111_ (g75 1046 0) (la_stepBehind_349 h3167_ h3184_ h3201_ h3222_)).trans ((sm_F1_at h2360_ (g75 1046 0) (la_stepBehind_350 h3184_ h3201_ h3222_)).trans ((sm_F1_at h1832_ (g75 1046 0) (la_stepBehind_351 h3201_ h3222_)).trans ((sm_F1_at h1506_ (g75 1046 0) (la_stepBehind_337 h3222_)).trans ((sm_F1_at h1329_ (g75 1046 0) la_stepBehind_42).trans rfl)))))]; exact (la_stepBehind_352 h48_ h3151_ h3167_ h3184_ h3201_ h3222_ h3240_ h3242_)) (sm_HB_s (sm_HB_F h3231_ (sm_F1_tr (sm_F1_tr (sm_F1_tr (sm_F1_le h1506_ la_stepBehind_45) h1832_ (la_stepBehind_134 h3201_)) h2360_ (la_stepBehind_133 h3184_ h3201_)) h3111_ (la_stepBehind_357 h3167_ h3184_ h3201_)) (Int.le_refl _) la_stepBehind_45 (Int.le_refl _) (la_stepBehind_356 (sm_ex_e h1116_).2.2.2.2 h3151_ h3167_ h3184_ h3201_ h3240_ h3242_)) (sm_HB_1 (by rw [((sm_F1_at h3111_ (g85 1046 0) (la_stepBehind_358 h3167_ h3184_ h3201_)).trans ((sm_F1_at h2360_ (g85 1046 0) (la_stepBehind_135 h3184_ h3201_)).trans ((sm_F1_at h1832_ (g85 1046 0) (la_stepBehind_136 h3201_)).trans ((sm_F1_at h1506_ (g85 1046 0) la_stepBehind_42).trans rfl))))]; exact (la_stepBehind_359 h48_ h3151_ h3167_ h3184_ h3201_ h3222_ h3224_ h3240_ h3242_)) (sm_HB_1 (by rw [((sm_F1_at h3111_ (g85 1046 0 + 1) (la_stepBehind_360 h3167_ h3184_ h3201_)).trans ((sm_F1_at h2360_ (g85 1046 0 + 1) (la_stepBehind_138 h3184_ h3201_)).trans ((sm_F1_at h1832_ (g85 1046 0 + 1) (la_stepBehind_139 h3201_)).trans ((congrArg (g93 1100007) (la_stepBehind_118 h1498_ h3201_)).trans h3206_))))]; exact (la_stepBehind_361 h48_ h3151_ h3167_ h3184_ h3201_ (sm_dl_19 : sm_dl 19 0 = 2) h3222_ h3224_ h3240_ h3242_)) (sm_HB_1 (by rw [((sm_F1_at h3111_ (g85 1046 0 + 1 + 1) (la_stepBehind_362 h3167_ h3184_ h3201_)).trans ((sm_F1_at h2360_ (g85 1046 0 + 1 + 1) (la_stepBehind_141 h3184_ h3201_)).trans ((congrArg (g100 1100007) (la_stepBehind_327 h1824_ h3184_ h3201_)).trans h3189_)))]; exact (la_stepBehind_363 h48_ h3151_ h3167_ h3184_ (sm_dl_10 : sm_dl 10 0 = (-1)) h3201_ h3206_ (sm_dl_19 : sm_dl 19 0 = 2) h3222_ h3224_ h3240_ h3242_)) (sm_HB_1 (by rw [((sm_F1_at h3111_ (g85 1046 0 + 1 + 1 + 1) (la_stepBehind_364 h3167_ h3184_ h3201_)).trans ((congrArg (g107 1100007) (la_stepBehind_328 h2352_ h3167_ h3184_ h3201_)).trans h3172_))]; exact (la_stepBehind_365 h48_ h3151_ h3167_ (sm_dl_13 : sm_dl 13 0 = 0) h3184_ h3189_ (sm_dl_10 : sm_dl 10 0 = (-1)) h3201_ h3206_ (sm_dl_19 : sm_dl 19 0 = 2) h3222_ h3224_ h3240_ h3242_)) (sm_HB_0 (la_stepBehind_329 h1498_ h2352_ h3103_ h3184_)))))))))), ?_⟩
    refine ⟨(la_stepBehind_366 h3151_ h3167_ h3184_ h3201_ h3232_ h3250_), ?_⟩
    exact trivial
  intro h3251_
  have e3252_ : (if S 11 p2 = 2 then 2 else 4 : Int) = 2 := if_pos (la_stepBehind_144 h3251_)
  have h3253_ := (h26_.resolve_right (la_stepBehind_145 h3251_))
  have h3254_ := (h62_ h3253_)
  have h3255_ := (h53_ h3253_)
  have h3256_ := (h59_ h3255_)
  obtain ⟨h3257_, h3258_⟩ := (h3256_ h5_)
  refine ⟨(la_stepBehind_148 h9_ h23_ h24_), ?_⟩
  refine ⟨(la_stepBehind_186 h16_ h45_), ?_⟩
  refine ⟨?_, ?_⟩
  · skip
    refine ⟨h15_, ?_⟩
    refine ⟨h16_, ?_⟩
    refine ⟨h17_, ?_⟩
    refine ⟨h18_, ?_⟩
    refine ⟨h12_, ?_⟩
    refine ⟨h13_, ?_⟩
    refine ⟨h11_, ?_⟩
    refine ⟨h14_, ?_⟩
    refine ⟨la_stepBehind_368, ?_⟩
    intro h3259_
    refine ⟨h29_, ?_⟩
    refine ⟨?_, ?_⟩
    · skip
      have e3260_ : S 12 (5 * p2 + 0) = S 12 (5 * p2) := congrArg ((S 12)) la_stepBehind_157
      exact (la_stepBehind_158 h3257_ e3260_)
    refine ⟨?_, ?_⟩
    · skip
      have e3261_ : S 12 (5 * p2 + 0) = S 12 (5 * p2) := congrArg ((S 12)) la_stepBehind_157
      exact (la_stepBehind_159 h3258_ e3261_)
    refine ⟨(la_stepBehind_369 h33_ h34_), ?_⟩
    intro h3262_
    refine ⟨(la_stepBehind_370 h3262_), ?_⟩
    refine ⟨(la_stepBehind_371 h3262_), ?_⟩
    intro h3263_
    have h3264_ := (h33_ (la_stepBehind_372 h3262_))
    have h3265_ := (h34_ h3263_)
    exact (la_stepBehind_373 h3262_)
  refine ⟨(la_stepBehind_165 h16_ h45_), ?_⟩
  intro g124
  rintro ⟨h3266_, ⟨h3267_, ⟨h3268_, ⟨h3269_, ⟨h3270_, ⟨h3271_, ⟨h3272_, ⟨h3273_, ⟨h3274_, ⟨h3275_, ⟨h3276_, ⟨h3277_, ⟨h3278_, ⟨h3279_, ⟨h3280_, ⟨h3281_, h3282_⟩⟩⟩⟩⟩⟩⟩⟩⟩⟩⟩⟩⟩⟩⟩⟩
  have e3283_ : (if (1 : Int) = 1 then 1 else 0 : Int) = 1 := if_pos la_stepBehind_374
  refine ⟨?_, ?_⟩
  · skip
    refine ⟨(la_stepBehind_21 h3268_), ?_⟩
    refine ⟨h3271_, ?_⟩
    refine ⟨h3266_, ?_⟩
    refine ⟨h3267_, ?_⟩
    intro h3284_
    obtain ⟨h3285_, ⟨h3286_, ⟨h3287_, ⟨h3288_, ⟨h3289_, ⟨h3290_, ⟨h3291_, ⟨h3292_, ⟨h3293_, ⟨h3294_, ⟨h3295_, h3296_⟩⟩⟩⟩⟩⟩⟩⟩⟩⟩⟩ := (h3282_ h3284_)
    refine ⟨h3287_, ?_⟩
    refine ⟨la_stepBehind_253, ?_⟩
    refine ⟨la_stepBehind_254, ?_⟩
    refine ⟨(sm_ci_13 (la_stepBehind_375 (sm_KC_n h29_).2.1.1 h33_ h34_ e3283_ h3291_ h3292_ h3294_ h3295_ h3296_ (sm_dl_13 : sm_dl 13 0 = 0) (sm_nt_13 : sm_nt 13 (g124 1046 0) (g124 1100023 (g124 1046 0)) (g124 1100023 (g124 1100023 (g124 1046 0))) = g124 1100023 (g124 1046 0)) (sm_nl_13 : sm_nl 13 (g124 1046 0) (g124 1100007 (g124 1046 0)) (g124 1100025 (g124 1046 0)) (g124 1100007 (g124 1100025 (g124 1046 0))) (g124 1100025 (g124 1100025 (g124 1046 0))) = g124 1100025 (g124 1046 0)))), ?_⟩
    refine ⟨la_stepBehind_256, ?_⟩
    intro h3297_
    have h3298_ := (h3297_.resolve_left la_stepBehind_257)
    have h3299_ := (h33_ (la_stepBehind_264 h3298_))
    have h3300_ := (h34_ (la_stepBehind_264 h3298_))
    have h3301_ := (h3289_.resolve_left (la_stepBehind_376 h3298_))
    have e3302_ : S 1100007 (S 1100023 (S 1046 0)) = S 1100007 (S 1046 0) := congrArg ((S 1100007)) (la_stepBehind_266 h3298_)
    have e3303_ : S 1100007 (S 1100025 (S 1046 0)) = S 1100007 (S 1046 0) := congrArg ((S 1100007)) (la_stepBehind_266 h3298_)
    have e3304_ : S 1100007 (S 1100025 (S 1046 0)) = S 1100007 (S 1100023 (S 1046 0)) := congrArg ((S 1100007)) (la_stepBehind_266 h3298_)
    have e3305_ : S 1100007 (g124 1046 0) = S 1100007 (S 1046 0) := congrArg ((S 1100007)) (la_stepBehind_266 h3298_)
    have e3306_ : S 1100007 (g124 1046 0) = S 1100007 (S 1100023 (S 1046 0)) := congrArg ((S 1100007)) (la_stepBehind_266 h3298_)
    have e3307_ : S 1100007 (g124 1046 0) = S 1100007 (S 1100025 (S 1046 0)) := congrArg ((S 1100007)) (la_stepBehind_266 h3298_)
    have e3308_ : S 1100007 (g124 1100023 (g124 1046 0)) = S 1100007 (S 1046 0) := congrArg ((S 1100007)) (la_stepBehind_266 h3298_)
    have e3309_ : S 1100007 (g124 1100023 (g124 1046 0)) = S 1100007 (S 1100023 (S 1046 0)) := congrArg ((S 1100007)) h3292_
    have e3310_ : S 1100007 (g124 1100023 (g124 1046 0)) = S 1100007 (S 1100025 (S 1046 0)) := congrArg ((S 1100007)) (la_stepBehind_266 h3298_)
    have e3311_ : S 1100007 (g124 1100023 (g124 1046 0)) = S 1100007 (g124 1046 0) := congrArg ((S 1100007)) (la_stepBehind_266 h3298_)
    have e3312_ : S 1100007 (g124 1100025 (g124 1046 0)) = S 1100007 (S 1046 0) := congrArg ((S 1100007)) (la_stepBehind_266 h3298_)
    have e3313_ : S 1100007 (g124 1100025 (g124 1046 0)) = S 1100007 (S 1100023 (S 1046 0)) := congrArg ((S 1100007)) (la_stepBehind_266 h3298_)
    have e3314_ : S 1100007 (g124 1100025 (g124 1046 0)) = S 1100007 (S 1100025 (S 1046 0)) := congrArg ((S 1100007)) h3294_
    have e3315_ : S 1100007 (g124 1100025 (g124 1046 0)) = S 1100007 (g124 1046 0) := congrArg ((S 1100007)) (la_stepBehind_266 h3298_)
    have e3316_ : S 1100007 (g124 1100025 (g124 1046 0)) = S 1100007 (g124 1100023 (g124 1046 0)) := congrArg ((S 1100007)) (la_stepBehind_266 h3298_)
    have e3317_ : S 1100023 (g124 1046 0) = S 1100023 (S 1046 0) := congrArg ((S 1100023)) (la_stepBehind_266 h3298_)
    have e3318_ : S 1100024 (g124 1046 0) = S 1100024 (S 1046 0) := congrArg ((S 1100024)) (la_stepBehind_266 h3298_)
    have e3319_ : S 1100025 (g124 1046 0) = S 1100025 (S 1046 0) := congrArg ((S 1100025)) (la_stepBehind_266 h3298_)
    have e3320_ : g124 1100007 (g124 1100023 (g124 1046 0)) = g124 1100007 (g124 1046 0) := congrArg ((g124 1100007)) (la_stepBehind_266 h3298_)
    have e3321_ : g124 1100007 (g124 1100025 (g124 1046 0)) = g124 1100007 (g124 1046 0) := congrArg ((g124 1100007)) (la_stepBehind_266 h3298_)
    have e3322_ : g124 1100007 (g124 1100025 (g124 1046 0)) = g124 1100007 (g124 1100023 (g124 1046 0)) := congrArg ((g124 1100007)) (la_stepBehind_266 h3298_)
    have e3323_ : g124 1100023 (g124 1100023 (g124 1046 0)) = g124 1100023 (g124 1046 0) := congrArg ((g124 1100023)) (la_stepBehind_266 h3298_)
    have e3324_ : g124 1100025 (g124 1100025 (g124 1046 0)) = g124 1100025 (g124 1046 0) := congrArg ((g124 1100025)) (la_stepBehind_266 h3298_)
    have e3325_ : S 1100023 (g124 1100023 (g124 1046 0)) = S 1100023 (S 1046 0) := congrArg ((S 1100023)) (la_stepBehind_266 h3298_)
    have e3326_ : S 1100023 (g124 1100023 (g124 1046 0)) = S 1100023 (g124 1046 0) := congrArg ((S 1100023)) (la_stepBehind_266 h3298_)
    have e3327_ : S 1100025 (g124 1100025 (g124 1046 0)) = S 1100025 (S 1046 0) := congrArg ((S 1100025)) (la_stepBehind_266 h3298_)
    have e3328_ : S 1100025 (g124 1100025 (g124 1046 0)) = S 1100025 (g124 1046 0) := congrArg ((S 1100025)) (la_stepBehind_266 h3298_)
    exact ((la_stepBehind_272 h3298_)).elim
  intro g131
  rintro ⟨h3329_, ⟨h3330_, ⟨h3331_, ⟨h3332_, ⟨h3333_, ⟨h3334_, ⟨h3335_, ⟨h3336_, ⟨h3337_, ⟨h3338_, ⟨h3339_, ⟨h3340_, ⟨h3341_, ⟨h3342_, ⟨h3343_, ⟨h3344_, h3345_⟩⟩⟩⟩⟩⟩⟩⟩⟩⟩⟩⟩⟩⟩⟩⟩
  refine ⟨?_, ?_⟩
  · skip
    refine ⟨(la_stepBehind_21 h3331_), ?_⟩
    refine ⟨h3334_, ?_⟩
    refine ⟨h3329_, ?_⟩
    refine ⟨h3330_, ?_⟩
    intro h3346_
    have h3347_ : ¬ (g124 1047 0 = 1) := fun q_ => (la_stepBehind_3 h3346_) (h3335_ q_)
    obtain ⟨h3348_, ⟨h3349_, ⟨h3350_, ⟨h3351_, ⟨h3352_, ⟨h3353_, ⟨h3354_, ⟨h3355_, ⟨h3356_, ⟨h3357_, ⟨h3358_, ⟨h3359_, ⟨h3360_, h3361_⟩⟩⟩⟩⟩⟩⟩⟩⟩⟩⟩⟩⟩ := (h3345_ h3346_)
    have h3362_ := (h3361_ la_stepBehind_273)
    obtain ⟨h3363_, ⟨h3364_, ⟨h3365_, ⟨h3366_, ⟨h3367_, ⟨h3368_, ⟨h3369_, ⟨h3370_, ⟨h3371_, ⟨h3372_, ⟨h3373_, h3374_⟩⟩⟩⟩⟩⟩⟩⟩⟩⟩⟩ := (h3282_ h3348_)
    have h3375_ := (h3362_ la_stepBehind_275)
    refine ⟨h3350_, ?_⟩
    refine ⟨la_stepBehind_377, ?_⟩
    refine ⟨la_stepBehind_378, ?_⟩
    refine ⟨(sm_ci_18 (la_stepBehind_379 (sm_KC_n h29_).2.1.1 h33_ h34_ e3283_ h3354_ (sm_dl_13 : sm_dl 13 0 = 0) h3355_ (sm_nt_13 : sm_nt 13 (g124 1046 0) (g124 1100023 (g124 1046 0)) (g124 1100023 (g124 1100023 (g124 1046 0))) = g124 1100023 (g124 1046 0)) h3357_ (sm_nl_13 : sm_nl 13 (g124 1046 0) (g124 1100007 (g124 1046 0)) (g124 1100025 (g124 1046 0)) (g124 1100007 (g124 1100025 (g124 1046 0))) (g124 1100025 (g124 1100025 (g124 1046 0))) = g124 1100025 (g124 1046 0)) h3358_ (sm_nt_13 : sm_nt 13 (g124 1100007 (g124 1046 0)) (g124 1100007 (g124 1100023 (g124 1046 0))) (g124 1100007 (g124 1100023 (g124 1100023 (g124 1046 0)))) = g124 1100007 (g124 1100023 (g124 1046 0))) h3369_ h3370_ h3372_ h3373_ h3374_ h3375_ (sm_dl_18 : sm_dl 18 0 = 1) (sm_nt_18 : sm_nt 18 (g131 1046 0) (g131 1100023 (g131 1046 0)) (g131 1100023 (g131 1100023 (g131 1046 0))) = g131 1100023 (g131 1046 0)) (sm_nl_18 : sm_nl 18 (g131 1046 0) (g131 1100007 (g131 1046 0)) (g131 1100025 (g131 1046 0)) (g131 1100007 (g131 1100025 (g131 1046 0))) (g131 1100025 (g131 1100025 (g131 1046 0))) = g131 1100025 (g131 1046 0)))), ?_⟩
    refine ⟨la_stepBehind_380, ?_⟩
    intro h3376_
    have h3377_ := (h3376_.resolve_left la_stepBehind_381)
    have h3378_ := (h33_ (la_stepBehind_385 h3377_))
    have h3379_ := (h34_ (la_stepBehind_385 h3377_))
    have h3380_ := (h3367_.resolve_left (la_stepBehind_386 h3377_))
    have e3381_ : S 1100007 (S 1100023 (S 1046 0)) = S 1100007 (S 1046 0) := congrArg ((S 1100007)) (la_stepBehind_387 h3377_)
    have e3382_ : S 1100007 (S 1100025 (S 1046 0)) = S 1100007 (S 1046 0) := congrArg ((S 1100007)) (la_stepBehind_387 h3377_)
    have e3383_ : S 1100007 (S 1100025 (S 1046 0)) = S 1100007 (S 1100023 (S 1046 0)) := congrArg ((S 1100007)) (la_stepBehind_387 h3377_)
    have e3384_ : S 1100007 (g124 1046 0) = S 1100007 (S 1046 0) := congrArg ((S 1100007)) (la_stepBehind_387 h3377_)
    have e3385_ : S 1100007 (g124 1046 0) = S 1100007 (S 1100023 (S 1046 0)) := congrArg ((S 1100007)) (la_stepBehind_387 h3377_)
    have e3386_ : S 1100007 (g124 1046 0) = S 1100007 (S 1100025 (S 1046 0)) := congrArg ((S 1100007)) (la_stepBehind_387 h3377_)
    have e3387_ : S 1100007 (g124 1100023 (g124 1046 0)) = S 1100007 (S 1046 0) := congrArg ((S 1100007)) (la_stepBehind_387 h3377_)
    have e3388_ : S 1100007 (g124 1100023 (g124 1046 0)) = S 1100007 (S 1100023 (S 1046 0)) := congrArg ((S 1100007)) h3370_
    have e3389_ : S 1100007 (g124 1100023 (g124 1046 0)) = S 1100007 (S 1100025 (S 1046 0)) := congrArg ((S 1100007)) (la_stepBehind_387 h3377_)
    have e3390_ : S 1100007 (g124 1100023 (g124 1046 0)) = S 1100007 (g124 1046 0) := congrArg ((S 1100007)) (la_stepBehind_387 h3377_)
    have e3391_ : S 1100007 (g124 1100025 (g124 1046 0)) = S 1100007 (S 1046 0) := congrArg ((S 1100007)) (la_stepBehind_387 h3377_)
    have e3392_ : S 1100007 (g124 1100025 (g124 1046 0)) = S 1100007 (S 1100023 (S 1046 0)) := congrArg ((S 1100007)) (la_stepBehind_387 h3377_)
    have e3393_ : S 1100007 (g124 1100025 (g124 1046 0)) = S 1100007 (S 1100025 (S 1046 0)) := congrArg ((S 1100007)) h3372_
    have e3394_ : S 1100007 (g124 1100025 (g124 1046 0)) = S 1100007 (g124 1046 0) := congrArg ((S 1100007)) (la_stepBehind_387 h3377_)
    have e3395_ : S 1100007 (g124 1100025 (g124 1046 0)) = S 1100007 (g124 1100023 (g124 1046 0)) := congrArg ((S 1100007)) (la_stepBehind_387 h3377_)
    have e3396_ : S 1100007 (g131 1046 0) = S 1100007 (S 1046 0) := congrArg ((S 1100007)) (la_stepBehind_387 h3377_)
    have e3397_ : S 1100007 (g131 1046 0) = S 1100007 (S 1100023 (S 1046 0)) := congrArg ((S 1100007)) (la_stepBehind_387 h3377_)
    have e3398_ : S 1100007 (g131 1046 0) = S 1100007 (S 1100025 (S 1046 0)) := congrArg ((S 1100007)) (la_stepBehind_387 h3377_)
    have e3399_ : S 1100007 (g131 1046 0) = S 1100007 (g124 1046 0) := congrArg ((S 1100007)) (la_stepBehind_387 h3377_)
    have e3400_ : S 1100007 (g131 1046 0) = S 1100007 (g124 1100023 (g124 1046 0)) := congrArg ((S 1100007)) (la_stepBehind_387 h3377_)
    have e3401_ : S 1100007 (g131 1046 0) = S 1100007 (g124 1100025 (g124 1046 0)) := congrArg ((S 1100007)) (la_stepBehind_387 h3377_)
    have e3402_ : S 1100007 (g131 1100023 (g131 1046 0)) = S 1100007 (S 1046 0) := congrArg ((S 1100007)) (la_stepBehind_387 h3377_)
    have e3403_ : S 1100007 (g131 1100023 (g131 1046 0)) = S 1100007 (S 1100023 (S 1046 0)) := congrArg ((S 1100007)) (la_stepBehind_387 h3377_)
    have e3404_ : S 1100007 (g131 1100023 (g131 1046 0)) = S 1100007 (S 1100025 (S 1046 0)) := congrArg ((S 1100007)) (la_stepBehind_387 h3377_)
    have e3405_ : S 1100007 (g131 1100023 (g131 1046 0)) = S 1100007 (g124 1046 0) := congrArg ((S 1100007)) (la_stepBehind_387 h3377_)
    have e3406_ : S 1100007 (g131 1100023 (g131 1046 0)) = S 1100007 (g124 1100023 (g124 1046 0)) := congrArg ((S 1100007)) (la_stepBehind_387 h3377_)
    have e3407_ : S 1100007 (g131 1100023 (g131 1046 0)) = S 1100007 (g124 1100025 (g124 1046 0)) := congrArg ((S 1100007)) (la_stepBehind_387 h3377_)
    have e3408_ : S 1100007 (g131 1100023 (g131 1046 0)) = S 1100007 (g131 1046 0) := congrArg ((S 1100007)) (la_stepBehind_387 h3377_)
    have e3409_ : S 1100007 (g131 1100025 (g131 1046 0)) = S 1100007 (S 1046 0) := congrArg ((S 1100007)) (la_stepBehind_387 h3377_)
    have e3410_ : S 1100007 (g131 1100025 (g131 1046 0)) = S 1100007 (S 1100023 (S 1046 0)) := congrArg ((S 1100007)) (la_stepBehind_387 h3377_)
    have e3411_ : S 1100007 (g131 1100025 (g131 1046 0)) = S 1100007 (S 1100025 (S 1046 0)) := congrArg ((S 1100007)) (la_stepBehind_387 h3377_)
    have e3412_ : S 1100007 (g131 1100025 (g131 1046 0)) = S 1100007 (g124 1046 0) := congrArg ((S 1100007)) (la_stepBehind_387 h3377_)
    have e3413_ : S 1100007 (g131 1100025 (g131 1046 0)) = S 1100007 (g124 1100023 (g124 1046 0)) := congrArg ((S 1100007)) (la_stepBehind_387 h3377_)
    have e3414_ : S 1100007 (g131 1100025 (g131 1046 0)) = S 1100007 (g124 1100025 (g124 1046 0)) := congrArg ((S 1100007)) (la_stepBehind_387 h3377_)
    have e3415_ : S 1100007 (g131 1100025 (g131 1046 0)) = S 1100007 (g131 1046 0) := congrArg ((S 1100007)) (la_stepBehind_387 h3377_)
    have e3416_ : S 1100007 (g131 1100025 (g131 1046 0)) = S 1100007 (g131 1100023 (g131 1046 0)) := congrArg ((S 1100007)) (la_stepBehind_387 h3377_)
    have e3417_ : S 1100023 (g124 1046 0) = S 1100023 (S 1046 0) := congrArg ((S 1100023)) (la_stepBehind_387 h3377_)
    have e3418_ : S 1100023 (g131 1046 0) = S 1100023 (S 1046 0) := congrArg ((S 1100023)) (la_stepBehind_387 h3377_)
    have e3419_ : S 1100023 (g131 1046 0) = S 1100023 (g124 1046 0) := congrArg ((S 1100023)) (la_stepBehind_387 h3377_)
    have e3420_ : S 1100024 (g124 1046 0) = S 1100024 (S 1046 0) := congrArg ((S 1100024)) (la_stepBehind_387 h3377_)
    have e3421_ : S 1100024 (g131 1046 0) = S 1100024 (S 1046 0) := congrArg ((S 1100024)) (la_stepBehind_387 h3377_)
    have e3422_ : S 1100024 (g131 1046 0) = S 1100024 (g124 1046 0) := congrArg ((S 1100024)) (la_stepBehind_387 h3377_)
    have e3423_ : S 1100025 (g124 1046 0) = S 1100025 (S 1046 0) := congrArg ((S 1100025)) (la_stepBehind_387 h3377_)
    have e3424_ : S 1100025 (g131 1046 0) = S 1100025 (S 1046 0) := congrArg ((S 1100025)) (la_stepBehind_387 h3377_)
    have e3425_ : S 1100025 (g131 1046 0) = S 1100025 (g124 1046 0) := congrArg ((S 1100025)) (la_stepBehind_387 h3377_)
    have e3426_ : S 26 (g124 1046 0) = S 26 (S 1046 0) := congrArg ((S 26)) (la_stepBehind_387 h3377_)
    have e3427_ : S 29 (g124 1046 0) = S 29 (S 1046 0) := congrArg ((S 29)) (la_stepBehind_387 h3377_)
    have e3428_ : g124 1100007 (g124 1100023 (g124 1046 0)) = g124 1100007 (g124 1046 0) := congrArg ((g124 1100007)) (la_stepBehind_387 h3377_)
    have e3429_ : g124 1100007 (g124 1100023 (g124 1100023 (g124 1046 0))) = g124 1100007 (g124 1046 0) := congrArg ((g124 1100007)) (la_stepBehind_387 h3377_)
    have e3430_ : g124 1100007 (g124 1100023 (g124 1100023 (g124 1046 0))) = g124 1100007 (g124 1100023 (g124 1046 0)) := congrArg ((g124 1100007)) (la_stepBehind_387 h3377_)
    have e3431_ : g124 1100007 (g124 1100025 (g124 1046 0)) = g124 1100007 (g124 1046 0) := congrArg ((g124 1100007)) (la_stepBehind_387 h3377_)
    have e3432_ : g124 1100007 (g124 1100025 (g124 1046 0)) = g124 1100007 (g124 1100023 (g124 1046 0)) := congrArg ((g124 1100007)) (la_stepBehind_387 h3377_)
    have e3433_ : g124 1100007 (g124 1100025 (g124 1046 0)) = g124 1100007 (g124 1100023 (g124 1100023 (g124 1046 0))) := congrArg ((g124 1100007)) (la_stepBehind_387 h3377_)
    have e3434_ : g124 1100007 (g131 1046 0) = g124 1100007 (g124 1046 0) := congrArg ((g124 1100007)) (la_stepBehind_387 h3377_)
    have e3435_ : g124 1100007 (g131 1046 0) = g124 1100007 (g124 1100023 (g124 1046 0)) := congrArg ((g124 1100007)) (la_stepBehind_387 h3377_)
    have e3436_ : g124 1100007 (g131 1046 0) = g124 1100007 (g124 1100023 (g124 1100023 (g124 1046 0))) := congrArg ((g124 1100007)) (la_stepBehind_387 h3377_)
    have e3437_ : g124 1100007 (g131 1046 0) = g124 1100007 (g124 1100025 (g124 1046 0)) := congrArg ((g124 1100007)) (la_stepBehind_387 h3377_)
    have e3438_ : g124 1100007 (g131 1100023 (g131 1046 0)) = g124 1100007 (g124 1046 0) := congrArg ((g124 1100007)) (la_stepBehind_387 h3377_)
    have e3439_ : g124 1100007 (g131 1100023 (g131 1046 0)) = g124 1100007 (g124 1100023 (g124 1046 0)) := congrArg ((g124 1100007)) (la_stepBehind_387 h3377_)
    have e3440_ : g124 1100007 (g131 1100023 (g131 1046 0)) = g124 1100007 (g124 1100023 (g124 1100023 (g124 1046 0))) := congrArg ((g124 1100007)) (la_stepBehind_387 h3377_)
    have e3441_ : g124 1100007 (g131 1100023 (g131 1046 0)) = g124 1100007 (g124 1100025 (g124 1046 0)) := congrArg ((g124 1100007)) (la_stepBehind_387 h3377_)
    have e3442_ : g124 1100007 (g131 1100023 (g131 1046 0)) = g124 1100007 (g131 1046 0) := congrArg ((g124 1100007)) (la_stepBehind_387 h3377_)
    have e3443_ : g124 1100007 (g131 1100025 (g131 1046 0)) = g124 1100007 (g124 1046 0) := congrArg ((g124 1100007)) (la_stepBehind_387 h3377_)
    have e3444_ : g124 1100007 (g131 1100025 (g131 1046 0)) = g124 1100007 (g124 1100023 (g124 1046 0)) := congrArg ((g124 1100007)) (la_stepBehind_387 h3377_)
    have e3445_ : g124 1100007 (g131 1100025 (g131 1046 0)) = g124 1100007 (g124 1100023 (g124 1100023 (g124 1046 0))) := congrArg ((g124 1100007)) (la_stepBehind_387 h3377_)
    have e3446_ : g124 1100007 (g131 1100025 (g131 1046 0)) = g124 1100007 (g124 1100025 (g124 1046 0)) := congrArg ((g124 1100007)) (la_stepBehind_387 h3377_)
    have e3447_ : g124 1100007 (g131 1100025 (g131 1046 0)) = g124 1100007 (g131 1046 0) := congrArg ((g124 1100007)) (la_stepBehind_387 h3377_)
    have e3448_ : g124 1100007 (g131 1100025 (g131 1046 0)) = g124 1100007 (g131 1100023 (g131 1046 0)) := congrArg ((g124 1100007)) (la_stepBehind_387 h3377_)
    have e3449_ : g124 1100023 (g124 1100023 (g124 1046 0)) = g124 1100023 (g124 1046 0) := congrArg ((g124 1100023)) (la_stepBehind_387 h3377_)
    have e3450_ : g124 1100023 (g131 1046 0) = g124 1100023 (g124 1046 0) := congrArg ((g124 1100023)) (la_stepBehind_387 h3377_)
    have e3451_ : g124 1100023 (g131 1046 0) = g124 1100023 (g124 1100023 (g124 1046 0)) := congrArg ((g124 1100023)) (la_stepBehind_387 h3377_)
    have e3452_ : g124 1100024 (g131 1046 0) = g124 1100024 (g124 1046 0) := congrArg ((g124 1100024)) (la_stepBehind_387 h3377_)
    have e3453_ : g124 1100025 (g124 1100025 (g124 1046 0)) = g124 1100025 (g124 1046 0) := congrArg ((g124 1100025)) (la_stepBehind_387 h3377_)
    have e3454_ : g124 1100025 (g131 1046 0) = g124 1100025 (g124 1046 0) := congrArg ((g124 1100025)) (la_stepBehind_387 h3377_)
    have e3455_ : g124 1100025 (g131 1046 0) = g124 1100025 (g124 1100025 (g124 1046 0)) := congrArg ((g124 1100025)) (la_stepBehind_387 h3377_)
    have e3456_ : g124 26 (g124 1046 0) = g124 26 (S 1046 0) := congrArg ((g124 26)) (la_stepBehind_387 h3377_)
    have e3457_ : g124 29 (g124 1046 0) = g124 29 (S 1046 0) := congrArg ((g124 29)) (la_stepBehind_387 h3377_)
    have e3458_ : g131 1100007 (g131 1100023 (g131 1046 0)) = g131 1100007 (g131 1046 0) := congrArg ((g131 1100007)) (la_stepBehind_387 h3377_)
    have e3459_ : g131 1100007 (g131 1100025 (g131 1046 0)) = g131 1100007 (g131 1046 0) := congrArg ((g131 1100007)) (la_stepBehind_387 h3377_)
    have e3460_ : g131 1100007 (g131 1100025 (g131 1046 0)) = g131 1100007 (g131 1100023 (g131 1046 0)) := congrArg ((g131 1100007)) (la_stepBehind_387 h3377_)
    have e3461_ : g131 1100023 (g131 1100023 (g131 1046 0)) = g131 1100023 (g131 1046 0) := congrArg ((g131 1100023)) (la_stepBehind_387 h3377_)
    have e3462_ : g131 1100025 (g131 1100025 (g131 1046 0)) = g131 1100025 (g131 1046 0) := congrArg ((g131 1100025)) (la_stepBehind_387 h3377_)
    have e3463_ : S 1100007 (g124 1100023 (g124 1100023 (g124 1046 0))) = S 1100007 (S 1046 0) := congrArg ((S 1100007)) (la_stepBehind_387 h3377_)
    have e3464_ : S 1100007 (g124 1100023 (g124 1100023 (g124 1046 0))) = S 1100007 (S 1100023 (S 1046 0)) := congrArg ((S 1100007)) (la_stepBehind_387 h3377_)
    have e3465_ : S 1100007 (g124 1100023 (g124 1100023 (g124 1046 0))) = S 1100007 (S 1100025 (S 1046 0)) := congrArg ((S 1100007)) (la_stepBehind_387 h3377_)
    have e3466_ : S 1100007 (g124 1100023 (g124 1100023 (g124 1046 0))) = S 1100007 (g124 1046 0) := congrArg ((S 1100007)) (la_stepBehind_387 h3377_)
    have e3467_ : S 1100007 (g124 1100023 (g124 1100023 (g124 1046 0))) = S 1100007 (g124 1100023 (g124 1046 0)) := congrArg ((S 1100007)) e3449_
    have e3468_ : S 1100007 (g124 1100025 (g124 1046 0)) = S 1100007 (g124 1100023 (g124 1100023 (g124 1046 0))) := congrArg ((S 1100007)) (la_stepBehind_387 h3377_)
    have e3469_ : S 1100007 (g131 1046 0) = S 1100007 (g124 1100023 (g124 1100023 (g124 1046 0))) := congrArg ((S 1100007)) (la_stepBehind_387 h3377_)
    have e3470_ : S 1100007 (g131 1100023 (g131 1046 0)) = S 1100007 (g124 1100023 (g124 1100023 (g124 1046 0))) := congrArg ((S 1100007)) (la_stepBehind_387 h3377_)
    have e3471_ : S 1100007 (g131 1100025 (g131 1046 0)) = S 1100007 (g124 1100023 (g124 1100023 (g124 1046 0))) := congrArg ((S 1100007)) (la_stepBehind_387 h3377_)
    have e3472_ : S 1100023 (g124 1100023 (g124 1046 0)) = S 1100023 (S 1046 0) := congrArg ((S 1100023)) (la_stepBehind_387 h3377_)
    have e3473_ : S 1100023 (g124 1100023 (g124 1046 0)) = S 1100023 (g124 1046 0) := congrArg ((S 1100023)) (la_stepBehind_387 h3377_)
    have e3474_ : S 1100023 (g131 1046 0) = S 1100023 (g124 1100023 (g124 1046 0)) := congrArg ((S 1100023)) (la_stepBehind_387 h3377_)
    have e3475_ : S 1100023 (g131 1100023 (g131 1046 0)) = S 1100023 (S 1046 0) := congrArg ((S 1100023)) (la_stepBehind_387 h3377_)
    have e3476_ : S 1100023 (g131 1100023 (g131 1046 0)) = S 1100023 (g124 1046 0) := congrArg ((S 1100023)) (la_stepBehind_387 h3377_)
    have e3477_ : S 1100023 (g131 1100023 (g131 1046 0)) = S 1100023 (g124 1100023 (g124 1046 0)) := congrArg ((S 1100023)) (la_stepBehind_387 h3377_)
    have e3478_ : S 1100023 (g131 1100023 (g131 1046 0)) = S 1100023 (g131 1046 0) := congrArg ((S 1100023)) (la_stepBehind_387 h3377_)
    have e3479_ : S 1100025 (g124 1100025 (g124 1046 0)) = S 1100025 (S 1046 0) := congrArg ((S 1100025)) (la_stepBehind_387 h3377_)
    have e3480_ : S 1100025 (g124 1100025 (g124 1046 0)) = S 1100025 (g124 1046 0) := congrArg ((S 1100025)) (la_stepBehind_387 h3377_)
    have e3481_ : S 1100025 (g131 1046 0) = S 1100025 (g124 1100025 (g124 1046 0)) := congrArg ((S 1100025)) (la_stepBehind_387 h3377_)
    have e3482_ : S 1100025 (g131 1100025 (g131 1046 0)) = S 1100025 (S 1046 0) := congrArg ((S 1100025)) (la_stepBehind_387 h3377_)
    have e3483_ : S 1100025 (g131 1100025 (g131 1046 0)) = S 1100025 (g124 1046 0) := congrArg ((S 1100025)) (la_stepBehind_387 h3377_)
    have e3484_ : S 1100025 (g131 1100025 (g131 1046 0)) = S 1100025 (g124 1100025 (g124 1046 0)) := congrArg ((S 1100025)) (la_stepBehind_387 h3377_)
    have e3485_ : S 1100025 (g131 1100025 (g131 1046 0)) = S 1100025 (g131 1046 0) := congrArg ((S 1100025)) (la_stepBehind_387 h3377_)
    have e3486_ : g124 1100023 (g131 1100023 (g131 1046 0)) = g124 1100023 (g124 1046 0) := congrArg ((g124 1100023)) (la_stepBehind_387 h3377_)
    have e3487_ : g124 1100023 (g131 1100023 (g131 1046 0)) = g124 1100023 (g124 1100023 (g124 1046 0)) := congrArg ((g124 1100023)) (la_stepBehind_387 h3377_)
    have e3488_ : g124 1100023 (g131 1100023 (g131 1046 0)) = g124 1100023 (g131 1046 0) := congrArg ((g124 1100023)) (la_stepBehind_387 h3377_)
    have e3489_ : g124 1100025 (g131 1100025 (g131 1046 0)) = g124 1100025 (g124 1046 0) := congrArg ((g124 1100025)) (la_stepBehind_387 h3377_)
    have e3490_ : g124 1100025 (g131 1100025 (g131 1046 0)) = g124 1100025 (g124 1100025 (g124 1046 0)) := congrArg ((g124 1100025)) (la_stepBehind_387 h3377_)
    have e3491_ : g124 1100025 (g131 1100025 (g131 1046 0)) = g124 1100025 (g131 1046 0) := congrArg ((g124 1100025)) (la_stepBehind_387 h3377_)
    exact ((la_stepBehind_388 h3377_)).elim
  refine ⟨(la_stepBehind_226 h16_ h45_), ?_⟩
  intro g139
  rintro ⟨h3492_, ⟨h3493_, ⟨h3494_, ⟨h3495_, ⟨h3496_, ⟨h3497_, ⟨h3498_, ⟨h3499_, ⟨h3500_, ⟨h3501_, ⟨h3502_, ⟨h3503_, ⟨h3504_, ⟨h3505_, ⟨h3506_, ⟨h3507_, h3508_⟩⟩⟩⟩⟩⟩⟩⟩⟩⟩⟩⟩⟩⟩⟩⟩
  refine ⟨(la_stepBehind_21 h3494_), ?_⟩
  refine ⟨h3497_, ?_⟩
  refine ⟨h3492_, ?_⟩
  refine ⟨h3493_, ?_⟩
  refine ⟨h19_, ?_⟩
  refine ⟨h20_, ?_⟩
  refine ⟨(la_stepBehind_103 h3269_ h3332_ h3495_), ?_⟩
  refine ⟨(la_stepBehind_23 h28_ h3493_), ?_⟩
  refine ⟨(sm_F1_tr (sm_F1_tr (sm_F1_le h3274_ (Int.le_refl _)) h3337_ h3269_) h3500_ (la_stepBehind_22 h3269_ h3332_)), ?_⟩
  refine ⟨(sm_F1_tr (sm_F1_tr (sm_F1_le h3275_ (Int.le_refl _)) h3338_ h3269_) h3501_ (la_stepBehind_22 h3269_ h3332_)), ?_⟩
  refine ⟨(sm_F1_tr (sm_F1_tr (sm_F1_le h3276_ (Int.le_refl _)) h3339_ h3269_) h3502_ (la_stepBehind_22 h3269_ h3332_)), ?_⟩
  refine ⟨(sm_F1_tr (sm_F1_tr (sm_F1_le h3277_ (Int.le_refl _)) h3340_ h3269_) h3503_ (la_stepBehind_22 h3269_ h3332_)), ?_⟩
  refine ⟨(sm_F1_tr (sm_F1_tr (sm_F1_le h3278_ (Int.le_refl _)) h3341_ (la_stepBehind_24 h3269_)) h3504_ (la_stepBehind_105 h3269_ h3332_)), ?_⟩
  refine ⟨(sm_F1_tr (sm_F1_tr (sm_F1_le h3279_ (Int.le_refl _)) h3342_ (la_stepBehind_24 h3269_)) h3505_ (la_stepBehind_105 h3269_ h3332_)), ?_⟩
  refine ⟨(sm_F1_tr (sm_F1_tr (sm_F1_le h3280_ (Int.le_refl _)) h3343_ (la_stepBehind_24 h3269_)) h3506_ (la_stepBehind_105 h3269_ h3332_)), ?_⟩
  refine ⟨(sm_F1_tr (sm_F1_tr (sm_F1_le h3281_ (Int.le_refl _)) h3344_ (la_stepBehind_24 h3269_)) h3507_ (la_stepBehind_105 h3269_ h3332_)), ?_⟩
  refine ⟨sm_F1_rf, ?_⟩
  refine ⟨sm_F1_rf, ?_⟩
  refine ⟨sm_F1_rf, ?_⟩
  refine ⟨sm_F1_rf, ?_⟩
  refine ⟨sm_F1_rf, ?_⟩
  refine ⟨sm_F1_rf, ?_⟩
  refine ⟨la_stepBehind_389, ?_⟩
  refine ⟨la_stepBehind_390, ?_⟩
  refine ⟨sm_F1_rf, ?_⟩
  refine ⟨la_stepBehind_391, ?_⟩
  refine ⟨(la_stepBehind_392 h16_ h45_), ?_⟩
  intro h3509_
  have h3510_ : ¬ (g131 1047 0 = 1) := fun q_ => (la_stepBehind_3 h3509_) (h3498_ q_)
  obtain ⟨h3511_, ⟨h3512_, ⟨h3513_, ⟨h3514_, ⟨h3515_, ⟨h3516_, ⟨h3517_, ⟨h3518_, ⟨h3519_, ⟨h3520_, ⟨h3521_, ⟨h3522_, ⟨h3523_, h3524_⟩⟩⟩⟩⟩⟩⟩⟩⟩⟩⟩⟩⟩ := (h3508_ h3509_)
  have h3525_ : ¬ (g124 1047 0 = 1) := fun q_ => h3510_ (h3335_ q_)
  have h3526_ := (h3524_ la_stepBehind_393)
  obtain ⟨h3527_, ⟨h3528_, ⟨h3529_, ⟨h3530_, ⟨h3531_, ⟨h3532_, ⟨h3533_, ⟨h3534_, ⟨h3535_, ⟨h3536_, ⟨h3537_, ⟨h3538_, ⟨h3539_, h3540_⟩⟩⟩⟩⟩⟩⟩⟩⟩⟩⟩⟩⟩ := (h3345_ h3511_)
  have h3541_ := (h3526_ la_stepBehind_395)
  have h3542_ := (h3540_ la_stepBehind_273)
  obtain ⟨h3543_, ⟨h3544_, ⟨h3545_, ⟨h3546_, ⟨h3547_, ⟨h3548_, ⟨h3549_, ⟨h3550_, ⟨h3551_, ⟨h3552_, ⟨h3553_, h3554_⟩⟩⟩⟩⟩⟩⟩⟩⟩⟩⟩ := (h3282_ h3527_)
  have h3555_ := (h3542_ la_stepBehind_275)
  refine ⟨h28_, ?_⟩
  refine ⟨h3513_, ?_⟩
  refine ⟨h30_, ?_⟩
  refine ⟨h31_, ?_⟩
  refine ⟨(la_stepBehind_396 h32_ h3512_ h3528_ h3544_), ?_⟩
  refine ⟨(la_stepBehind_397 e3252_ h3512_ h3528_ h3544_), ?_⟩
  refine ⟨(sm_FC_1 (((sm_F1_at h3503_ (S 1046 0) (la_stepBehind_115 h3528_ h3544_)).trans ((sm_F1_at h3340_ (S 1046 0) (la_stepBehind_116 h3544_)).trans rfl)).trans h3548_) (sm_FC_1 (((sm_F1_at h3503_ (S 1046 0 + 1) (la_stepBehind_117 h3528_ h3544_)).trans ((congrArg (g131 29) (la_stepBehind_118 h3270_ h3544_)).trans h3532_)).trans rfl) (sm_FC_1 (((congrArg (g139 29) (la_stepBehind_119 h3270_ h3333_ h3528_ h3544_)).trans h3516_).trans rfl) (sm_FC_0 (la_stepBehind_120 h3270_ h3333_ h3496_))))), ?_⟩
  refine ⟨(la_stepBehind_398 h60_ e3252_ (sv_i01 (p := (1 : Int) = 1)).2 e3283_ h3517_ (sm_dl_18 : sm_dl 18 0 = 1) h3533_ (sm_dl_13 : sm_dl 13 0 = 0) h3549_), ?_⟩
  refine ⟨(la_stepBehind_154 h3518_ (sm_nt_18 : sm_nt 18 (g131 1046 0) (g131 1100023 (g131 1046 0)) (g131 1100023 (g131 1100023 (g131 1046 0))) = g131 1100023 (g131 1046 0)) h3534_ (sm_nt_13 : sm_nt 13 (g124 1046 0) (g124 1100023 (g124 1046 0)) (g124 1100023 (g124 1100023 (g124 1046 0))) = g124 1100023 (g124 1046 0)) h3550_), ?_⟩
  refine ⟨(la_stepBehind_154 h3519_ (sm_nd_18 : sm_nd 18 (g131 1100024 (g131 1046 0)) = g131 1100024 (g131 1046 0)) h3535_ (sm_nd_13 : sm_nd 13 (g124 1100024 (g124 1046 0)) = g124 1100024 (g124 1046 0)) h3551_), ?_⟩
  refine ⟨(la_stepBehind_154 h3520_ (sm_nl_18 : sm_nl 18 (g131 1046 0) (g131 1100007 (g131 1046 0)) (g131 1100025 (g131 1046 0)) (g131 1100007 (g131 1100025 (g131 1046 0))) (g131 1100025 (g131 1100025 (g131 1046 0))) = g131 1100025 (g131 1046 0)) h3536_ (sm_nl_13 : sm_nl 13 (g124 1046 0) (g124 1100007 (g124 1046 0)) (g124 1100025 (g124 1046 0)) (g124 1100007 (g124 1100025 (g124 1046 0))) (g124 1100025 (g124 1100025 (g124 1046 0))) = g124 1100025 (g124 1046 0)) h3552_), ?_⟩
  refine ⟨(la_stepBehind_154 h3521_ (sm_nt_18 : sm_nt 18 (g131 1100007 (g131 1046 0)) (g131 1100007 (g131 1100023 (g131 1046 0))) (g131 1100007 (g131 1100023 (g131 1100023 (g131 1046 0)))) = g131 1100007 (g131 1100023 (g131 1046 0))) h3537_ (sm_nt_13 : sm_nt 13 (g124 1100007 (g124 1046 0)) (g124 1100007 (g124 1100023 (g124 1046 0))) (g124 1100007 (g124 1100023 (g124 1100023 (g124 1046 0)))) = g124 1100007 (g124 1100023 (g124 1046 0))) h3553_), ?_⟩
  refine ⟨(la_stepBehind_399 h3541_ h3554_ h3555_), ?_⟩
  refine ⟨(sm_AP_0 la_stepBehind_389), ?_⟩
  refine ⟨(sm_HB_1 (by rw [((sm_F1_at h3504_ (S 1046 0) (la_stepBehind_135 h3528_ h3544_)).trans ((sm_F1_at h3341_ (S 1046 0) (la_stepBehind_136 h3544_)).trans ((sm_F1_at h3278_ (S 1046 0) la_stepBehind_42).trans rfl)))]; exact (la_stepBehind_400 h48_ h3512_ h3528_ h3544_)) (sm_HB_1 (by rw [((sm_F1_at h3504_ (S 1046 0 + 1) (la_stepBehind_138 h3528_ h3544_)).trans ((sm_F1_at h3341_ (S 1046 0 + 1) (la_stepBehind_139 h3544_)).trans ((congrArg (g124 1100007) (la_stepBehind_118 h3270_ h3544_)).trans h3549_)))]; exact (la_stepBehind_401 h48_ e3283_ h3512_ h3528_ h3544_)) (sm_HB_1 (by rw [((sm_F1_at h3504_ (S 1046 0 + 1 + 1) (la_stepBehind_141 h3528_ h3544_)).trans ((congrArg (g131 1100007) (la_stepBehind_119 h3270_ h3333_ h3528_ h3544_)).trans h3533_))]; exact (la_stepBehind_402 h48_ (sv_i01 (p := (1 : Int) = 1)).2 h3512_ h3528_ (sm_dl_13 : sm_dl 13 0 = 0) h3544_ h3549_)) (sm_HB_0 (la_stepBehind_120 h3270_ h3333_ h3496_))))), ?_⟩
  refine ⟨(la_stepBehind_403 h3512_ h3528_ h3544_), ?_⟩
  exact trivial
set_option maxRecDepth 8000 in
set_option maxHeartbeats 2000000 in
theorem s_stepBehind (d : Int) (h0 : 0 ≤ d) (IH : ∀ d' : Int, 0 ≤ d' → d' < d → P_K d') : T_stepBehind d := by
  intro p1 p2 S hok hp1 hp2 hpre hd
  have h := f_stepBehind d p1 p2 S hok hp1 hp2 hpre hd
  have hM := sm_h105
  show sv_T sm_XS sm_cs sm_L sm_sh ((S 1100002 p2) + (600 - (S 1046 0)) + 9).toNat (q_stepBehind p1 p2 S) 105 0 [(0, .ref 0), (1, sv_I p1), (2, sv_I p2)] [] S
  have k1 : (sm_WF (S 11) (S 12) (S 13) (S 1100001) (S 1100002) (S 1100005) (S 1100003) (S 1100004) (S 1024 0) (S 1007 0) (S 1009 0) (sm_fn (S 1032 0) (S 21) (S 1056 0)) → 0 ≤ p2 → p2 < (S 1024 0) → ((S 1100001 (p2)) = 1 → 0 ≤ (S 1100002 (p2)) ∧ ((S 11 (p2)) = 3 → (S 12 (5 * (p2) + 1)) < (p2)) ∧ ((S 11 (p2)) = 4 ∨ (S 11 (p2)) = 5 ∨ (S 11 (p2)) = 8 ∨ (S 11 (p2)) = 9 → 17 * (S 1100005 (p2)) + 2 ≤ (S 1100002 (p2))) ∧ 0 ≤ (S 1100005 (p2))) ∧ ((S 1100001 (p2)) = 2 → 0 ≤ (S 1100005 (p2)) ∧ (S 1100002 (p2)) ≤ 17 * (S 1100005 (p2)) + 5 ∧ ((S 11 (p2)) = 33 → 1 ≤ (S 1100005 (p2)))) ∧ ((S 1100001 (p2)) = 6 → 0 ≤ (S 1100002 (p2)) ∧ 1 ≤ (S 1100004 (p2)) ∧ ((S 12 (5 * (p2))) = - 1 → (S 1100004 (p2)) = 2)) ∧ ((S 1100001 (p2)) = 3 → 1 ≤ (S 1100002 (p2)))) := fun h a0 a1 => sm_gx h _ a0 a1
  have h := h k1
  have k2 : (sm_WF (S 11) (S 12) (S 13) (S 1100001) (S 1100002) (S 1100005) (S 1100003) (S 1100004) (S 1024 0) (S 1007 0) (S 1009 0) (sm_fn (S 1032 0) (S 21) (S 1056 0)) → 0 ≤ p2 → p2 < (S 1024 0) → (S 1100001 p2) = 1 → (S 11 p2) = 2 → sm_nm (S 1007 0) (S 1009 0) ((S 12 (5 * (p2))))) := fun h a0 a1 a2 a3 => sm_g1_2 h _ a0 a1 a2 a3
  have h := h k2
  have k3 : (sm_WF (S 11) (S 12) (S 13) (S 1100001) (S 1100002) (S 1100005) (S 1100003) (S 1100004) (S 1024 0) (S 1007 0) (S 1009 0) (sm_fn (S 1032 0) (S 21) (S 1056 0)) → 0 ≤ p2 → p2 < (S 1024 0) → (S 1100001 p2) = 1 → (S 11 p2) = 7 → sm_ex (S 1100001) (S 1100002) (S 1100005) (S 1024 0) 1 ((S 12 (5 * (p2)))) ((S 1100002 (p2))) ((S 1100005 (p2))) ∧ (S 12 (5 * (p2))) < (p2) ∧ sm_ex (S 1100001) (S 1100002) (S 1100005) (S 1024 0) 1 ((S 12 (5 * (p2) + 1))) (((S 1100002 (p2))) - 1) ((S 1100005 (p2))) ∧ (S 12 (5 * (p2) + 1)) < (p2)) := fun h a0 a1 a2 a3 => sm_g1_7 h _ a0 a1 a2 a3
  have h := h k3
  have k4 : (sm_nm (S 1007 0) (S 1009 0) ((S 12 (5 * p2))) → (S 1009 0) = 0 → 0 ≤ (S 12 (5 * p2)) ∧ (S 12 (5 * p2)) < (S 1007 0)) := fun h a => sm_h_nm h a
  have h := h k4
  have k5 : (2 ≤ (if (S 11 p2) = 2 then (2 : Int) else 4) ∧ (if (S 11 p2) = 2 then (2 : Int) else 4) ≤ 4 ∧ ((S 11 p2) = 2 → (if (S 11 p2) = 2 then (2 : Int) else 4) = 2) ∧ (¬ (S 11 p2) = 2 → (if (S 11 p2) = 2 then (2 : Int) else 4) = 4)) := sm_h_24
  have h := h k5
  have J58 : ∀ g6 : sv_S, sm_ok (sv_sts S [26, 27, 28, 29, 1046, 1047, 1100007, 1100023, 1100024, 1100025, 1053, 31, 1100030, 1100009, 1100027, 1100028, 1100026, 1055, 1100033, 39, 1066] g6) → (0 ≤ (g6 1046 0) ∧ (g6 1046 0) ≤ 600 ∧ 0 ≤ (g6 1047 0) ∧ (g6 1047 0) ≤ 1 ∧ 0 ≤ (g6 1053 0) ∧ 0 ≤ (g6 1066 0) ∧ (S 1046 0) ≤ (g6 1046 0) ∧ ((S 1047 0) = 1 → (g6 1047 0) = 1) ∧ sm_F1 (S 26) (g6 26) (S 1046 0) ∧ sm_F1 (S 27) (g6 27) (S 1046 0) ∧ sm_F1 (S 28) (g6 28) (S 1046 0) ∧ sm_F1 (S 29) (g6 29) (S 1046 0) ∧ sm_F1 (S 1100007) (g6 1100007) ((S 1046 0) + 1) ∧ sm_F1 (S 1100023) (g6 1100023) ((S 1046 0) + 1) ∧ sm_F1 (S 1100024) (g6 1100024) ((S 1046 0) + 1) ∧ sm_F1 (S 1100025) (g6 1100025) ((S 1046 0) + 1) ∧ sm_F1 (S 1100009) (g6 1100009) (S 1053 0) ∧ sm_F1 (S 1100027) (g6 1100027) (S 1053 0) ∧ sm_F1 (S 1100028) (g6 1100028) (S 1053 0) ∧ sm_F1 (S 1100026) (g6 1100026) (S 1053 0) ∧ sm_F1 (S 1100030) (g6 1100030) (S 1053 0) ∧ sm_F1 (S 31) (g6 31) (S 1053 0) ∧ (S 1053 0) ≤ (g6 1053 0) ∧ (g6 1066 0) = (S 1066 0) ∧ sm_F1 (S 39) (g6 39) (S 1066 0) ∧ ((S 1047 0) = 1 → (g6 1053 0) = (S 1053 0)) ∧ ((S 1047 0) = 0 → (g6 1053 0) ≤ (S 1053 0) + 3 * (600 - (S 1046 0)) + (S 1100002 p2)) ∧ ((g6 1047 0) = 0 → (S 1047 0) = 0 ∧ sm_KC (g6 26) (g6 27) (g6 28) (g6 29) (g6 1100007) (g6 1100023) (g6 1100024) (g6 1100025) (g6 31) (g6 1100009) (g6 1100027) (g6 1100028) (g6 1100026) (g6 1100030) (S 21) (S 32) (S 33) (g6 1046 0) (g6 1053 0) (S 1056 0) (S 1032 0) (S 1007 0) (g6 1100033 0) ∧ (g6 1100033 0) = (g6 1055 0) ∧ 0 ≤ (g6 1055 0) ∧ (g6 1055 0) ≤ (g6 1046 0) ∧ (S 1046 0) + (if (S 11 p2) = 2 then (2 : Int) else 4) ≤ (g6 1046 0) ∧ sm_FC (g6 29) (S 1046 0) (g6 1046 0) (S 1056 0) ∧ (g6 1100007 (g6 1046 0)) = (S 1100007 (S 1046 0)) + (if (S 11 p2) = 2 then (2 : Int) else 4) ∧ (g6 1100023 (g6 1046 0)) = (S 1100023 (S 1046 0)) ∧ (g6 1100024 (g6 1046 0)) = (S 1100024 (S 1046 0)) ∧ (g6 1100025 (g6 1046 0)) = (S 1100025 (S 1046 0)) ∧ (g6 1100007 (g6 1100023 (g6 1046 0))) = (S 1100007 (S 1100023 (S 1046 0))) ∧ (g6 1100007 (g6 1100025 (g6 1046 0))) = (S 1100007 (S 1100025 (S 1046 0))) ∧ sm_AP (g6 1100030) (S 1053 0) (g6 1053 0) ∧ sm_HB (g6 1100007) (S 1046 0) (g6 1046 0) (2 * (S 1100007 (S 1046 0)) + ((g6 1046 0) - (S 1046 0)) + 8 * (S 1100005 p2) + 10) ∧ (g6 1053 0) ≤ (S 1053 0) + 3 * ((g6 1046 0) - (S 1046 0)) ∧ True)) → sv_T sm_XS sm_cs sm_L sm_sh ((S 1100002 p2) + (600 - (S 1046 0)) + 9).toNat (q_stepBehind p1 p2 S) 105 83 [(0, .ref 0), (1, sv_I p1), (2, sv_I p2)] [] (sv_sts S [26, 27, 28, 29, 1046, 1047, 1100007, 1100023, 1100024, 1100025, 1053, 31, 1100030, 1100009, 1100027, 1100028, 1100026, 1055, 1100033, 39, 1066] g6) := by
    intro  g6 ok7 hin8
    have h := h.1 g6 hin8
    have md9 : sv_mod [26, 27, 28, 29, 1046, 1047, 1100007, 1100023, 1100024, 1100025, 1053, 31, 1100030, 1100009, 1100027, 1100028, 1100026, 1055, 1100033, 39, 1066] S (sv_sts S [26, 27, 28, 29, 1046, 1047, 1100007, 1100023, 1100024, 1100025, 1053, 31, 1100030, 1100009, 1100027, 1100028, 1100026, 1055, 1100033, 39, 1066] g6) := sv_mod.sts sv_mod.rf (by decide)
    have md10 : sv_mod [26, 27, 28, 29, 1046, 1047, 1100007, 1100023, 1100024, 1100025, 1053, 31, 1100030, 1100009, 1100027, 1100028, 1100026, 1055, 1100033, 39, 1066] S (sv_sts S [26, 27, 28, 29, 1046, 1047, 1100007, 1100023, 1100024, 1100025, 1053, 31, 1100030, 1100009, 1100027, 1100028, 1100026, 1055, 1100033, 39, 1066] g6) := sv_mod.sts sv_mod.rf (by decide)
    have J23 : ∀ g11 : sv_S, sm_ok (sv_sts (sv_sts S [26, 27, 28, 29, 1046, 1047, 1100007, 1100023, 1100024, 1100025, 1053, 31, 1100030, 1100009, 1100027, 1100028, 1100026, 1055, 1100033, 39, 1066] g6) [26, 27, 28, 29, 1046, 1047, 1100007, 1100023, 1100024, 1100025, 1053, 31, 1100030, 1100009, 1100027, 1100028, 1100026, 1055, 1100033, 39, 1066] g11) → (0 ≤ (g11 1046 0) ∧ (g11 1046 0) ≤ 600 ∧ 0 ≤ (g11 1047 0) ∧ (g11 1047 0) ≤ 1 ∧ 0 ≤ (g11 1053 0) ∧ 0 ≤ (g11 1066 0) ∧ (S 1046 0) ≤ (g11 1046 0) ∧ ((S 1047 0) = 1 → (g11 1047 0) = 1) ∧ sm_F1 (S 26) (g11 26) (S 1046 0) ∧ sm_F1 (S 27) (g11 27) (S 1046 0) ∧ sm_F1 (S 28) (g11 28) (S 1046 0) ∧ sm_F1 (S 29) (g11 29) (S 1046 0) ∧ sm_F1 (S 1100007) (g11 1100007) ((S 1046 0) + 1) ∧ sm_F1 (S 1100023) (g11 1100023) ((S 1046 0) + 1) ∧ sm_F1 (S 1100024) (g11 1100024) ((S 1046 0) + 1) ∧ sm_F1 (S 1100025) (g11 1100025) ((S 1046 0) + 1) ∧ sm_F1 (S 1100009) (g11 1100009) (S 1053 0) ∧ sm_F1 (S 1100027) (g11 1100027) (S 1053 0) ∧ sm_F1 (S 1100028) (g11 1100028) (S 1053 0) ∧ sm_F1 (S 1100026) (g11 1100026) (S 1053 0) ∧ sm_F1 (S 1100030) (g11 1100030) (S 1053 0) ∧ sm_F1 (S 31) (g11 31) (S 1053 0) ∧ (S 1053 0) ≤ (g11 1053 0) ∧ (g11 1066 0) = (S 1066 0) ∧ sm_F1 (S 39) (g11 39) (S 1066 0) ∧ ((S 1047 0) = 1 → (g11 1053 0) = (S 1053 0)) ∧ ((S 1047 0) = 0 → (g11 1053 0) ≤ (S 1053 0) + 3 * (600 - (S 1046 0)) + (S 1100002 p2)) ∧ ((g11 1047 0) = 0 → (S 1047 0) = 0 ∧ sm_KC (g11 26) (g11 27) (g11 28) (g11 29) (g11 1100007) (g11 1100023) (g11 1100024) (g11 1100025) (g11 31) (g11 1100009) (g11 1100027) (g11 1100028) (g11 1100026) (g11 1100030) (S 21) (S 32) (S 33) (g11 1046 0) (g11 1053 0) (S 1056 0) (S 1032 0) (S 1007 0) (g11 1100033 0) ∧ (g11 1100033 0) = (g11 1055 0) ∧ 0 ≤ (g11 1055 0) ∧ (g11 1055 0) ≤ (g11 1046 0) ∧ (S 1046 0) + 2 ≤ (g11 1046 0) ∧ sm_FC (g11 29) (S 1046 0) (g11 1046 0) (S 1056 0) ∧ (g11 1100007 (g11 1046 0)) = (S 1100007 (S 1046 0)) + 2 ∧ (g11 1100023 (g11 1046 0)) = (S 1100023 (S 1046 0)) ∧ (g11 1100024 (g11 1046 0)) = (S 1100024 (S 1046 0)) ∧ (g11 1100025 (g11 1046 0)) = (S 1100025 (S 1046 0)) ∧ (g11 1100007 (g11 1100023 (g11 1046 0))) = (S 1100007 (S 1100023 (S 1046 0))) ∧ (g11 1100007 (g11 1100025 (g11 1046 0))) = (S 1100007 (S 1100025 (S 1046 0))) ∧ sm_AP (g11 1100030) (S 1053 0) (g11 1053 0) ∧ sm_HB (g11 1100007) (S 1046 0) (g11 1046 0) (2 * (S 1100007 (S 1046 0)) + ((g11 1046 0) - (S 1046 0)) + 8 * (S 1100005 p2) + 10) ∧ (g11 1053 0) ≤ (S 1053 0) + 3 * ((g11 1046 0) - (S 1046 0)) ∧ True)) → sv_T sm_XS sm_cs sm_L sm_sh ((S 1100002 p2) + (600 - (S 1046 0)) + 9).toNat (q_stepBehind p1 p2 S) 105 126 [(0, .ref 0), (1, sv_I p1), (2, sv_I p2)] [] (sv_sts (sv_sts S [26, 27, 28, 29, 1046, 1047, 1100007, 1100023, 1100024, 1100025, 1053, 31, 1100030, 1100009, 1100027, 1100028, 1100026, 1055, 1100033, 39, 1066] g6) [26, 27, 28, 29, 1046, 1047, 1100007, 1100023, 1100024, 1100025, 1053, 31, 1100030, 1100009, 1100027, 1100028, 1100026, 1055, 1100033, 39, 1066] g11) := by
      intro  g11 ok12 hin13
      have h := h.1 g11 hin13
      have md14 : sv_mod [26, 27, 28, 29, 1046, 1047, 1100007, 1100023, 1100024, 1100025, 1053, 31, 1100030, 1100009, 1100027, 1100028, 1100026, 1055, 1100033, 39, 1066] S (sv_sts (sv_sts S [26, 27, 28, 29, 1046, 1047, 1100007, 1100023, 1100024, 1100025, 1053, 31, 1100030, 1100009, 1100027, 1100028, 1100026, 1055, 1100033, 39, 1066] g6) [26, 27, 28, 29, 1046, 1047, 1100007, 1100023, 1100024, 1100025, 1053, 31, 1100030, 1100009, 1100027, 1100028, 1100026, 1055, 1100033, 39, 1066] g11) := sv_mod.sts md9 (by decide)
      have md15 : sv_mod [26, 27, 28, 29, 1046, 1047, 1100007, 1100023, 1100024, 1100025, 1053, 31, 1100030, 1100009, 1100027, 1100028, 1100026, 1055, 1100033, 39, 1066] (sv_sts S [26, 27, 28, 29, 1046, 1047, 1100007, 1100023, 1100024, 1100025, 1053, 31, 1100030, 1100009, 1100027, 1100028, 1100026, 1055, 1100033, 39, 1066] g6) (sv_sts (sv_sts S [26, 27, 28, 29, 1046, 1047, 1100007, 1100023, 1100024, 1100025, 1053, 31, 1100030, 1100009, 1100027, 1100028, 1100026, 1055, 1100033, 39, 1066] g6) [26, 27, 28, 29, 1046, 1047, 1100007, 1100023, 1100024, 1100025, 1053, 31, 1100030, 1100009, 1100027, 1100028, 1100026, 1055, 1100033, 39, 1066] g11) := sv_mod.sts sv_mod.rf (by decide)
      refine sv_aload_n hM dX12_stepBehind_126 rfl rfl ?_
      refine sv_bipush (d := (17 : Int)) hM dX12_stepBehind_127 rfl rfl ?_
      obtain ⟨o16, h⟩ := h
      obtain ⟨o17, h⟩ := h
      refine sv_callV hM dX12_stepBehind_129 sm_iv_666 (by decide) (sm_a0 _) rfl rfl (Nat.le_of_ble_eq_true rfl) sm_h83 (Nat.le_of_ble_eq_true rfl) (Nat.le_of_ble_eq_true rfl) (F' := 1) (sv_Fn (n := 1) o17) rfl (t_emit_ (17 : Int) (sv_sts (sv_sts S [26, 27, 28, 29, 1046, 1047, 1100007, 1100023, 1100024, 1100025, 1053, 31, 1100030, 1100009, 1100027, 1100028, 1100026, 1055, 1100033, 39, 1066] g6) [26, 27, 28, 29, 1046, 1047, 1100007, 1100023, 1100024, 1100025, 1053, 31, 1100030, 1100009, 1100027, 1100028, 1100026, 1055, 1100033, 39, 1066] g11) ok12 (⟨by decide, by decide⟩ : sv_R (17 : Int)) o16) (fun v S1 hq => ?_)
      obtain ⟨rfl, ok19, md20, hpo21⟩ := hq
      obtain ⟨g18, rfl⟩ : ∃ g, S1 = sv_sts (sv_sts (sv_sts S [26, 27, 28, 29, 1046, 1047, 1100007, 1100023, 1100024, 1100025, 1053, 31, 1100030, 1100009, 1100027, 1100028, 1100026, 1055, 1100033, 39, 1066] g6) [26, 27, 28, 29, 1046, 1047, 1100007, 1100023, 1100024, 1100025, 1053, 31, 1100030, 1100009, 1100027, 1100028, 1100026, 1055, 1100033, 39, 1066] g11) [26, 27, 28, 29, 1046, 1047, 1100007, 1100023, 1100024, 1100025] g := ⟨_, md20.eq⟩
      show sv_T sm_XS sm_cs sm_L sm_sh ((S 1100002 p2) + (600 - (S 1046 0)) + 9).toNat (q_stepBehind p1 p2 S) 105 132 [(0, .ref 0), (1, sv_I p1), (2, sv_I p2)] [] (sv_sts (sv_sts (sv_sts S [26, 27, 28, 29, 1046, 1047, 1100007, 1100023, 1100024, 1100025, 1053, 31, 1100030, 1100009, 1100027, 1100028, 1100026, 1055, 1100033, 39, 1066] g6) [26, 27, 28, 29, 1046, 1047, 1100007, 1100023, 1100024, 1100025, 1053, 31, 1100030, 1100009, 1100027, 1100028, 1100026, 1055, 1100033, 39, 1066] g11) [26, 27, 28, 29, 1046, 1047, 1100007, 1100023, 1100024, 1100025] g18)
      have md22 : sv_mod [26, 27, 28, 29, 1046, 1047, 1100007, 1100023, 1100024, 1100025, 1053, 31, 1100030, 1100009, 1100027, 1100028, 1100026, 1055, 1100033, 39, 1066] S (sv_sts (sv_sts (sv_sts S [26, 27, 28, 29, 1046, 1047, 1100007, 1100023, 1100024, 1100025, 1053, 31, 1100030, 1100009, 1100027, 1100028, 1100026, 1055, 1100033, 39, 1066] g6) [26, 27, 28, 29, 1046, 1047, 1100007, 1100023, 1100024, 1100025, 1053, 31, 1100030, 1100009, 1100027, 1100028, 1100026, 1055, 1100033, 39, 1066] g11) [26, 27, 28, 29, 1046, 1047, 1100007, 1100023, 1100024, 1100025] g18) := sv_mod.sts md14 (by decide)
      have h := h g18 hpo21
      exact sv_vret hM dX12_stepBehind_132 rfl ⟨rfl, ok19, md22, h⟩
    have h := h.2
    refine sv_aload_n hM dX12_stepBehind_83 rfl rfl ?_
    refine sv_iconst (d := (5 : Int)) hM dX12_stepBehind_84 rfl rfl ?_
    refine sv_iconst (d := (1 : Int)) hM dX12_stepBehind_85 rfl rfl ?_
    obtain ⟨o24, h⟩ := h
    obtain ⟨o25, h⟩ := h
    refine sv_callV hM dX12_stepBehind_86 sm_iv_656 (by decide) (sm_a0 _) rfl rfl (Nat.le_of_ble_eq_true rfl) sm_h90 (Nat.le_of_ble_eq_true rfl) (Nat.le_of_ble_eq_true rfl) (F' := 1) (sv_Fn (n := 1) o25) rfl (t_constant (5 : Int) (1 : Int) (sv_sts S [26, 27, 28, 29, 1046, 1047, 1100007, 1100023, 1100024, 1100025, 1053, 31, 1100030, 1100009, 1100027, 1100028, 1100026, 1055, 1100033, 39, 1066] g6) ok7 (⟨by decide, by decide⟩ : sv_R (5 : Int)) (⟨by decide, by decide⟩ : sv_R (1 : Int)) o24) (fun v S1 hq => ?_)
    obtain ⟨rfl, ok27, md28, hpo29⟩ := hq
    obtain ⟨g26, rfl⟩ : ∃ g, S1 = sv_sts (sv_sts S [26, 27, 28, 29, 1046, 1047, 1100007, 1100023, 1100024, 1100025, 1053, 31, 1100030, 1100009, 1100027, 1100028, 1100026, 1055, 1100033, 39, 1066] g6) [26, 27, 28, 29, 1046, 1047, 1100007, 1100023, 1100024, 1100025] g := ⟨_, md28.eq⟩
    show sv_T sm_XS sm_cs sm_L sm_sh ((S 1100002 p2) + (600 - (S 1046 0)) + 9).toNat (q_stepBehind p1 p2 S) 105 89 [(0, .ref 0), (1, sv_I p1), (2, sv_I p2)] [] (sv_sts (sv_sts S [26, 27, 28, 29, 1046, 1047, 1100007, 1100023, 1100024, 1100025, 1053, 31, 1100030, 1100009, 1100027, 1100028, 1100026, 1055, 1100033, 39, 1066] g6) [26, 27, 28, 29, 1046, 1047, 1100007, 1100023, 1100024, 1100025] g26)
    have md30 : sv_mod [26, 27, 28, 29, 1046, 1047, 1100007, 1100023, 1100024, 1100025, 1053, 31, 1100030, 1100009, 1100027, 1100028, 1100026, 1055, 1100033, 39, 1066] S (sv_sts (sv_sts S [26, 27, 28, 29, 1046, 1047, 1100007, 1100023, 1100024, 1100025, 1053, 31, 1100030, 1100009, 1100027, 1100028, 1100026, 1055, 1100033, 39, 1066] g6) [26, 27, 28, 29, 1046, 1047, 1100007, 1100023, 1100024, 1100025] g26) := sv_mod.sts md9 (by decide)
    have md31 : sv_mod [26, 27, 28, 29, 1046, 1047, 1100007, 1100023, 1100024, 1100025, 1053, 31, 1100030, 1100009, 1100027, 1100028, 1100026, 1055, 1100033, 39, 1066] (sv_sts S [26, 27, 28, 29, 1046, 1047, 1100007, 1100023, 1100024, 1100025, 1053, 31, 1100030, 1100009, 1100027, 1100028, 1100026, 1055, 1100033, 39, 1066] g6) (sv_sts (sv_sts S [26, 27, 28, 29, 1046, 1047, 1100007, 1100023, 1100024, 1100025, 1053, 31, 1100030, 1100009, 1100027, 1100028, 1100026, 1055, 1100033, 39, 1066] g6) [26, 27, 28, 29, 1046, 1047, 1100007, 1100023, 1100024, 1100025] g26) := sv_mod.sts (sv_mod.rf (l := [26, 27, 28, 29, 1046, 1047, 1100007, 1100023, 1100024, 1100025, 1053, 31, 1100030, 1100009, 1100027, 1100028, 1100026, 1055, 1100033, 39, 1066]) (S := (sv_sts S [26, 27, 28, 29, 1046, 1047, 1100007, 1100023, 1100024, 1100025, 1053, 31, 1100030, 1100009, 1100027, 1100028, 1100026, 1055, 1100033, 39, 1066] g6))) (by decide)
    have h := h g26 hpo29
    refine sv_aload_n hM dX12_stepBehind_89 rfl rfl ?_
    refine sv_bipush (d := (14 : Int)) hM dX12_stepBehind_90 rfl rfl ?_
    refine sv_iload_n hM dX12_stepBehind_92 rfl rfl ?_
    refine sv_iconst (d := (0 : Int)) hM dX12_stepBehind_93 rfl rfl ?_
    obtain ⟨o32, h⟩ := h
    obtain ⟨o33, h⟩ := h
    refine sv_callV hM dX12_stepBehind_94 sm_iv_615 (by decide) (sm_a0 _) rfl rfl (Nat.le_of_ble_eq_true rfl) sm_h82 (Nat.le_of_ble_eq_true rfl) (Nat.le_of_ble_eq_true rfl) (F' := 0) (sv_Fn (n := 0) o33) rfl (t_emit (14 : Int) p1 (0 : Int) (sv_sts (sv_sts S [26, 27, 28, 29, 1046, 1047, 1100007, 1100023, 1100024, 1100025, 1053, 31, 1100030, 1100009, 1100027, 1100028, 1100026, 1055, 1100033, 39, 1066] g6) [26, 27, 28, 29, 1046, 1047, 1100007, 1100023, 1100024, 1100025] g26) ok27 (⟨by decide, by decide⟩ : sv_R (14 : Int)) hp1 (⟨by decide, by decide⟩ : sv_R (0 : Int)) o32) (fun v S1 hq => ?_)
    obtain ⟨rfl, ok35, md36, hpo37⟩ := hq
    obtain ⟨g34, rfl⟩ : ∃ g, S1 = sv_sts (sv_sts (sv_sts S [26, 27, 28, 29, 1046, 1047, 1100007, 1100023, 1100024, 1100025, 1053, 31, 1100030, 1100009, 1100027, 1100028, 1100026, 1055, 1100033, 39, 1066] g6) [26, 27, 28, 29, 1046, 1047, 1100007, 1100023, 1100024, 1100025] g26) [26, 27, 28, 29, 1046, 1047, 1100007, 1100023, 1100024, 1100025] g := ⟨_, md36.eq⟩
    show sv_T sm_XS sm_cs sm_L sm_sh ((S 1100002 p2) + (600 - (S 1046 0)) + 9).toNat (q_stepBehind p1 p2 S) 105 97 [(0, .ref 0), (1, sv_I p1), (2, sv_I p2)] [] (sv_sts (sv_sts (sv_sts S [26, 27, 28, 29, 1046, 1047, 1100007, 1100023, 1100024, 1100025, 1053, 31, 1100030, 1100009, 1100027, 1100028, 1100026, 1055, 1100033, 39, 1066] g6) [26, 27, 28, 29, 1046, 1047, 1100007, 1100023, 1100024, 1100025] g26) [26, 27, 28, 29, 1046, 1047, 1100007, 1100023, 1100024, 1100025] g34)
    have md38 : sv_mod [26, 27, 28, 29, 1046, 1047, 1100007, 1100023, 1100024, 1100025, 1053, 31, 1100030, 1100009, 1100027, 1100028, 1100026, 1055, 1100033, 39, 1066] S (sv_sts (sv_sts (sv_sts S [26, 27, 28, 29, 1046, 1047, 1100007, 1100023, 1100024, 1100025, 1053, 31, 1100030, 1100009, 1100027, 1100028, 1100026, 1055, 1100033, 39, 1066] g6) [26, 27, 28, 29, 1046, 1047, 1100007, 1100023, 1100024, 1100025] g26) [26, 27, 28, 29, 1046, 1047, 1100007, 1100023, 1100024, 1100025] g34) := sv_mod.sts md30 (by decide)
    have md39 : sv_mod [26, 27, 28, 29, 1046, 1047, 1100007, 1100023, 1100024, 1100025, 1053, 31, 1100030, 1100009, 1100027, 1100028, 1100026, 1055, 1100033, 39, 1066] (sv_sts S [26, 27, 28, 29, 1046, 1047, 1100007, 1100023, 1100024, 1100025, 1053, 31, 1100030, 1100009, 1100027, 1100028, 1100026, 1055, 1100033, 39, 1066] g6) (sv_sts (sv_sts (sv_sts S [26, 27, 28, 29, 1046, 1047, 1100007, 1100023, 1100024, 1100025, 1053, 31, 1100030, 1100009, 1100027, 1100028, 1100026, 1055, 1100033, 39, 1066] g6) [26, 27, 28, 29, 1046, 1047, 1100007, 1100023, 1100024, 1100025] g26) [26, 27, 28, 29, 1046, 1047, 1100007, 1100023, 1100024, 1100025] g34) := sv_mod.sts md31 (by decide)
    have h := h g34 hpo37
    refine sv_aload_n hM dX12_stepBehind_97 rfl rfl ?_
    refine sv_getA hM dX12_stepBehind_98 sm_fl_42 (sm_a0 _) sm_k25 rfl ?_
    refine sv_iload_n hM dX12_stepBehind_101 rfl rfl ?_
    obtain ⟨o40, h⟩ := h
    have k41 : sv_R (S 11 p2) := sm_okI ok35 sm_r11 p2
    have h := h k41
    refine sv_iald hM dX12_stepBehind_102 (sm_a11 _) (by decide) o40.1 o40.2 rfl (x := (S 11 p2)) rfl ?_
    refine sv_iconst (d := (2 : Int)) hM dX12_stepBehind_103 rfl rfl ?_
    refine sv_icmp_ne hM dX12_stepBehind_104 k41 (⟨by decide, by decide⟩ : sv_R (2 : Int)) (t := 120) rfl rfl (fun hc => ?_) (fun hc => ?_)
    · have h := h.1 (hc)
      refine sv_aload_n hM dX12_stepBehind_120 rfl rfl ?_
      refine sv_bipush (d := (11 : Int)) hM dX12_stepBehind_121 rfl rfl ?_
      obtain ⟨o42, h⟩ := h
      refine sv_callV hM dX12_stepBehind_123 sm_iv_666 (by decide) (sm_a0 _) rfl rfl (Nat.le_of_ble_eq_true rfl) sm_h83 (Nat.le_of_ble_eq_true rfl) (Nat.le_of_ble_eq_true rfl) (F' := 1) (sv_Fn (n := 1) o25) rfl (t_emit_ (11 : Int) (sv_sts (sv_sts (sv_sts S [26, 27, 28, 29, 1046, 1047, 1100007, 1100023, 1100024, 1100025, 1053, 31, 1100030, 1100009, 1100027, 1100028, 1100026, 1055, 1100033, 39, 1066] g6) [26, 27, 28, 29, 1046, 1047, 1100007, 1100023, 1100024, 1100025] g26) [26, 27, 28, 29, 1046, 1047, 1100007, 1100023, 1100024, 1100025] g34) ok35 (⟨by decide, by decide⟩ : sv_R (11 : Int)) o42) (fun v S1 hq => ?_)
      obtain ⟨rfl, ok44, md45, hpo46⟩ := hq
      obtain ⟨g43, rfl⟩ : ∃ g, S1 = sv_sts (sv_sts (sv_sts (sv_sts S [26, 27, 28, 29, 1046, 1047, 1100007, 1100023, 1100024, 1100025, 1053, 31, 1100030, 1100009, 1100027, 1100028, 1100026, 1055, 1100033, 39, 1066] g6) [26, 27, 28, 29, 1046, 1047, 1100007, 1100023, 1100024, 1100025] g26) [26, 27, 28, 29, 1046, 1047, 1100007, 1100023, 1100024, 1100025] g34) [26, 27, 28, 29, 1046, 1047, 1100007, 1100023, 1100024, 1100025] g := ⟨_, md45.eq⟩
      show sv_T sm_XS sm_cs sm_L sm_sh ((S 1100002 p2) + (600 - (S 1046 0)) + 9).toNat (q_stepBehind p1 p2 S) 105 126 [(0, .ref 0), (1, sv_I p1), (2, sv_I p2)] [] (sv_sts (sv_sts (sv_sts (sv_sts S [26, 27, 28, 29, 1046, 1047, 1100007, 1100023, 1100024, 1100025, 1053, 31, 1100030, 1100009, 1100027, 1100028, 1100026, 1055, 1100033, 39, 1066] g6) [26, 27, 28, 29, 1046, 1047, 1100007, 1100023, 1100024, 1100025] g26) [26, 27, 28, 29, 1046, 1047, 1100007, 1100023, 1100024, 1100025] g34) [26, 27, 28, 29, 1046, 1047, 1100007, 1100023, 1100024, 1100025] g43)
      have md47 : sv_mod [26, 27, 28, 29, 1046, 1047, 1100007, 1100023, 1100024, 1100025, 1053, 31, 1100030, 1100009, 1100027, 1100028, 1100026, 1055, 1100033, 39, 1066] S (sv_sts (sv_sts (sv_sts (sv_sts S [26, 27, 28, 29, 1046, 1047, 1100007, 1100023, 1100024, 1100025, 1053, 31, 1100030, 1100009, 1100027, 1100028, 1100026, 1055, 1100033, 39, 1066] g6) [26, 27, 28, 29, 1046, 1047, 1100007, 1100023, 1100024, 1100025] g26) [26, 27, 28, 29, 1046, 1047, 1100007, 1100023, 1100024, 1100025] g34) [26, 27, 28, 29, 1046, 1047, 1100007, 1100023, 1100024, 1100025] g43) := sv_mod.sts md38 (by decide)
      have md48 : sv_mod [26, 27, 28, 29, 1046, 1047, 1100007, 1100023, 1100024, 1100025, 1053, 31, 1100030, 1100009, 1100027, 1100028, 1100026, 1055, 1100033, 39, 1066] (sv_sts S [26, 27, 28, 29, 1046, 1047, 1100007, 1100023, 1100024, 1100025, 1053, 31, 1100030, 1100009, 1100027, 1100028, 1100026, 1055, 1100033, 39, 1066] g6) (sv_sts (sv_sts (sv_sts (sv_sts S [26, 27, 28, 29, 1046, 1047, 1100007, 1100023, 1100024, 1100025, 1053, 31, 1100030, 1100009, 1100027, 1100028, 1100026, 1055, 1100033, 39, 1066] g6) [26, 27, 28, 29, 1046, 1047, 1100007, 1100023, 1100024, 1100025] g26) [26, 27, 28, 29, 1046, 1047, 1100007, 1100023, 1100024, 1100025] g34) [26, 27, 28, 29, 1046, 1047, 1100007, 1100023, 1100024, 1100025] g43) := sv_mod.sts md39 (by decide)
      have h := h g43 hpo46
      have eS := sv_mod.eq md48
      have hb := J23 (sv_sts (sv_sts (sv_sts (sv_sts S [26, 27, 28, 29, 1046, 1047, 1100007, 1100023, 1100024, 1100025, 1053, 31, 1100030, 1100009, 1100027, 1100028, 1100026, 1055, 1100033, 39, 1066] g6) [26, 27, 28, 29, 1046, 1047, 1100007, 1100023, 1100024, 1100025] g26) [26, 27, 28, 29, 1046, 1047, 1100007, 1100023, 1100024, 1100025] g34) [26, 27, 28, 29, 1046, 1047, 1100007, 1100023, 1100024, 1100025] g43) (by rw [← eS]; exact ok44) h
      have hb : sv_T sm_XS sm_cs sm_L sm_sh ((S 1100002 p2) + (600 - (S 1046 0)) + 9).toNat (q_stepBehind p1 p2 S) 105 126 [(0, .ref 0), (1, sv_I p1), (2, sv_I p2)] [] (sv_sts (sv_sts (sv_sts (sv_sts S [26, 27, 28, 29, 1046, 1047, 1100007, 1100023, 1100024, 1100025, 1053, 31, 1100030, 1100009, 1100027, 1100028, 1100026, 1055, 1100033, 39, 1066] g6) [26, 27, 28, 29, 1046, 1047, 1100007, 1100023, 1100024, 1100025] g26) [26, 27, 28, 29, 1046, 1047, 1100007, 1100023, 1100024, 1100025] g34) [26, 27, 28, 29, 1046, 1047, 1100007, 1100023, 1100024, 1100025] g43) := Eq.mpr (congrArg (fun Z => sv_T sm_XS sm_cs sm_L sm_sh ((S 1100002 p2) + (600 - (S 1046 0)) + 9).toNat (q_stepBehind p1 p2 S) 105 126 [(0, .ref 0), (1, sv_I p1), (2, sv_I p2)] [] Z) eS) hb
      exact sv_less (lv := [(0, .ref 0), (1, sv_I p1), (2, sv_I p2)]) (sv_Sub_cons rfl (sv_Sub_cons rfl (sv_Sub_cons rfl sv_Sub_nil))) hb
    · have h := h.2 (hc)
      refine sv_aload_n hM dX12_stepBehind_107 rfl rfl ?_
      refine sv_aload_n hM dX12_stepBehind_108 rfl rfl ?_
      refine sv_iload_n hM dX12_stepBehind_109 rfl rfl ?_
      refine sv_iconst (d := (0 : Int)) hM dX12_stepBehind_110 rfl rfl ?_
      obtain ⟨o49, h⟩ := h
      refine sv_callV hM dX12_stepBehind_111 sm_iv_644 (by decide) (sm_a0 _) rfl rfl (Nat.le_of_ble_eq_true rfl) sm_h34 (Nat.le_of_ble_eq_true rfl) (Nat.le_of_ble_eq_true rfl) (F' := 0) (sv_Fn (n := 0) o33) rfl (t_part p2 (0 : Int) (sv_sts (sv_sts (sv_sts S [26, 27, 28, 29, 1046, 1047, 1100007, 1100023, 1100024, 1100025, 1053, 31, 1100030, 1100009, 1100027, 1100028, 1100026, 1055, 1100033, 39, 1066] g6) [26, 27, 28, 29, 1046, 1047, 1100007, 1100023, 1100024, 1100025] g26) [26, 27, 28, 29, 1046, 1047, 1100007, 1100023, 1100024, 1100025] g34) ok35 hp2 (⟨by decide, by decide⟩ : sv_R (0 : Int)) o49) (fun v S1 hq => ?_)
      obtain ⟨rfl, hS1⟩ := hq
      obtain rfl : (sv_sts (sv_sts (sv_sts S [26, 27, 28, 29, 1046, 1047, 1100007, 1100023, 1100024, 1100025, 1053, 31, 1100030, 1100009, 1100027, 1100028, 1100026, 1055, 1100033, 39, 1066] g6) [26, 27, 28, 29, 1046, 1047, 1100007, 1100023, 1100024, 1100025] g26) [26, 27, 28, 29, 1046, 1047, 1100007, 1100023, 1100024, 1100025] g34) = S1 := hS1.symm
      show sv_T sm_XS sm_cs sm_L sm_sh ((S 1100002 p2) + (600 - (S 1046 0)) + 9).toNat (q_stepBehind p1 p2 S) 105 114 [(0, .ref 0), (1, sv_I p1), (2, sv_I p2)] [sv_I ((S 12 (5 * p2 + (0 : Int)))), .ref 0] (sv_sts (sv_sts (sv_sts S [26, 27, 28, 29, 1046, 1047, 1100007, 1100023, 1100024, 1100025, 1053, 31, 1100030, 1100009, 1100027, 1100028, 1100026, 1055, 1100033, 39, 1066] g6) [26, 27, 28, 29, 1046, 1047, 1100007, 1100023, 1100024, 1100025] g26) [26, 27, 28, 29, 1046, 1047, 1100007, 1100023, 1100024, 1100025] g34)
      obtain ⟨o50, h⟩ := h
      obtain ⟨o51, h⟩ := h
      refine sv_callV hM dX12_stepBehind_114 sm_iv_704 (by decide) (sm_a0 _) rfl rfl (Nat.le_of_ble_eq_true rfl) sm_h89 (Nat.le_of_ble_eq_true rfl) (Nat.le_of_ble_eq_true rfl) (F' := 2) (sv_Fn (n := 2) o51) rfl (t_coderset ((S 12 (5 * p2 + (0 : Int)))) (sv_sts (sv_sts (sv_sts S [26, 27, 28, 29, 1046, 1047, 1100007, 1100023, 1100024, 1100025, 1053, 31, 1100030, 1100009, 1100027, 1100028, 1100026, 1055, 1100033, 39, 1066] g6) [26, 27, 28, 29, 1046, 1047, 1100007, 1100023, 1100024, 1100025] g26) [26, 27, 28, 29, 1046, 1047, 1100007, 1100023, 1100024, 1100025] g34) ok35 (sm_okI ok35 sm_r12 _) o50) (fun v S1 hq => ?_)
      obtain ⟨rfl, ok53, md54, hpo55⟩ := hq
      obtain ⟨g52, rfl⟩ : ∃ g, S1 = sv_sts (sv_sts (sv_sts (sv_sts S [26, 27, 28, 29, 1046, 1047, 1100007, 1100023, 1100024, 1100025, 1053, 31, 1100030, 1100009, 1100027, 1100028, 1100026, 1055, 1100033, 39, 1066] g6) [26, 27, 28, 29, 1046, 1047, 1100007, 1100023, 1100024, 1100025] g26) [26, 27, 28, 29, 1046, 1047, 1100007, 1100023, 1100024, 1100025] g34) [26, 27, 28, 29, 1046, 1047, 1100007, 1100023, 1100024, 1100025] g := ⟨_, md54.eq⟩
      show sv_T sm_XS sm_cs sm_L sm_sh ((S 1100002 p2) + (600 - (S 1046 0)) + 9).toNat (q_stepBehind p1 p2 S) 105 117 [(0, .ref 0), (1, sv_I p1), (2, sv_I p2)] [] (sv_sts (sv_sts (sv_sts (sv_sts S [26, 27, 28, 29, 1046, 1047, 1100007, 1100023, 1100024, 1100025, 1053, 31, 1100030, 1100009, 1100027, 1100028, 1100026, 1055, 1100033, 39, 1066] g6) [26, 27, 28, 29, 1046, 1047, 1100007, 1100023, 1100024, 1100025] g26) [26, 27, 28, 29, 1046, 1047, 1100007, 1100023, 1100024, 1100025] g34) [26, 27, 28, 29, 1046, 1047, 1100007, 1100023, 1100024, 1100025] g52)
      have md56 : sv_mod [26, 27, 28, 29, 1046, 1047, 1100007, 1100023, 1100024, 1100025, 1053, 31, 1100030, 1100009, 1100027, 1100028, 1100026, 1055, 1100033, 39, 1066] S (sv_sts (sv_sts (sv_sts (sv_sts S [26, 27, 28, 29, 1046, 1047, 1100007, 1100023, 1100024, 1100025, 1053, 31, 1100030, 1100009, 1100027, 1100028, 1100026, 1055, 1100033, 39, 1066] g6) [26, 27, 28, 29, 1046, 1047, 1100007, 1100023, 1100024, 1100025] g26) [26, 27, 28, 29, 1046, 1047, 1100007, 1100023, 1100024, 1100025] g34) [26, 27, 28, 29, 1046, 1047, 1100007, 1100023, 1100024, 1100025] g52) := sv_mod.sts md38 (by decide)
      have md57 : sv_mod [26, 27, 28, 29, 1046, 1047, 1100007, 1100023, 1100024, 1100025, 1053, 31, 1100030, 1100009, 1100027, 1100028, 1100026, 1055, 1100033, 39, 1066] (sv_sts S [26, 27, 28, 29, 1046, 1047, 1100007, 1100023, 1100024, 1100025, 1053, 31, 1100030, 1100009, 1100027, 1100028, 1100026, 1055, 1100033, 39, 1066] g6) (sv_sts (sv_sts (sv_sts (sv_sts S [26, 27, 28, 29, 1046, 1047, 1100007, 1100023, 1100024, 1100025, 1053, 31, 1100030, 1100009, 1100027, 1100028, 1100026, 1055, 1100033, 39, 1066] g6) [26, 27, 28, 29, 1046, 1047, 1100007, 1100023, 1100024, 1100025] g26) [26, 27, 28, 29, 1046, 1047, 1100007, 1100023, 1100024, 1100025] g34) [26, 27, 28, 29, 1046, 1047, 1100007, 1100023, 1100024, 1100025] g52) := sv_mod.sts md39 (by decide)
      have h := h g52 hpo55
      refine sv_goto hM dX12_stepBehind_117 (pc' := 126) rfl ?_
      have eS := sv_mod.eq md57
      have hb := J23 (sv_sts (sv_sts (sv_sts (sv_sts S [26, 27, 28, 29, 1046, 1047, 1100007, 1100023, 1100024, 1100025, 1053, 31, 1100030, 1100009, 1100027, 1100028, 1100026, 1055, 1100033, 39, 1066] g6) [26, 27, 28, 29, 1046, 1047, 1100007, 1100023, 1100024, 1100025] g26) [26, 27, 28, 29, 1046, 1047, 1100007, 1100023, 1100024, 1100025] g34) [26, 27, 28, 29, 1046, 1047, 1100007, 1100023, 1100024, 1100025] g52) (by rw [← eS]; exact ok53) h
      have hb : sv_T sm_XS sm_cs sm_L sm_sh ((S 1100002 p2) + (600 - (S 1046 0)) + 9).toNat (q_stepBehind p1 p2 S) 105 126 [(0, .ref 0), (1, sv_I p1), (2, sv_I p2)] [] (sv_sts (sv_sts (sv_sts (sv_sts S [26, 27, 28, 29, 1046, 1047, 1100007, 1100023, 1100024, 1100025, 1053, 31, 1100030, 1100009, 1100027, 1100028, 1100026, 1055, 1100033, 39, 1066] g6) [26, 27, 28, 29, 1046, 1047, 1100007, 1100023, 1100024, 1100025] g26) [26, 27, 28, 29, 1046, 1047, 1100007, 1100023, 1100024, 1100025] g34) [26, 27, 28, 29, 1046, 1047, 1100007, 1100023, 1100024, 1100025] g52) := Eq.mpr (congrArg (fun Z => sv_T sm_XS sm_cs sm_L sm_sh ((S 1100002 p2) + (600 - (S 1046 0)) + 9).toNat (q_stepBehind p1 p2 S) 105 126 [(0, .ref 0), (1, sv_I p1), (2, sv_I p2)] [] Z) eS) hb
      exact sv_less (lv := [(0, .ref 0), (1, sv_I p1), (2, sv_I p2)]) (sv_Sub_cons rfl (sv_Sub_cons rfl (sv_Sub_cons rfl sv_Sub_nil))) hb
  have h := h.2
  have k59 : (sm_WF (S 11) (S 12) (S 13) (S 1100001) (S 1100002) (S 1100005) (S 1100003) (S 1100004) (S 1024 0) (S 1007 0) (S 1009 0) (sm_fn (S 1032 0) (S 21) (S 1056 0)) → 0 ≤ p2 → p2 < (S 1024 0) → ((S 1100001 (p2)) = 1 → 0 ≤ (S 1100002 (p2)) ∧ ((S 11 (p2)) = 3 → (S 12 (5 * (p2) + 1)) < (p2)) ∧ ((S 11 (p2)) = 4 ∨ (S 11 (p2)) = 5 ∨ (S 11 (p2)) = 8 ∨ (S 11 (p2)) = 9 → 17 * (S 1100005 (p2)) + 2 ≤ (S 1100002 (p2))) ∧ 0 ≤ (S 1100005 (p2))) ∧ ((S 1100001 (p2)) = 2 → 0 ≤ (S 1100005 (p2)) ∧ (S 1100002 (p2)) ≤ 17 * (S 1100005 (p2)) + 5 ∧ ((S 11 (p2)) = 33 → 1 ≤ (S 1100005 (p2)))) ∧ ((S 1100001 (p2)) = 6 → 0 ≤ (S 1100002 (p2)) ∧ 1 ≤ (S 1100004 (p2)) ∧ ((S 12 (5 * (p2))) = - 1 → (S 1100004 (p2)) = 2)) ∧ ((S 1100001 (p2)) = 3 → 1 ≤ (S 1100002 (p2)))) := fun h a0 a1 => sm_gx h _ a0 a1
  have h := h k59
  have k60 : (sm_WF (S 11) (S 12) (S 13) (S 1100001) (S 1100002) (S 1100005) (S 1100003) (S 1100004) (S 1024 0) (S 1007 0) (S 1009 0) (sm_fn (S 1032 0) (S 21) (S 1056 0)) → 0 ≤ p2 → p2 < (S 1024 0) → (S 1100001 p2) = 1 → (S 11 p2) = 2 → sm_nm (S 1007 0) (S 1009 0) ((S 12 (5 * (p2))))) := fun h a0 a1 a2 a3 => sm_g1_2 h _ a0 a1 a2 a3
  have h := h k60
  have k61 : (sm_WF (S 11) (S 12) (S 13) (S 1100001) (S 1100002) (S 1100005) (S 1100003) (S 1100004) (S 1024 0) (S 1007 0) (S 1009 0) (sm_fn (S 1032 0) (S 21) (S 1056 0)) → 0 ≤ p2 → p2 < (S 1024 0) → (S 1100001 p2) = 1 → (S 11 p2) = 7 → sm_ex (S 1100001) (S 1100002) (S 1100005) (S 1024 0) 1 ((S 12 (5 * (p2)))) ((S 1100002 (p2))) ((S 1100005 (p2))) ∧ (S 12 (5 * (p2))) < (p2) ∧ sm_ex (S 1100001) (S 1100002) (S 1100005) (S 1024 0) 1 ((S 12 (5 * (p2) + 1))) (((S 1100002 (p2))) - 1) ((S 1100005 (p2))) ∧ (S 12 (5 * (p2) + 1)) < (p2)) := fun h a0 a1 a2 a3 => sm_g1_7 h _ a0 a1 a2 a3
  have h := h k61
  have k62 : (sm_nm (S 1007 0) (S 1009 0) ((S 12 (5 * p2))) → (S 1009 0) = 0 → 0 ≤ (S 12 (5 * p2)) ∧ (S 12 (5 * p2)) < (S 1007 0)) := fun h a => sm_h_nm h a
  have h := h k62
  have k63 : (2 ≤ (if (S 11 p2) = 2 then (2 : Int) else 4) ∧ (if (S 11 p2) = 2 then (2 : Int) else 4) ≤ 4 ∧ ((S 11 p2) = 2 → (if (S 11 p2) = 2 then (2 : Int) else 4) = 2) ∧ (¬ (S 11 p2) = 2 → (if (S 11 p2) = 2 then (2 : Int) else 4) = 4)) := sm_h_24
  have h := h k63
  refine sv_aload_n hM dX12_stepBehind_0 rfl rfl ?_
  refine sv_getA hM dX12_stepBehind_1 sm_fl_42 (sm_a0 _) sm_k25 rfl ?_
  refine sv_iload_n hM dX12_stepBehind_4 rfl rfl ?_
  obtain ⟨o64, h⟩ := h
  have k65 : sv_R (S 11 p2) := sm_okI hok sm_r11 p2
  have h := h k65
  refine sv_iald hM dX12_stepBehind_5 (sm_a11 _) (by decide) o64.1 o64.2 rfl (x := (S 11 p2)) rfl ?_
  refine sv_iconst (d := (2 : Int)) hM dX12_stepBehind_6 rfl rfl ?_
  refine sv_icmp_ne hM dX12_stepBehind_7 k65 (⟨by decide, by decide⟩ : sv_R (2 : Int)) (t := 37) rfl rfl (fun hc => ?_) (fun hc => ?_)
  · have h := h.1 (hc)
    have k66 : (sm_WF (S 11) (S 12) (S 13) (S 1100001) (S 1100002) (S 1100005) (S 1100003) (S 1100004) (S 1024 0) (S 1007 0) (S 1009 0) (sm_fn (S 1032 0) (S 21) (S 1056 0)) → 0 ≤ (S 12 (5 * p2)) → (S 12 (5 * p2)) < (S 1024 0) → ((S 1100001 ((S 12 (5 * p2)))) = 1 → 0 ≤ (S 1100002 ((S 12 (5 * p2)))) ∧ ((S 11 ((S 12 (5 * p2)))) = 3 → (S 12 (5 * ((S 12 (5 * p2))) + 1)) < ((S 12 (5 * p2)))) ∧ ((S 11 ((S 12 (5 * p2)))) = 4 ∨ (S 11 ((S 12 (5 * p2)))) = 5 ∨ (S 11 ((S 12 (5 * p2)))) = 8 ∨ (S 11 ((S 12 (5 * p2)))) = 9 → 17 * (S 1100005 ((S 12 (5 * p2)))) + 2 ≤ (S 1100002 ((S 12 (5 * p2))))) ∧ 0 ≤ (S 1100005 ((S 12 (5 * p2))))) ∧ ((S 1100001 ((S 12 (5 * p2)))) = 2 → 0 ≤ (S 1100005 ((S 12 (5 * p2)))) ∧ (S 1100002 ((S 12 (5 * p2)))) ≤ 17 * (S 1100005 ((S 12 (5 * p2)))) + 5 ∧ ((S 11 ((S 12 (5 * p2)))) = 33 → 1 ≤ (S 1100005 ((S 12 (5 * p2)))))) ∧ ((S 1100001 ((S 12 (5 * p2)))) = 6 → 0 ≤ (S 1100002 ((S 12 (5 * p2)))) ∧ 1 ≤ (S 1100004 ((S 12 (5 * p2)))) ∧ ((S 12 (5 * ((S 12 (5 * p2))))) = - 1 → (S 1100004 ((S 12 (5 * p2)))) = 2)) ∧ ((S 1100001 ((S 12 (5 * p2)))) = 3 → 1 ≤ (S 1100002 ((S 12 (5 * p2)))))) := fun h a0 a1 => sm_gx h _ a0 a1
    have h := h k66
    have k67 : (sm_WF (S 11) (S 12) (S 13) (S 1100001) (S 1100002) (S 1100005) (S 1100003) (S 1100004) (S 1024 0) (S 1007 0) (S 1009 0) (sm_fn (S 1032 0) (S 21) (S 1056 0)) → 0 ≤ (S 12 (5 * p2 + 1)) → (S 12 (5 * p2 + 1)) < (S 1024 0) → ((S 1100001 ((S 12 (5 * p2 + 1)))) = 1 → 0 ≤ (S 1100002 ((S 12 (5 * p2 + 1)))) ∧ ((S 11 ((S 12 (5 * p2 + 1)))) = 3 → (S 12 (5 * ((S 12 (5 * p2 + 1))) + 1)) < ((S 12 (5 * p2 + 1)))) ∧ ((S 11 ((S 12 (5 * p2 + 1)))) = 4 ∨ (S 11 ((S 12 (5 * p2 + 1)))) = 5 ∨ (S 11 ((S 12 (5 * p2 + 1)))) = 8 ∨ (S 11 ((S 12 (5 * p2 + 1)))) = 9 → 17 * (S 1100005 ((S 12 (5 * p2 + 1)))) + 2 ≤ (S 1100002 ((S 12 (5 * p2 + 1))))) ∧ 0 ≤ (S 1100005 ((S 12 (5 * p2 + 1))))) ∧ ((S 1100001 ((S 12 (5 * p2 + 1)))) = 2 → 0 ≤ (S 1100005 ((S 12 (5 * p2 + 1)))) ∧ (S 1100002 ((S 12 (5 * p2 + 1)))) ≤ 17 * (S 1100005 ((S 12 (5 * p2 + 1)))) + 5 ∧ ((S 11 ((S 12 (5 * p2 + 1)))) = 33 → 1 ≤ (S 1100005 ((S 12 (5 * p2 + 1)))))) ∧ ((S 1100001 ((S 12 (5 * p2 + 1)))) = 6 → 0 ≤ (S 1100002 ((S 12 (5 * p2 + 1)))) ∧ 1 ≤ (S 1100004 ((S 12 (5 * p2 + 1)))) ∧ ((S 12 (5 * ((S 12 (5 * p2 + 1))))) = - 1 → (S 1100004 ((S 12 (5 * p2 + 1)))) = 2)) ∧ ((S 1100001 ((S 12 (5 * p2 + 1)))) = 3 → 1 ≤ (S 1100002 ((S 12 (5 * p2 + 1)))))) := fun h a0 a1 => sm_gx h _ a0 a1
    have h := h k67
    have k68 : ((S 1100005 (S 12 (5 * p2 + 0))) = (S 1100005 (S 12 (5 * p2)))) := by rw [Int.add_zero]
    have h := h k68
    have k69 : ((S 1100002 (S 12 (5 * p2 + 0))) = (S 1100002 (S 12 (5 * p2)))) := by rw [Int.add_zero]
    have h := h k69
    refine sv_aload_n hM dX12_stepBehind_37 rfl rfl ?_
    refine sv_aload_n hM dX12_stepBehind_38 rfl rfl ?_
    refine sv_iload_n hM dX12_stepBehind_39 rfl rfl ?_
    refine sv_iconst (d := (0 : Int)) hM dX12_stepBehind_40 rfl rfl ?_
    obtain ⟨o70, h⟩ := h
    obtain ⟨o71, h⟩ := h
    refine sv_callV hM dX12_stepBehind_41 sm_iv_644 (by decide) (sm_a0 _) rfl rfl (Nat.le_of_ble_eq_true rfl) sm_h34 (Nat.le_of_ble_eq_true rfl) (Nat.le_of_ble_eq_true rfl) (F' := 0) (sv_Fn (n := 0) o71) rfl (t_part p2 (0 : Int) S hok hp2 (⟨by decide, by decide⟩ : sv_R (0 : Int)) o70) (fun v S1 hq => ?_)
    obtain ⟨rfl, hS1⟩ := hq
    obtain rfl : S = S1 := hS1.symm
    show sv_T sm_XS sm_cs sm_L sm_sh ((S 1100002 p2) + (600 - (S 1046 0)) + 9).toNat (q_stepBehind p1 p2 S) 105 44 [(0, .ref 0), (1, sv_I p1), (2, sv_I p2)] [sv_I ((S 12 (5 * p2 + (0 : Int)))), .ref 0] S
    obtain ⟨o72, h⟩ := h
    obtain ⟨o73, h⟩ := h
    obtain ⟨o74, h⟩ := h
    refine sv_callV hM dX12_stepBehind_44 sm_iv_668 (by decide) (sm_a0 _) rfl rfl (Nat.le_of_ble_eq_true rfl) sm_h96 (Nat.le_of_ble_eq_true rfl) (Nat.le_of_ble_eq_true rfl) (F' := (((if (S 1047 0) = 0 then (S 1100002 ((S 12 (5 * p2 + (0 : Int))))) + (600 - (S 1046 0)) + 8 else 4))).toNat) (sv_Fe o74) rfl ((IH ((if (S 1047 0) = 0 then (S 1100002 ((S 12 (5 * p2 + (0 : Int))))) + (600 - (S 1046 0)) + 8 else 4)) o73.1 o73.2).1 ((S 12 (5 * p2 + (0 : Int)))) S hok (sm_okI hok sm_r12 _) o72 rfl) (fun v S1 hq => ?_)
    obtain ⟨rfl, ok76, md77, hpo78⟩ := hq
    obtain ⟨g75, rfl⟩ : ∃ g, S1 = sv_sts S [26, 27, 28, 29, 1046, 1047, 1100007, 1100023, 1100024, 1100025, 1053, 31, 1100030, 1100009, 1100027, 1100028, 1100026, 1055, 1100033, 39, 1066] g := ⟨_, md77.eq⟩
    show sv_T sm_XS sm_cs sm_L sm_sh ((S 1100002 p2) + (600 - (S 1046 0)) + 9).toNat (q_stepBehind p1 p2 S) 105 47 [(0, .ref 0), (1, sv_I p1), (2, sv_I p2)] [] (sv_sts S [26, 27, 28, 29, 1046, 1047, 1100007, 1100023, 1100024, 1100025, 1053, 31, 1100030, 1100009, 1100027, 1100028, 1100026, 1055, 1100033, 39, 1066] g75)
    have md79 : sv_mod [26, 27, 28, 29, 1046, 1047, 1100007, 1100023, 1100024, 1100025, 1053, 31, 1100030, 1100009, 1100027, 1100028, 1100026, 1055, 1100033, 39, 1066] S (sv_sts S [26, 27, 28, 29, 1046, 1047, 1100007, 1100023, 1100024, 1100025, 1053, 31, 1100030, 1100009, 1100027, 1100028, 1100026, 1055, 1100033, 39, 1066] g75) := sv_mod.sts sv_mod.rf (by decide)
    have md80 : sv_mod [26, 27, 28, 29, 1046, 1047, 1100007, 1100023, 1100024, 1100025, 1053, 31, 1100030, 1100009, 1100027, 1100028, 1100026, 1055, 1100033, 39, 1066] S (sv_sts S [26, 27, 28, 29, 1046, 1047, 1100007, 1100023, 1100024, 1100025, 1053, 31, 1100030, 1100009, 1100027, 1100028, 1100026, 1055, 1100033, 39, 1066] g75) := sv_mod.sts (sv_mod.rf (l := [26, 27, 28, 29, 1046, 1047, 1100007, 1100023, 1100024, 1100025, 1053, 31, 1100030, 1100009, 1100027, 1100028, 1100026, 1055, 1100033, 39, 1066]) (S := S)) (by decide)
    have h := h g75 hpo78
    refine sv_aload_n hM dX12_stepBehind_47 rfl rfl ?_
    refine sv_aload_n hM dX12_stepBehind_48 rfl rfl ?_
    refine sv_iload_n hM dX12_stepBehind_49 rfl rfl ?_
    refine sv_iconst (d := (1 : Int)) hM dX12_stepBehind_50 rfl rfl ?_
    obtain ⟨o81, h⟩ := h
    refine sv_callV hM dX12_stepBehind_51 sm_iv_644 (by decide) (sm_a0 _) rfl rfl (Nat.le_of_ble_eq_true rfl) sm_h34 (Nat.le_of_ble_eq_true rfl) (Nat.le_of_ble_eq_true rfl) (F' := 0) (sv_Fn (n := 0) o71) rfl (t_part p2 (1 : Int) (sv_sts S [26, 27, 28, 29, 1046, 1047, 1100007, 1100023, 1100024, 1100025, 1053, 31, 1100030, 1100009, 1100027, 1100028, 1100026, 1055, 1100033, 39, 1066] g75) ok76 hp2 (⟨by decide, by decide⟩ : sv_R (1 : Int)) o81) (fun v S1 hq => ?_)
    obtain ⟨rfl, hS1⟩ := hq
    obtain rfl : (sv_sts S [26, 27, 28, 29, 1046, 1047, 1100007, 1100023, 1100024, 1100025, 1053, 31, 1100030, 1100009, 1100027, 1100028, 1100026, 1055, 1100033, 39, 1066] g75) = S1 := hS1.symm
    show sv_T sm_XS sm_cs sm_L sm_sh ((S 1100002 p2) + (600 - (S 1046 0)) + 9).toNat (q_stepBehind p1 p2 S) 105 54 [(0, .ref 0), (1, sv_I p1), (2, sv_I p2)] [sv_I ((S 12 (5 * p2 + (1 : Int)))), .ref 0] (sv_sts S [26, 27, 28, 29, 1046, 1047, 1100007, 1100023, 1100024, 1100025, 1053, 31, 1100030, 1100009, 1100027, 1100028, 1100026, 1055, 1100033, 39, 1066] g75)
    obtain ⟨o82, h⟩ := h
    obtain ⟨o83, h⟩ := h
    obtain ⟨o84, h⟩ := h
    refine sv_callV hM dX12_stepBehind_54 sm_iv_668 (by decide) (sm_a0 _) rfl rfl (Nat.le_of_ble_eq_true rfl) sm_h96 (Nat.le_of_ble_eq_true rfl) (Nat.le_of_ble_eq_true rfl) (F' := (((if (g75 1047 0) = 0 then (S 1100002 ((S 12 (5 * p2 + (1 : Int))))) + (600 - (g75 1046 0)) + 8 else 4))).toNat) (sv_Fe o84) rfl ((IH ((if (g75 1047 0) = 0 then (S 1100002 ((S 12 (5 * p2 + (1 : Int))))) + (600 - (g75 1046 0)) + 8 else 4)) o83.1 o83.2).1 ((S 12 (5 * p2 + (1 : Int)))) (sv_sts S [26, 27, 28, 29, 1046, 1047, 1100007, 1100023, 1100024, 1100025, 1053, 31, 1100030, 1100009, 1100027, 1100028, 1100026, 1055, 1100033, 39, 1066] g75) ok76 (sm_okI ok76 sm_r12 _) o82 rfl) (fun v S1 hq => ?_)
    obtain ⟨rfl, ok86, md87, hpo88⟩ := hq
    obtain ⟨g85, rfl⟩ : ∃ g, S1 = sv_sts (sv_sts S [26, 27, 28, 29, 1046, 1047, 1100007, 1100023, 1100024, 1100025, 1053, 31, 1100030, 1100009, 1100027, 1100028, 1100026, 1055, 1100033, 39, 1066] g75) [26, 27, 28, 29, 1046, 1047, 1100007, 1100023, 1100024, 1100025, 1053, 31, 1100030, 1100009, 1100027, 1100028, 1100026, 1055, 1100033, 39, 1066] g := ⟨_, md87.eq⟩
    show sv_T sm_XS sm_cs sm_L sm_sh ((S 1100002 p2) + (600 - (S 1046 0)) + 9).toNat (q_stepBehind p1 p2 S) 105 57 [(0, .ref 0), (1, sv_I p1), (2, sv_I p2)] [] (sv_sts (sv_sts S [26, 27, 28, 29, 1046, 1047, 1100007, 1100023, 1100024, 1100025, 1053, 31, 1100030, 1100009, 1100027, 1100028, 1100026, 1055, 1100033, 39, 1066] g75) [26, 27, 28, 29, 1046, 1047, 1100007, 1100023, 1100024, 1100025, 1053, 31, 1100030, 1100009, 1100027, 1100028, 1100026, 1055, 1100033, 39, 1066] g85)
    have md89 : sv_mod [26, 27, 28, 29, 1046, 1047, 1100007, 1100023, 1100024, 1100025, 1053, 31, 1100030, 1100009, 1100027, 1100028, 1100026, 1055, 1100033, 39, 1066] S (sv_sts (sv_sts S [26, 27, 28, 29, 1046, 1047, 1100007, 1100023, 1100024, 1100025, 1053, 31, 1100030, 1100009, 1100027, 1100028, 1100026, 1055, 1100033, 39, 1066] g75) [26, 27, 28, 29, 1046, 1047, 1100007, 1100023, 1100024, 1100025, 1053, 31, 1100030, 1100009, 1100027, 1100028, 1100026, 1055, 1100033, 39, 1066] g85) := sv_mod.sts md79 (by decide)
    have md90 : sv_mod [26, 27, 28, 29, 1046, 1047, 1100007, 1100023, 1100024, 1100025, 1053, 31, 1100030, 1100009, 1100027, 1100028, 1100026, 1055, 1100033, 39, 1066] S (sv_sts (sv_sts S [26, 27, 28, 29, 1046, 1047, 1100007, 1100023, 1100024, 1100025, 1053, 31, 1100030, 1100009, 1100027, 1100028, 1100026, 1055, 1100033, 39, 1066] g75) [26, 27, 28, 29, 1046, 1047, 1100007, 1100023, 1100024, 1100025, 1053, 31, 1100030, 1100009, 1100027, 1100028, 1100026, 1055, 1100033, 39, 1066] g85) := sv_mod.sts md80 (by decide)
    have h := h g85 hpo88
    refine sv_aload_n hM dX12_stepBehind_57 rfl rfl ?_
    refine sv_bipush (d := (19 : Int)) hM dX12_stepBehind_58 rfl rfl ?_
    obtain ⟨o91, h⟩ := h
    obtain ⟨o92, h⟩ := h
    refine sv_callV hM dX12_stepBehind_60 sm_iv_666 (by decide) (sm_a0 _) rfl rfl (Nat.le_of_ble_eq_true rfl) sm_h83 (Nat.le_of_ble_eq_true rfl) (Nat.le_of_ble_eq_true rfl) (F' := 1) (sv_Fn (n := 1) o92) rfl (t_emit_ (19 : Int) (sv_sts (sv_sts S [26, 27, 28, 29, 1046, 1047, 1100007, 1100023, 1100024, 1100025, 1053, 31, 1100030, 1100009, 1100027, 1100028, 1100026, 1055, 1100033, 39, 1066] g75) [26, 27, 28, 29, 1046, 1047, 1100007, 1100023, 1100024, 1100025, 1053, 31, 1100030, 1100009, 1100027, 1100028, 1100026, 1055, 1100033, 39, 1066] g85) ok86 (⟨by decide, by decide⟩ : sv_R (19 : Int)) o91) (fun v S1 hq => ?_)
    obtain ⟨rfl, ok94, md95, hpo96⟩ := hq
    obtain ⟨g93, rfl⟩ : ∃ g, S1 = sv_sts (sv_sts (sv_sts S [26, 27, 28, 29, 1046, 1047, 1100007, 1100023, 1100024, 1100025, 1053, 31, 1100030, 1100009, 1100027, 1100028, 1100026, 1055, 1100033, 39, 1066] g75) [26, 27, 28, 29, 1046, 1047, 1100007, 1100023, 1100024, 1100025, 1053, 31, 1100030, 1100009, 1100027, 1100028, 1100026, 1055, 1100033, 39, 1066] g85) [26, 27, 28, 29, 1046, 1047, 1100007, 1100023, 1100024, 1100025] g := ⟨_, md95.eq⟩
    show sv_T sm_XS sm_cs sm_L sm_sh ((S 1100002 p2) + (600 - (S 1046 0)) + 9).toNat (q_stepBehind p1 p2 S) 105 63 [(0, .ref 0), (1, sv_I p1), (2, sv_I p2)] [] (sv_sts (sv_sts (sv_sts S [26, 27, 28, 29, 1046, 1047, 1100007, 1100023, 1100024, 1100025, 1053, 31, 1100030, 1100009, 1100027, 1100028, 1100026, 1055, 1100033, 39, 1066] g75) [26, 27, 28, 29, 1046, 1047, 1100007, 1100023, 1100024, 1100025, 1053, 31, 1100030, 1100009, 1100027, 1100028, 1100026, 1055, 1100033, 39, 1066] g85) [26, 27, 28, 29, 1046, 1047, 1100007, 1100023, 1100024, 1100025] g93)
    have md97 : sv_mod [26, 27, 28, 29, 1046, 1047, 1100007, 1100023, 1100024, 1100025, 1053, 31, 1100030, 1100009, 1100027, 1100028, 1100026, 1055, 1100033, 39, 1066] S (sv_sts (sv_sts (sv_sts S [26, 27, 28, 29, 1046, 1047, 1100007, 1100023, 1100024, 1100025, 1053, 31, 1100030, 1100009, 1100027, 1100028, 1100026, 1055, 1100033, 39, 1066] g75) [26, 27, 28, 29, 1046, 1047, 1100007, 1100023, 1100024, 1100025, 1053, 31, 1100030, 1100009, 1100027, 1100028, 1100026, 1055, 1100033, 39, 1066] g85) [26, 27, 28, 29, 1046, 1047, 1100007, 1100023, 1100024, 1100025] g93) := sv_mod.sts md89 (by decide)
    have md98 : sv_mod [26, 27, 28, 29, 1046, 1047, 1100007, 1100023, 1100024, 1100025, 1053, 31, 1100030, 1100009, 1100027, 1100028, 1100026, 1055, 1100033, 39, 1066] S (sv_sts (sv_sts (sv_sts S [26, 27, 28, 29, 1046, 1047, 1100007, 1100023, 1100024, 1100025, 1053, 31, 1100030, 1100009, 1100027, 1100028, 1100026, 1055, 1100033, 39, 1066] g75) [26, 27, 28, 29, 1046, 1047, 1100007, 1100023, 1100024, 1100025, 1053, 31, 1100030, 1100009, 1100027, 1100028, 1100026, 1055, 1100033, 39, 1066] g85) [26, 27, 28, 29, 1046, 1047, 1100007, 1100023, 1100024, 1100025] g93) := sv_mod.sts md90 (by decide)
    have h := h g93 hpo96
    refine sv_aload_n hM dX12_stepBehind_63 rfl rfl ?_
    refine sv_bipush (d := (10 : Int)) hM dX12_stepBehind_64 rfl rfl ?_
    obtain ⟨o99, h⟩ := h
    refine sv_callV hM dX12_stepBehind_66 sm_iv_666 (by decide) (sm_a0 _) rfl rfl (Nat.le_of_ble_eq_true rfl) sm_h83 (Nat.le_of_ble_eq_true rfl) (Nat.le_of_ble_eq_true rfl) (F' := 1) (sv_Fn (n := 1) o92) rfl (t_emit_ (10 : Int) (sv_sts (sv_sts (sv_sts S [26, 27, 28, 29, 1046, 1047, 1100007, 1100023, 1100024, 1100025, 1053, 31, 1100030, 1100009, 1100027, 1100028, 1100026, 1055, 1100033, 39, 1066] g75) [26, 27, 28, 29, 1046, 1047, 1100007, 1100023, 1100024, 1100025, 1053, 31, 1100030, 1100009, 1100027, 1100028, 1100026, 1055, 1100033, 39, 1066] g85) [26, 27, 28, 29, 1046, 1047, 1100007, 1100023, 1100024, 1100025] g93) ok94 (⟨by decide, by decide⟩ : sv_R (10 : Int)) o99) (fun v S1 hq => ?_)
    obtain ⟨rfl, ok101, md102, hpo103⟩ := hq
    obtain ⟨g100, rfl⟩ : ∃ g, S1 = sv_sts (sv_sts (sv_sts (sv_sts S [26, 27, 28, 29, 1046, 1047, 1100007, 1100023, 1100024, 1100025, 1053, 31, 1100030, 1100009, 1100027, 1100028, 1100026, 1055, 1100033, 39, 1066] g75) [26, 27, 28, 29, 1046, 1047, 1100007, 1100023, 1100024, 1100025, 1053, 31, 1100030, 1100009, 1100027, 1100028, 1100026, 1055, 1100033, 39, 1066] g85) [26, 27, 28, 29, 1046, 1047, 1100007, 1100023, 1100024, 1100025] g93) [26, 27, 28, 29, 1046, 1047, 1100007, 1100023, 1100024, 1100025] g := ⟨_, md102.eq⟩
    show sv_T sm_XS sm_cs sm_L sm_sh ((S 1100002 p2) + (600 - (S 1046 0)) + 9).toNat (q_stepBehind p1 p2 S) 105 69 [(0, .ref 0), (1, sv_I p1), (2, sv_I p2)] [] (sv_sts (sv_sts (sv_sts (sv_sts S [26, 27, 28, 29, 1046, 1047, 1100007, 1100023, 1100024, 1100025, 1053, 31, 1100030, 1100009, 1100027, 1100028, 1100026, 1055, 1100033, 39, 1066] g75) [26, 27, 28, 29, 1046, 1047, 1100007, 1100023, 1100024, 1100025, 1053, 31, 1100030, 1100009, 1100027, 1100028, 1100026, 1055, 1100033, 39, 1066] g85) [26, 27, 28, 29, 1046, 1047, 1100007, 1100023, 1100024, 1100025] g93) [26, 27, 28, 29, 1046, 1047, 1100007, 1100023, 1100024, 1100025] g100)
    have md104 : sv_mod [26, 27, 28, 29, 1046, 1047, 1100007, 1100023, 1100024, 1100025, 1053, 31, 1100030, 1100009, 1100027, 1100028, 1100026, 1055, 1100033, 39, 1066] S (sv_sts (sv_sts (sv_sts (sv_sts S [26, 27, 28, 29, 1046, 1047, 1100007, 1100023, 1100024, 1100025, 1053, 31, 1100030, 1100009, 1100027, 1100028, 1100026, 1055, 1100033, 39, 1066] g75) [26, 27, 28, 29, 1046, 1047, 1100007, 1100023, 1100024, 1100025, 1053, 31, 1100030, 1100009, 1100027, 1100028, 1100026, 1055, 1100033, 39, 1066] g85) [26, 27, 28, 29, 1046, 1047, 1100007, 1100023, 1100024, 1100025] g93) [26, 27, 28, 29, 1046, 1047, 1100007, 1100023, 1100024, 1100025] g100) := sv_mod.sts md97 (by decide)
    have md105 : sv_mod [26, 27, 28, 29, 1046, 1047, 1100007, 1100023, 1100024, 1100025, 1053, 31, 1100030, 1100009, 1100027, 1100028, 1100026, 1055, 1100033, 39, 1066] S (sv_sts (sv_sts (sv_sts (sv_sts S [26, 27, 28, 29, 1046, 1047, 1100007, 1100023, 1100024, 1100025, 1053, 31, 1100030, 1100009, 1100027, 1100028, 1100026, 1055, 1100033, 39, 1066] g75) [26, 27, 28, 29, 1046, 1047, 1100007, 1100023, 1100024, 1100025, 1053, 31, 1100030, 1100009, 1100027, 1100028, 1100026, 1055, 1100033, 39, 1066] g85) [26, 27, 28, 29, 1046, 1047, 1100007, 1100023, 1100024, 1100025] g93) [26, 27, 28, 29, 1046, 1047, 1100007, 1100023, 1100024, 1100025] g100) := sv_mod.sts md98 (by decide)
    have h := h g100 hpo103
    refine sv_aload_n hM dX12_stepBehind_69 rfl rfl ?_
    refine sv_bipush (d := (13 : Int)) hM dX12_stepBehind_70 rfl rfl ?_
    refine sv_iconst (d := (0 : Int)) hM dX12_stepBehind_72 rfl rfl ?_
    refine sv_iconst (d := (0 : Int)) hM dX12_stepBehind_73 rfl rfl ?_
    obtain ⟨o106, h⟩ := h
    refine sv_callV hM dX12_stepBehind_74 sm_iv_615 (by decide) (sm_a0 _) rfl rfl (Nat.le_of_ble_eq_true rfl) sm_h82 (Nat.le_of_ble_eq_true rfl) (Nat.le_of_ble_eq_true rfl) (F' := 0) (sv_Fn (n := 0) o71) rfl (t_emit (13 : Int) (0 : Int) (0 : Int) (sv_sts (sv_sts (sv_sts (sv_sts S [26, 27, 28, 29, 1046, 1047, 1100007, 1100023, 1100024, 1100025, 1053, 31, 1100030, 1100009, 1100027, 1100028, 1100026, 1055, 1100033, 39, 1066] g75) [26, 27, 28, 29, 1046, 1047, 1100007, 1100023, 1100024, 1100025, 1053, 31, 1100030, 1100009, 1100027, 1100028, 1100026, 1055, 1100033, 39, 1066] g85) [26, 27, 28, 29, 1046, 1047, 1100007, 1100023, 1100024, 1100025] g93) [26, 27, 28, 29, 1046, 1047, 1100007, 1100023, 1100024, 1100025] g100) ok101 (⟨by decide, by decide⟩ : sv_R (13 : Int)) (⟨by decide, by decide⟩ : sv_R (0 : Int)) (⟨by decide, by decide⟩ : sv_R (0 : Int)) o106) (fun v S1 hq => ?_)
    obtain ⟨rfl, ok108, md109, hpo110⟩ := hq
    obtain ⟨g107, rfl⟩ : ∃ g, S1 = sv_sts (sv_sts (sv_sts (sv_sts (sv_sts S [26, 27, 28, 29, 1046, 1047, 1100007, 1100023, 1100024, 1100025, 1053, 31, 1100030, 1100009, 1100027, 1100028, 1100026, 1055, 1100033, 39, 1066] g75) [26, 27, 28, 29, 1046, 1047, 1100007, 1100023, 1100024, 1100025, 1053, 31, 1100030, 1100009, 1100027, 1100028, 1100026, 1055, 1100033, 39, 1066] g85) [26, 27, 28, 29, 1046, 1047, 1100007, 1100023, 1100024, 1100025] g93) [26, 27, 28, 29, 1046, 1047, 1100007, 1100023, 1100024, 1100025] g100) [26, 27, 28, 29, 1046, 1047, 1100007, 1100023, 1100024, 1100025] g := ⟨_, md109.eq⟩
    show sv_T sm_XS sm_cs sm_L sm_sh ((S 1100002 p2) + (600 - (S 1046 0)) + 9).toNat (q_stepBehind p1 p2 S) 105 77 [(0, .ref 0), (1, sv_I p1), (2, sv_I p2)] [] (sv_sts (sv_sts (sv_sts (sv_sts (sv_sts S [26, 27, 28, 29, 1046, 1047, 1100007, 1100023, 1100024, 1100025, 1053, 31, 1100030, 1100009, 1100027, 1100028, 1100026, 1055, 1100033, 39, 1066] g75) [26, 27, 28, 29, 1046, 1047, 1100007, 1100023, 1100024, 1100025, 1053, 31, 1100030, 1100009, 1100027, 1100028, 1100026, 1055, 1100033, 39, 1066] g85) [26, 27, 28, 29, 1046, 1047, 1100007, 1100023, 1100024, 1100025] g93) [26, 27, 28, 29, 1046, 1047, 1100007, 1100023, 1100024, 1100025] g100) [26, 27, 28, 29, 1046, 1047, 1100007, 1100023, 1100024, 1100025] g107)
    have md111 : sv_mod [26, 27, 28, 29, 1046, 1047, 1100007, 1100023, 1100024, 1100025, 1053, 31, 1100030, 1100009, 1100027, 1100028, 1100026, 1055, 1100033, 39, 1066] S (sv_sts (sv_sts (sv_sts (sv_sts (sv_sts S [26, 27, 28, 29, 1046, 1047, 1100007, 1100023, 1100024, 1100025, 1053, 31, 1100030, 1100009, 1100027, 1100028, 1100026, 1055, 1100033, 39, 1066] g75) [26, 27, 28, 29, 1046, 1047, 1100007, 1100023, 1100024, 1100025, 1053, 31, 1100030, 1100009, 1100027, 1100028, 1100026, 1055, 1100033, 39, 1066] g85) [26, 27, 28, 29, 1046, 1047, 1100007, 1100023, 1100024, 1100025] g93) [26, 27, 28, 29, 1046, 1047, 1100007, 1100023, 1100024, 1100025] g100) [26, 27, 28, 29, 1046, 1047, 1100007, 1100023, 1100024, 1100025] g107) := sv_mod.sts md104 (by decide)
    have md112 : sv_mod [26, 27, 28, 29, 1046, 1047, 1100007, 1100023, 1100024, 1100025, 1053, 31, 1100030, 1100009, 1100027, 1100028, 1100026, 1055, 1100033, 39, 1066] S (sv_sts (sv_sts (sv_sts (sv_sts (sv_sts S [26, 27, 28, 29, 1046, 1047, 1100007, 1100023, 1100024, 1100025, 1053, 31, 1100030, 1100009, 1100027, 1100028, 1100026, 1055, 1100033, 39, 1066] g75) [26, 27, 28, 29, 1046, 1047, 1100007, 1100023, 1100024, 1100025, 1053, 31, 1100030, 1100009, 1100027, 1100028, 1100026, 1055, 1100033, 39, 1066] g85) [26, 27, 28, 29, 1046, 1047, 1100007, 1100023, 1100024, 1100025] g93) [26, 27, 28, 29, 1046, 1047, 1100007, 1100023, 1100024, 1100025] g100) [26, 27, 28, 29, 1046, 1047, 1100007, 1100023, 1100024, 1100025] g107) := sv_mod.sts md105 (by decide)
    have h := h g107 hpo110
    refine sv_aload_n hM dX12_stepBehind_77 rfl rfl ?_
    refine sv_bipush (d := (20 : Int)) hM dX12_stepBehind_78 rfl rfl ?_
    obtain ⟨o113, h⟩ := h
    refine sv_callV hM dX12_stepBehind_80 sm_iv_666 (by decide) (sm_a0 _) rfl rfl (Nat.le_of_ble_eq_true rfl) sm_h83 (Nat.le_of_ble_eq_true rfl) (Nat.le_of_ble_eq_true rfl) (F' := 1) (sv_Fn (n := 1) o92) rfl (t_emit_ (20 : Int) (sv_sts (sv_sts (sv_sts (sv_sts (sv_sts S [26, 27, 28, 29, 1046, 1047, 1100007, 1100023, 1100024, 1100025, 1053, 31, 1100030, 1100009, 1100027, 1100028, 1100026, 1055, 1100033, 39, 1066] g75) [26, 27, 28, 29, 1046, 1047, 1100007, 1100023, 1100024, 1100025, 1053, 31, 1100030, 1100009, 1100027, 1100028, 1100026, 1055, 1100033, 39, 1066] g85) [26, 27, 28, 29, 1046, 1047, 1100007, 1100023, 1100024, 1100025] g93) [26, 27, 28, 29, 1046, 1047, 1100007, 1100023, 1100024, 1100025] g100) [26, 27, 28, 29, 1046, 1047, 1100007, 1100023, 1100024, 1100025] g107) ok108 (⟨by decide, by decide⟩ : sv_R (20 : Int)) o113) (fun v S1 hq => ?_)
    obtain ⟨rfl, ok115, md116, hpo117⟩ := hq
    obtain ⟨g114, rfl⟩ : ∃ g, S1 = sv_sts (sv_sts (sv_sts (sv_sts (sv_sts (sv_sts S [26, 27, 28, 29, 1046, 1047, 1100007, 1100023, 1100024, 1100025, 1053, 31, 1100030, 1100009, 1100027, 1100028, 1100026, 1055, 1100033, 39, 1066] g75) [26, 27, 28, 29, 1046, 1047, 1100007, 1100023, 1100024, 1100025, 1053, 31, 1100030, 1100009, 1100027, 1100028, 1100026, 1055, 1100033, 39, 1066] g85) [26, 27, 28, 29, 1046, 1047, 1100007, 1100023, 1100024, 1100025] g93) [26, 27, 28, 29, 1046, 1047, 1100007, 1100023, 1100024, 1100025] g100) [26, 27, 28, 29, 1046, 1047, 1100007, 1100023, 1100024, 1100025] g107) [26, 27, 28, 29, 1046, 1047, 1100007, 1100023, 1100024, 1100025] g := ⟨_, md116.eq⟩
    show sv_T sm_XS sm_cs sm_L sm_sh ((S 1100002 p2) + (600 - (S 1046 0)) + 9).toNat (q_stepBehind p1 p2 S) 105 83 [(0, .ref 0), (1, sv_I p1), (2, sv_I p2)] [] (sv_sts (sv_sts (sv_sts (sv_sts (sv_sts (sv_sts S [26, 27, 28, 29, 1046, 1047, 1100007, 1100023, 1100024, 1100025, 1053, 31, 1100030, 1100009, 1100027, 1100028, 1100026, 1055, 1100033, 39, 1066] g75) [26, 27, 28, 29, 1046, 1047, 1100007, 1100023, 1100024, 1100025, 1053, 31, 1100030, 1100009, 1100027, 1100028, 1100026, 1055, 1100033, 39, 1066] g85) [26, 27, 28, 29, 1046, 1047, 1100007, 1100023, 1100024, 1100025] g93) [26, 27, 28, 29, 1046, 1047, 1100007, 1100023, 1100024, 1100025] g100) [26, 27, 28, 29, 1046, 1047, 1100007, 1100023, 1100024, 1100025] g107) [26, 27, 28, 29, 1046, 1047, 1100007, 1100023, 1100024, 1100025] g114)
    have md118 : sv_mod [26, 27, 28, 29, 1046, 1047, 1100007, 1100023, 1100024, 1100025, 1053, 31, 1100030, 1100009, 1100027, 1100028, 1100026, 1055, 1100033, 39, 1066] S (sv_sts (sv_sts (sv_sts (sv_sts (sv_sts (sv_sts S [26, 27, 28, 29, 1046, 1047, 1100007, 1100023, 1100024, 1100025, 1053, 31, 1100030, 1100009, 1100027, 1100028, 1100026, 1055, 1100033, 39, 1066] g75) [26, 27, 28, 29, 1046, 1047, 1100007, 1100023, 1100024, 1100025, 1053, 31, 1100030, 1100009, 1100027, 1100028, 1100026, 1055, 1100033, 39, 1066] g85) [26, 27, 28, 29, 1046, 1047, 1100007, 1100023, 1100024, 1100025] g93) [26, 27, 28, 29, 1046, 1047, 1100007, 1100023, 1100024, 1100025] g100) [26, 27, 28, 29, 1046, 1047, 1100007, 1100023, 1100024, 1100025] g107) [26, 27, 28, 29, 1046, 1047, 1100007, 1100023, 1100024, 1100025] g114) := sv_mod.sts md111 (by decide)
    have md119 : sv_mod [26, 27, 28, 29, 1046, 1047, 1100007, 1100023, 1100024, 1100025, 1053, 31, 1100030, 1100009, 1100027, 1100028, 1100026, 1055, 1100033, 39, 1066] S (sv_sts (sv_sts (sv_sts (sv_sts (sv_sts (sv_sts S [26, 27, 28, 29, 1046, 1047, 1100007, 1100023, 1100024, 1100025, 1053, 31, 1100030, 1100009, 1100027, 1100028, 1100026, 1055, 1100033, 39, 1066] g75) [26, 27, 28, 29, 1046, 1047, 1100007, 1100023, 1100024, 1100025, 1053, 31, 1100030, 1100009, 1100027, 1100028, 1100026, 1055, 1100033, 39, 1066] g85) [26, 27, 28, 29, 1046, 1047, 1100007, 1100023, 1100024, 1100025] g93) [26, 27, 28, 29, 1046, 1047, 1100007, 1100023, 1100024, 1100025] g100) [26, 27, 28, 29, 1046, 1047, 1100007, 1100023, 1100024, 1100025] g107) [26, 27, 28, 29, 1046, 1047, 1100007, 1100023, 1100024, 1100025] g114) := sv_mod.sts md112 (by decide)
    have h := h g114 hpo117
    have eS := sv_mod.eq md119
    have hb := J58 (sv_sts (sv_sts (sv_sts (sv_sts (sv_sts (sv_sts S [26, 27, 28, 29, 1046, 1047, 1100007, 1100023, 1100024, 1100025, 1053, 31, 1100030, 1100009, 1100027, 1100028, 1100026, 1055, 1100033, 39, 1066] g75) [26, 27, 28, 29, 1046, 1047, 1100007, 1100023, 1100024, 1100025, 1053, 31, 1100030, 1100009, 1100027, 1100028, 1100026, 1055, 1100033, 39, 1066] g85) [26, 27, 28, 29, 1046, 1047, 1100007, 1100023, 1100024, 1100025] g93) [26, 27, 28, 29, 1046, 1047, 1100007, 1100023, 1100024, 1100025] g100) [26, 27, 28, 29, 1046, 1047, 1100007, 1100023, 1100024, 1100025] g107) [26, 27, 28, 29, 1046, 1047, 1100007, 1100023, 1100024, 1100025] g114) (by rw [← eS]; exact ok115) h
    have hb : sv_T sm_XS sm_cs sm_L sm_sh ((S 1100002 p2) + (600 - (S 1046 0)) + 9).toNat (q_stepBehind p1 p2 S) 105 83 [(0, .ref 0), (1, sv_I p1), (2, sv_I p2)] [] (sv_sts (sv_sts (sv_sts (sv_sts (sv_sts (sv_sts S [26, 27, 28, 29, 1046, 1047, 1100007, 1100023, 1100024, 1100025, 1053, 31, 1100030, 1100009, 1100027, 1100028, 1100026, 1055, 1100033, 39, 1066] g75) [26, 27, 28, 29, 1046, 1047, 1100007, 1100023, 1100024, 1100025, 1053, 31, 1100030, 1100009, 1100027, 1100028, 1100026, 1055, 1100033, 39, 1066] g85) [26, 27, 28, 29, 1046, 1047, 1100007, 1100023, 1100024, 1100025] g93) [26, 27, 28, 29, 1046, 1047, 1100007, 1100023, 1100024, 1100025] g100) [26, 27, 28, 29, 1046, 1047, 1100007, 1100023, 1100024, 1100025] g107) [26, 27, 28, 29, 1046, 1047, 1100007, 1100023, 1100024, 1100025] g114) := Eq.mpr (congrArg (fun Z => sv_T sm_XS sm_cs sm_L sm_sh ((S 1100002 p2) + (600 - (S 1046 0)) + 9).toNat (q_stepBehind p1 p2 S) 105 83 [(0, .ref 0), (1, sv_I p1), (2, sv_I p2)] [] Z) eS) hb
    exact sv_less (lv := [(0, .ref 0), (1, sv_I p1), (2, sv_I p2)]) (sv_Sub_cons rfl (sv_Sub_cons rfl (sv_Sub_cons rfl sv_Sub_nil))) hb
  · have h := h.2 (hc)
    refine sv_aload_n hM dX12_stepBehind_10 rfl rfl ?_
    refine sv_aload_n hM dX12_stepBehind_11 rfl rfl ?_
    refine sv_iload_n hM dX12_stepBehind_12 rfl rfl ?_
    refine sv_iconst (d := (0 : Int)) hM dX12_stepBehind_13 rfl rfl ?_
    obtain ⟨o120, h⟩ := h
    obtain ⟨o121, h⟩ := h
    refine sv_callV hM dX12_stepBehind_14 sm_iv_644 (by decide) (sm_a0 _) rfl rfl (Nat.le_of_ble_eq_true rfl) sm_h34 (Nat.le_of_ble_eq_true rfl) (Nat.le_of_ble_eq_true rfl) (F' := 0) (sv_Fn (n := 0) o121) rfl (t_part p2 (0 : Int) S hok hp2 (⟨by decide, by decide⟩ : sv_R (0 : Int)) o120) (fun v S1 hq => ?_)
    obtain ⟨rfl, hS1⟩ := hq
    obtain rfl : S = S1 := hS1.symm
    show sv_T sm_XS sm_cs sm_L sm_sh ((S 1100002 p2) + (600 - (S 1046 0)) + 9).toNat (q_stepBehind p1 p2 S) 105 17 [(0, .ref 0), (1, sv_I p1), (2, sv_I p2)] [sv_I ((S 12 (5 * p2 + (0 : Int)))), .ref 0] S
    obtain ⟨o122, h⟩ := h
    obtain ⟨o123, h⟩ := h
    refine sv_callV hM dX12_stepBehind_17 sm_iv_680 (by decide) (sm_a0 _) rfl rfl (Nat.le_of_ble_eq_true rfl) sm_h88 (Nat.le_of_ble_eq_true rfl) (Nat.le_of_ble_eq_true rfl) (F' := 2) (sv_Fn (n := 2) o123) rfl (t_coderget ((S 12 (5 * p2 + (0 : Int)))) S hok (sm_okI hok sm_r12 _) o122) (fun v S1 hq => ?_)
    obtain ⟨rfl, ok125, md126, hpo127⟩ := hq
    obtain ⟨g124, rfl⟩ : ∃ g, S1 = sv_sts S [26, 27, 28, 29, 1046, 1047, 1100007, 1100023, 1100024, 1100025] g := ⟨_, md126.eq⟩
    show sv_T sm_XS sm_cs sm_L sm_sh ((S 1100002 p2) + (600 - (S 1046 0)) + 9).toNat (q_stepBehind p1 p2 S) 105 20 [(0, .ref 0), (1, sv_I p1), (2, sv_I p2)] [] (sv_sts S [26, 27, 28, 29, 1046, 1047, 1100007, 1100023, 1100024, 1100025] g124)
    have md128 : sv_mod [26, 27, 28, 29, 1046, 1047, 1100007, 1100023, 1100024, 1100025, 1053, 31, 1100030, 1100009, 1100027, 1100028, 1100026, 1055, 1100033, 39, 1066] S (sv_sts S [26, 27, 28, 29, 1046, 1047, 1100007, 1100023, 1100024, 1100025] g124) := sv_mod.sts sv_mod.rf (by decide)
    have md129 : sv_mod [26, 27, 28, 29, 1046, 1047, 1100007, 1100023, 1100024, 1100025, 1053, 31, 1100030, 1100009, 1100027, 1100028, 1100026, 1055, 1100033, 39, 1066] S (sv_sts S [26, 27, 28, 29, 1046, 1047, 1100007, 1100023, 1100024, 1100025] g124) := sv_mod.sts (sv_mod.rf (l := [26, 27, 28, 29, 1046, 1047, 1100007, 1100023, 1100024, 1100025, 1053, 31, 1100030, 1100009, 1100027, 1100028, 1100026, 1055, 1100033, 39, 1066]) (S := S)) (by decide)
    have h := h g124 hpo127
    refine sv_aload_n hM dX12_stepBehind_20 rfl rfl ?_
    refine sv_bipush (d := (13 : Int)) hM dX12_stepBehind_21 rfl rfl ?_
    refine sv_iconst (d := (0 : Int)) hM dX12_stepBehind_23 rfl rfl ?_
    refine sv_iconst (d := (0 : Int)) hM dX12_stepBehind_24 rfl rfl ?_
    obtain ⟨o130, h⟩ := h
    refine sv_callV hM dX12_stepBehind_25 sm_iv_615 (by decide) (sm_a0 _) rfl rfl (Nat.le_of_ble_eq_true rfl) sm_h82 (Nat.le_of_ble_eq_true rfl) (Nat.le_of_ble_eq_true rfl) (F' := 0) (sv_Fn (n := 0) o121) rfl (t_emit (13 : Int) (0 : Int) (0 : Int) (sv_sts S [26, 27, 28, 29, 1046, 1047, 1100007, 1100023, 1100024, 1100025] g124) ok125 (⟨by decide, by decide⟩ : sv_R (13 : Int)) (⟨by decide, by decide⟩ : sv_R (0 : Int)) (⟨by decide, by decide⟩ : sv_R (0 : Int)) o130) (fun v S1 hq => ?_)
    obtain ⟨rfl, ok132, md133, hpo134⟩ := hq
    obtain ⟨g131, rfl⟩ : ∃ g, S1 = sv_sts (sv_sts S [26, 27, 28, 29, 1046, 1047, 1100007, 1100023, 1100024, 1100025] g124) [26, 27, 28, 29, 1046, 1047, 1100007, 1100023, 1100024, 1100025] g := ⟨_, md133.eq⟩
    show sv_T sm_XS sm_cs sm_L sm_sh ((S 1100002 p2) + (600 - (S 1046 0)) + 9).toNat (q_stepBehind p1 p2 S) 105 28 [(0, .ref 0), (1, sv_I p1), (2, sv_I p2)] [] (sv_sts (sv_sts S [26, 27, 28, 29, 1046, 1047, 1100007, 1100023, 1100024, 1100025] g124) [26, 27, 28, 29, 1046, 1047, 1100007, 1100023, 1100024, 1100025] g131)
    have md135 : sv_mod [26, 27, 28, 29, 1046, 1047, 1100007, 1100023, 1100024, 1100025, 1053, 31, 1100030, 1100009, 1100027, 1100028, 1100026, 1055, 1100033, 39, 1066] S (sv_sts (sv_sts S [26, 27, 28, 29, 1046, 1047, 1100007, 1100023, 1100024, 1100025] g124) [26, 27, 28, 29, 1046, 1047, 1100007, 1100023, 1100024, 1100025] g131) := sv_mod.sts md128 (by decide)
    have md136 : sv_mod [26, 27, 28, 29, 1046, 1047, 1100007, 1100023, 1100024, 1100025, 1053, 31, 1100030, 1100009, 1100027, 1100028, 1100026, 1055, 1100033, 39, 1066] S (sv_sts (sv_sts S [26, 27, 28, 29, 1046, 1047, 1100007, 1100023, 1100024, 1100025] g124) [26, 27, 28, 29, 1046, 1047, 1100007, 1100023, 1100024, 1100025] g131) := sv_mod.sts md129 (by decide)
    have h := h g131 hpo134
    refine sv_aload_n hM dX12_stepBehind_28 rfl rfl ?_
    refine sv_bipush (d := (18 : Int)) hM dX12_stepBehind_29 rfl rfl ?_
    obtain ⟨o137, h⟩ := h
    obtain ⟨o138, h⟩ := h
    refine sv_callV hM dX12_stepBehind_31 sm_iv_666 (by decide) (sm_a0 _) rfl rfl (Nat.le_of_ble_eq_true rfl) sm_h83 (Nat.le_of_ble_eq_true rfl) (Nat.le_of_ble_eq_true rfl) (F' := 1) (sv_Fn (n := 1) o138) rfl (t_emit_ (18 : Int) (sv_sts (sv_sts S [26, 27, 28, 29, 1046, 1047, 1100007, 1100023, 1100024, 1100025] g124) [26, 27, 28, 29, 1046, 1047, 1100007, 1100023, 1100024, 1100025] g131) ok132 (⟨by decide, by decide⟩ : sv_R (18 : Int)) o137) (fun v S1 hq => ?_)
    obtain ⟨rfl, ok140, md141, hpo142⟩ := hq
    obtain ⟨g139, rfl⟩ : ∃ g, S1 = sv_sts (sv_sts (sv_sts S [26, 27, 28, 29, 1046, 1047, 1100007, 1100023, 1100024, 1100025] g124) [26, 27, 28, 29, 1046, 1047, 1100007, 1100023, 1100024, 1100025] g131) [26, 27, 28, 29, 1046, 1047, 1100007, 1100023, 1100024, 1100025] g := ⟨_, md141.eq⟩
    show sv_T sm_XS sm_cs sm_L sm_sh ((S 1100002 p2) + (600 - (S 1046 0)) + 9).toNat (q_stepBehind p1 p2 S) 105 34 [(0, .ref 0), (1, sv_I p1), (2, sv_I p2)] [] (sv_sts (sv_sts (sv_sts S [26, 27, 28, 29, 1046, 1047, 1100007, 1100023, 1100024, 1100025] g124) [26, 27, 28, 29, 1046, 1047, 1100007, 1100023, 1100024, 1100025] g131) [26, 27, 28, 29, 1046, 1047, 1100007, 1100023, 1100024, 1100025] g139)
    have md143 : sv_mod [26, 27, 28, 29, 1046, 1047, 1100007, 1100023, 1100024, 1100025, 1053, 31, 1100030, 1100009, 1100027, 1100028, 1100026, 1055, 1100033, 39, 1066] S (sv_sts (sv_sts (sv_sts S [26, 27, 28, 29, 1046, 1047, 1100007, 1100023, 1100024, 1100025] g124) [26, 27, 28, 29, 1046, 1047, 1100007, 1100023, 1100024, 1100025] g131) [26, 27, 28, 29, 1046, 1047, 1100007, 1100023, 1100024, 1100025] g139) := sv_mod.sts md135 (by decide)
    have md144 : sv_mod [26, 27, 28, 29, 1046, 1047, 1100007, 1100023, 1100024, 1100025, 1053, 31, 1100030, 1100009, 1100027, 1100028, 1100026, 1055, 1100033, 39, 1066] S (sv_sts (sv_sts (sv_sts S [26, 27, 28, 29, 1046, 1047, 1100007, 1100023, 1100024, 1100025] g124) [26, 27, 28, 29, 1046, 1047, 1100007, 1100023, 1100024, 1100025] g131) [26, 27, 28, 29, 1046, 1047, 1100007, 1100023, 1100024, 1100025] g139) := sv_mod.sts md136 (by decide)
    have h := h g139 hpo142
    refine sv_goto hM dX12_stepBehind_34 (pc' := 83) rfl ?_
    have eS := sv_mod.eq md144
    have hb := J58 (sv_sts (sv_sts (sv_sts S [26, 27, 28, 29, 1046, 1047, 1100007, 1100023, 1100024, 1100025] g124) [26, 27, 28, 29, 1046, 1047, 1100007, 1100023, 1100024, 1100025] g131) [26, 27, 28, 29, 1046, 1047, 1100007, 1100023, 1100024, 1100025] g139) (by rw [← eS]; exact ok140) h
    have hb : sv_T sm_XS sm_cs sm_L sm_sh ((S 1100002 p2) + (600 - (S 1046 0)) + 9).toNat (q_stepBehind p1 p2 S) 105 83 [(0, .ref 0), (1, sv_I p1), (2, sv_I p2)] [] (sv_sts (sv_sts (sv_sts S [26, 27, 28, 29, 1046, 1047, 1100007, 1100023, 1100024, 1100025] g124) [26, 27, 28, 29, 1046, 1047, 1100007, 1100023, 1100024, 1100025] g131) [26, 27, 28, 29, 1046, 1047, 1100007, 1100023, 1100024, 1100025] g139) := Eq.mpr (congrArg (fun Z => sv_T sm_XS sm_cs sm_L sm_sh ((S 1100002 p2) + (600 - (S 1046 0)) + 9).toNat (q_stepBehind p1 p2 S) 105 83 [(0, .ref 0), (1, sv_I p1), (2, sv_I p2)] [] Z) eS) hb
    exact sv_less (lv := [(0, .ref 0), (1, sv_I p1), (2, sv_I p2)]) (sv_Sub_cons rfl (sv_Sub_cons rfl (sv_Sub_cons rfl sv_Sub_nil))) hb
