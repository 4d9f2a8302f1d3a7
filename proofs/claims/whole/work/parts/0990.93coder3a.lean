theorem dX12_value_0 : decode cX12_value 0 = .ok (.aload_n 0, 1) := by decide +kernel
theorem dX12_value_1 : decode cX12_value 1 = .ok (.getfield 650, 3) := by decide +kernel
theorem dX12_value_4 : decode cX12_value 4 = .ok (.istore_n 2, 1) := by decide +kernel
theorem dX12_value_5 : decode cX12_value 5 = .ok (.iload_n 1, 1) := by decide +kernel
theorem dX12_value_6 : decode cX12_value 6 = .ok (.istore_n 3, 1) := by decide +kernel
theorem dX12_value_7 : decode cX12_value 7 = .ok (.aload_n 0, 1) := by decide +kernel
theorem dX12_value_8 : decode cX12_value 8 = .ok (.getfield 609, 3) := by decide +kernel
theorem dX12_value_11 : decode cX12_value 11 = .ok (.ifCond .ne 66, 3) := by decide +kernel
theorem dX12_value_14 : decode cX12_value 14 = .ok (.aload_n 0, 1) := by decide +kernel
theorem dX12_value_15 : decode cX12_value 15 = .ok (.iload_n 3, 1) := by decide +kernel
theorem dX12_value_16 : decode cX12_value 16 = .ok (.invokevirtual 653, 3) := by decide +kernel
theorem dX12_value_19 : decode cX12_value 19 = .ok (.iconst (-1), 1) := by decide +kernel
theorem dX12_value_20 : decode cX12_value 20 = .ok (.if_icmp .eq 57, 3) := by decide +kernel
theorem dX12_value_23 : decode cX12_value 23 = .ok (.aload_n 0, 1) := by decide +kernel
theorem dX12_value_24 : decode cX12_value 24 = .ok (.getfield 42, 3) := by decide +kernel
theorem dX12_value_27 : decode cX12_value 27 = .ok (.iload_n 3, 1) := by decide +kernel
theorem dX12_value_28 : decode cX12_value 28 = .ok (.iaload, 1) := by decide +kernel
theorem dX12_value_29 : decode cX12_value 29 = .ok (.bipush 8, 2) := by decide +kernel
theorem dX12_value_31 : decode cX12_value 31 = .ok (.if_icmp .ne 17, 3) := by decide +kernel
theorem dX12_value_34 : decode cX12_value 34 = .ok (.aload_n 0, 1) := by decide +kernel
theorem dX12_value_35 : decode cX12_value 35 = .ok (.iload_n 3, 1) := by decide +kernel
theorem dX12_value_36 : decode cX12_value 36 = .ok (.invokevirtual 647, 3) := by decide +kernel
theorem dX12_value_39 : decode cX12_value 39 = .ok (.ifCond .ne 9, 3) := by decide +kernel
theorem dX12_value_42 : decode cX12_value 42 = .ok (.aload_n 0, 1) := by decide +kernel
theorem dX12_value_43 : decode cX12_value 43 = .ok (.iconst 0, 1) := by decide +kernel
theorem dX12_value_44 : decode cX12_value 44 = .ok (.iconst 0, 1) := by decide +kernel
theorem dX12_value_45 : decode cX12_value 45 = .ok (.invokevirtual 656, 3) := by decide +kernel
theorem dX12_value_48 : decode cX12_value 48 = .ok (.aload_n 0, 1) := by decide +kernel
theorem dX12_value_49 : decode cX12_value 49 = .ok (.getfield 128, 3) := by decide +kernel
theorem dX12_value_52 : decode cX12_value 52 = .ok (.aload_n 0, 1) := by decide +kernel
theorem dX12_value_53 : decode cX12_value 53 = .ok (.getfield 650, 3) := by decide +kernel
theorem dX12_value_56 : decode cX12_value 56 = .ok (.iload_n 3, 1) := by decide +kernel
theorem dX12_value_57 : decode cX12_value 57 = .ok (.iastore, 1) := by decide +kernel
theorem dX12_value_58 : decode cX12_value 58 = .ok (.aload_n 0, 1) := by decide +kernel
theorem dX12_value_59 : decode cX12_value 59 = .ok (.dup, 1) := by decide +kernel
theorem dX12_value_60 : decode cX12_value 60 = .ok (.getfield 650, 3) := by decide +kernel
theorem dX12_value_63 : decode cX12_value 63 = .ok (.iconst 1, 1) := by decide +kernel
theorem dX12_value_64 : decode cX12_value 64 = .ok (.iadd, 1) := by decide +kernel
theorem dX12_value_65 : decode cX12_value 65 = .ok (.putfield 650, 3) := by decide +kernel
theorem dX12_value_68 : decode cX12_value 68 = .ok (.aload_n 0, 1) := by decide +kernel
theorem dX12_value_69 : decode cX12_value 69 = .ok (.iload_n 3, 1) := by decide +kernel
theorem dX12_value_70 : decode cX12_value 70 = .ok (.invokevirtual 653, 3) := by decide +kernel
theorem dX12_value_73 : decode cX12_value 73 = .ok (.istore_n 3, 1) := by decide +kernel
theorem dX12_value_74 : decode cX12_value 74 = .ok (.goto (-67), 3) := by decide +kernel
theorem dX12_value_77 : decode cX12_value 77 = .ok (.aload_n 0, 1) := by decide +kernel
theorem dX12_value_78 : decode cX12_value 78 = .ok (.iload_n 3, 1) := by decide +kernel
theorem dX12_value_79 : decode cX12_value 79 = .ok (.invokevirtual 660, 3) := by decide +kernel
theorem dX12_value_82 : decode cX12_value 82 = .ok (.aload_n 0, 1) := by decide +kernel
theorem dX12_value_83 : decode cX12_value 83 = .ok (.getfield 650, 3) := by decide +kernel
theorem dX12_value_86 : decode cX12_value 86 = .ok (.iload_n 2, 1) := by decide +kernel
theorem dX12_value_87 : decode cX12_value 87 = .ok (.if_icmp .le 36, 3) := by decide +kernel
theorem dX12_value_90 : decode cX12_value 90 = .ok (.aload_n 0, 1) := by decide +kernel
theorem dX12_value_91 : decode cX12_value 91 = .ok (.dup, 1) := by decide +kernel
theorem dX12_value_92 : decode cX12_value 92 = .ok (.getfield 650, 3) := by decide +kernel
theorem dX12_value_95 : decode cX12_value 95 = .ok (.iconst 1, 1) := by decide +kernel
theorem dX12_value_96 : decode cX12_value 96 = .ok (.isub, 1) := by decide +kernel
theorem dX12_value_97 : decode cX12_value 97 = .ok (.putfield 650, 3) := by decide +kernel
theorem dX12_value_100 : decode cX12_value 100 = .ok (.aload_n 0, 1) := by decide +kernel
theorem dX12_value_101 : decode cX12_value 101 = .ok (.getfield 609, 3) := by decide +kernel
theorem dX12_value_104 : decode cX12_value 104 = .ok (.ifCond .ne (-22), 3) := by decide +kernel
theorem dX12_value_107 : decode cX12_value 107 = .ok (.aload_n 0, 1) := by decide +kernel
theorem dX12_value_108 : decode cX12_value 108 = .ok (.aload_n 0, 1) := by decide +kernel
theorem dX12_value_109 : decode cX12_value 109 = .ok (.getfield 128, 3) := by decide +kernel
theorem dX12_value_112 : decode cX12_value 112 = .ok (.aload_n 0, 1) := by decide +kernel
theorem dX12_value_113 : decode cX12_value 113 = .ok (.getfield 650, 3) := by decide +kernel
theorem dX12_value_116 : decode cX12_value 116 = .ok (.iaload, 1) := by decide +kernel
theorem dX12_value_117 : decode cX12_value 117 = .ok (.invokevirtual 663, 3) := by decide +kernel
theorem dX12_value_120 : decode cX12_value 120 = .ok (.goto (-38), 3) := by decide +kernel
theorem dX12_value_123 : decode cX12_value 123 = .ok (.return_, 1) := by decide +kernel

theorem la_value_0 {x0 : Int} (h0 : x0 = 1) : ¬ x0 = 2 := by omega
theorem la_value_1 {x0 : Int} (h0 : x0 = 1) : ¬ x0 = 6 := by omega
theorem la_value_2 {x0 : Int} (h0 : x0 = 1) : ¬ x0 = 3 := by omega
theorem la_value_3 {x0 : Int} : x0 ≤ x0 := by omega
theorem la_value_4 {x0 : Int} : x0 = 1 → x0 = 1 := by omega
theorem la_value_5 {x0 : Int} : x0 = x0 := by omega
theorem la_value_6 {x0 : Int} : x0 - x0 = 0 := by omega
theorem la_value_7 {x0 x1 : Int} : x0 - x0 = x1 - x1 := by omega
theorem la_value_8 {x0 x1 : Int} : x0 = x0 + (x1 - x1) := by omega
theorem la_value_9 {x0 : Int} (h0 : 0 ≤ x0) (h1 : ¬ x0 = 0) : 0 < x0 := by omega
theorem la_value_10 {x0 x1 : Int} (h0 : 0 < x0) (h1 : x0 = 0) : x1 = 0 := by omega
theorem la_value_11 {x0 x1 : Int} (h0 : 0 < x0) (h1 : x0 = 0) : x1 = 1 := by omega
theorem la_value_12 {x0 : Int} (h0 : x0 = 0) (h1 : x0 = 1) : False := by omega
theorem la_value_13 {x0 : Int} (h0 : 0 < x0) (h1 : x0 = 0) : False := by omega
theorem la_value_14 {x0 : Int} (h0 : x0 = 3) : 0 ≤ x0 := by omega
theorem la_value_15 {x0 : Int} (h0 : x0 = 0) : ¬ x0 = 1 := by omega
theorem la_value_16 {x0 x1 x2 x3 x4 : Int} (h0 : x0 ≤ 600) (h1 : x1 = x2) (h2 : 0 ≤ x3) (h3 : x4 = 3) (h4 : x1 = x3 + (600 - x0) + 8) : x4 < x2 := by omega
theorem la_value_17 {x0 : Int} (h0 : x0 ≤ 1) (h1 : 0 < x0) : x0 = 1 := by omega
theorem la_value_18 {x0 x1 x2 : Int} (h0 : x0 = x1) (h1 : x2 = 3) (h2 : x0 = 4) : x2 < x1 := by omega
theorem la_value_19 {x0 x1 x2 x3 : Int} (h0 : x0 ≤ 600) (h1 : 0 ≤ x1) (h2 : x2 = 3) (h3 : x3 = x1 + (600 - x0) + 8) : x2 + 1 ≤ x3 := by omega
theorem la_value_20 {x0 x1 : Int} (h0 : x0 = 3) (h1 : x1 = 4) : x0 + 1 ≤ x1 := by omega
theorem la_value_21 {x0 : Int} (h0 : x0 = 1) : ¬ x0 = 0 := by omega
theorem la_value_22 {x0 x1 x2 : Int} (h0 : x0 ≤ x1) (h1 : x1 ≤ x2) : x0 ≤ x2 := by omega
theorem la_value_23 {x0 x1 : Int} (h0 : x0 ≤ 1) (h1 : x0 = 1) : x1 = 1 → x0 = 1 := by omega
theorem la_value_24 {x0 x1 : Int} (h0 : x0 ≤ x1) : x0 + 1 ≤ x1 + 1 := by omega
theorem la_value_25 {x0 x1 x2 : Int} (h0 : x0 ≤ x1) (h1 : x2 = x1) : x0 ≤ x2 := by omega
theorem la_value_26 {x0 x1 x2 : Int} (h0 : x0 ≤ x1) (h1 : x1 = x0) : x2 = 1 → x1 = x0 := by omega
theorem la_value_27 {x0 x1 x2 x3 x4 : Int} (h0 : x0 ≤ 600) (h1 : 0 ≤ x1) (h2 : x2 = x3) : x4 = 0 → x2 ≤ x3 + 3 * (600 - x0) + x1 := by omega
theorem la_value_28 {x0 x1 : Int} (h0 : x0 ≤ x1) (h1 : ¬ x1 = x0) : x0 < x1 := by omega
theorem la_value_29 {x0 x1 : Int} (h0 : x0 = x1) : x0 ≤ x1 := by omega
theorem la_value_30 {x0 x1 : Int} (h0 : 0 ≤ x0) (h1 : 0 ≤ x1) : (-1) ≤ 12001 * x1 + x0 := by omega
theorem la_value_31 {x0 : Int} (h0 : x0 = 1) (h1 : x0 = 0) : False := by omega
theorem la_value_32 {x0 x1 : Int} : x0 = x1 + (x0 - x1) := by omega
theorem la_value_33 {x0 x1 x2 x3 x4 : Int} (h0 : x0 ≤ x1) (h1 : x1 ≤ x2) (h2 : x3 = x4) : x3 ≤ x4 + 3 * (x2 - x0) := by omega
theorem la_value_34 {x0 x1 : Int} (h0 : x0 ≤ x1) : x0 < x1 + 1 := by omega
theorem la_value_35 {x0 : Int} : x0 < x0 + 1 := by omega
theorem la_value_36 {x0 x1 : Int} (h0 : x0 ≤ x1) (h1 : x1 ≤ x0) : ¬ ¬ x1 = x0 := by omega
theorem la_value_37 {x0 x1 : Int} (h0 : x0 ≤ x1) (h1 : x1 ≤ x0) : x1 = x0 := by omega
theorem la_value_38 {x0 x1 x2 : Int} (h0 : x0 ≤ x1) (h1 : x2 ≤ x0) : x2 ≤ x1 := by omega
theorem la_value_39 {x0 : Int} (h0 : x0 ≤ 1) (h1 : ¬ x0 = 1) : x0 < 1 := by omega
theorem la_value_40 {x0 x1 x2 x3 : Int} (h0 : x0 - x1 ≤ x2 - x3) (h1 : 0 ≤ x0 - x1 - 1) : x3 + 1 ≤ x2 := by omega
theorem la_value_41 {x0 x1 : Int} (h0 : 0 ≤ x0 - x1 - 1) (h1 : x0 - x1 - 1 = 0) : x0 = x1 + 1 := by omega
theorem la_value_42 {x0 x1 x2 x3 x4 : Int} (h0 : 0 ≤ x0) (h1 : x1 - x2 ≤ x3 - x4) (h2 : 0 ≤ x1 - x2 - 1) : 2 * x2 ≤ 2 * x2 + (x3 - x4) + 8 * x0 + 10 := by omega
theorem la_value_43 {x0 : Int} : x0 ≤ x0 + 1 := by omega
theorem la_value_44 {x0 x1 x2 x3 x4 : Int} (h0 : x0 - x1 - 1 = 0) : 2 * x1 + (x2 - x3) + (x0 - x1 - 1) + 8 * x4 + 10 ≤ 2 * x1 + (x2 - x3) + 8 * x4 + 10 := by omega
theorem la_value_45 {x0 x1 : Int} (h0 : ¬ x0 ≤ x1) : ¬ x0 = x1 := by omega
theorem la_value_46 {x0 x1 : Int} (h0 : x0 ≤ 12000) (h1 : 0 ≤ x1) (h2 : x1 ≤ x0) : sv_R (x1 - 1) := by omega
theorem la_value_47 {x0 x1 : Int} (h0 : 0 ≤ x0) (h1 : ¬ x1 ≤ x0) : 0 ≤ x1 - 1 := by omega
theorem la_value_48 {x0 x1 : Int} (h0 : ¬ x0 ≤ x1) : x1 ≤ x0 - 1 := by omega
theorem la_value_49 {x0 x1 : Int} (h0 : x0 ≤ x1 - 1) (h1 : ¬ x1 - 1 = x0) : x0 < x1 - 1 := by omega
theorem la_value_50 {x0 : Int} : x0 - 1 ≤ x0 := by omega
theorem la_value_51 {x0 x1 : Int} (h0 : 0 ≤ x0) (h1 : x0 < x1 - 1) : 0 ≤ x1 - 1 := by omega
theorem la_value_52 {x0 x1 : Int} (h0 : 0 ≤ x0) (h1 : 0 < x1) (h2 : x1 = 0) : x0 = 0 := by omega
theorem la_value_53 {x0 x1 : Int} (h0 : 0 < x0) (h1 : x0 = 0) : x1 = 3 := by omega
theorem la_value_54 {x0 x1 : Int} (h0 : 0 < x0) (h1 : x0 = 0) : x1 = 4 ∨ x1 = 5 ∨ x1 = 8 ∨ x1 = 9 := by omega
theorem la_value_55 {x0 x1 : Int} (h0 : x0 ≤ 1) (h1 : 0 < x1) (h2 : x1 = 0) : x0 = 1 := by omega
theorem la_value_56 {x0 : Int} : x0 - 1 < x0 := by omega
theorem la_value_57 {x0 : Int} (h0 : ¬ ¬ x0 = 0) : ¬ x0 = 1 := by omega
theorem la_value_58 {x0 : Int} (h0 : 0 ≤ x0) (h1 : ¬ ¬ x0 = 0) : x0 = 0 := by omega
theorem la_value_59 {x0 : Int} : x0 - 1 + 1 = x0 := by omega
theorem la_value_60 {x0 : Int} : x0 - 1 + 1 ≤ x0 := by omega
theorem la_value_61 {x0 x1 : Int} (h0 : 0 ≤ x0) (h1 : ¬ x1 ≤ x0) : 0 ≤ x1 - 1 + 1 := by omega
theorem la_value_62 {x0 x1 x2 : Int} (h0 : x0 ≤ 12000) (h1 : 0 ≤ x1) (h2 : ¬ x2 ≤ x1) (h3 : x2 ≤ x0) : 0 ≤ x2 - 1 ∧ x2 - 1 < 12000 := by omega
theorem la_value_63 {x0 x1 x2 : Int} (h0 : 0 ≤ x0) (h1 : 0 ≤ x1 - x0 - 1 - x2) : 1 + x2 ≤ x1 := by omega
theorem la_value_64 {x0 x1 x2 x3 : Int} (h0 : 0 ≤ x0) (h1 : x1 - x2 ≤ x3 - x0) (h2 : 0 ≤ x1 - x2 - 1) : 1 ≤ x3 := by omega
theorem la_value_65 {x0 x1 x2 x3 x4 x5 x6 x7 x8 x9 x10 x11 x12 x13 x14 x15 x16 x17 x18 : Int} (h0 : x0 = x1) (h1 : 0 ≤ x1) (h2 : x1 ≤ x2) (h3 : x3 - x4 ≤ x2 - x5) (h4 : x6 = x7) (h5 : x8 = x9) (h6 : x10 = x11) (h7 : x12 = x13) (h8 : x14 ≤ x15 + 3 * (x2 - x5)) (h9 : 0 ≤ x7 → x11 ≤ x4) (h10 : 0 ≤ x9 → x13 ≤ x4) (h11 : x4 ≤ x5) (h12 : x15 + 3 * (600 - x5) + x16 ≤ 8000) (h13 : x17 ≤ x16) (h14 : 0 ≤ x3 - x4 - 1 - x18) : x0 = x1 ∧ 0 ≤ x1 ∧ x1 ≤ x2 ∧ (0 ≤ x6 → x10 ≤ x3 - (1 + x18)) ∧ (0 ≤ x8 → x12 ≤ x3 - (1 + x18)) ∧ x3 ≤ x2 ∧ x14 + 3 * (600 - x2) + x17 ≤ 8000 := by omega
theorem la_value_66 {x0 x1 x2 x3 x4 x5 x6 x7 : Int} (h0 : x0 = x1) (h1 : x2 ≤ 600) (h2 : x3 - x4 ≤ x2 - x5) (h3 : 0 ≤ x3 - x4 - 1) (h4 : x0 = x6 + (600 - x5) + 8) (h5 : x7 ≤ x6) (h6 : 0 ≤ x7) : 0 ≤ x7 + (600 - x2) + 8 ∧ x7 + (600 - x2) + 8 < x1 := by omega
theorem la_value_67 {x0 x1 x2 x3 x4 x5 x6 : Int} (h0 : x0 ≤ 600) (h1 : x1 - x2 ≤ x0 - x3) (h2 : 0 ≤ x1 - x2 - 1) (h3 : x4 = x5 + (600 - x3) + 8) (h4 : x6 ≤ x5) (h5 : 0 ≤ x6) : 0 ≤ x6 + (600 - x0) + 8 ∧ x6 + (600 - x0) + 8 + 1 ≤ x4 := by omega
theorem la_value_68 {x0 : Int} (h0 : ¬ ¬ x0 = 0) : x0 = 0 := by omega
theorem la_value_69 {x0 x1 x2 x3 x4 : Int} (h0 : x0 - x1 ≤ x2 - x3) (h1 : 0 ≤ x0 - x1 - 1) (h2 : x2 ≤ x4) : x3 ≤ x4 := by omega
theorem la_value_70 {x0 x1 : Int} (h0 : x0 = 0) (h1 : x1 ≤ 1) : x0 = 1 → x1 = 1 := by omega
theorem la_value_71 {x0 x1 x2 x3 : Int} (h0 : x0 - x1 ≤ x2 - x3) (h1 : 0 ≤ x0 - x1 - 1) : x3 + 1 ≤ x2 + 1 := by omega
theorem la_value_72 {x0 x1 x2 : Int} (h0 : ¬ x0 ≤ x1) (h1 : x2 = x0 - 1) : x1 ≤ x2 := by omega
theorem la_value_73 {x0 x1 x2 : Int} (h0 : x0 < 1) : x0 = 1 → x1 = x2 := by omega
theorem la_value_74 {x0 x1 x2 x3 x4 x5 x6 x7 : Int} (h0 : x0 ≤ x1 + 3 * (x2 - x3)) (h1 : x4 ≤ x5) (h2 : x6 ≤ x0 + 3 * (600 - x2) + x4) : x7 = 0 → x6 ≤ x1 + 3 * (600 - x3) + x5 := by omega
theorem la_value_75 {x0 x1 x2 : Int} (h0 : x0 ≤ x1 - 1) (h1 : x2 = x1 - 1) : x0 ≤ x2 := by omega
theorem la_value_76 {x0 x1 x2 : Int} (h0 : x0 = x1 - 1) (h1 : x2 < x0) : ¬ x1 - 1 = x2 := by omega
theorem la_value_77 {x0 x1 : Int} (h0 : x0 = x1 - 1) : x0 ≤ x1 - 1 := by omega
theorem la_value_78 {x0 x1 : Int} (h0 : (-1) < 12001 * x0 + x1) : (-1) ≤ 12001 * x0 + x1 := by omega
theorem la_value_79 {x0 x1 x2 x3 : Int} (h0 : x0 = x1 + (0 - x2)) : x0 - x3 - 1 = x1 - x3 - 1 - x2 := by omega
theorem la_value_80 {x0 x1 x2 x3 x4 x5 x6 : Int} (h0 : x0 - x1 ≤ x2 - x3) (h1 : 0 ≤ x4) (h2 : x2 + 1 ≤ x5) (h3 : x6 = x0 + (0 - x4)) : x6 - x1 ≤ x5 - x3 := by omega
theorem la_value_81 {x0 x1 x2 : Int} (h0 : x0 = x1) (h1 : x2 = x0) : x2 = x1 := by omega
theorem la_value_82 {x0 x1 x2 x3 : Int} (h0 : x0 - x1 ≤ x2 - x3) (h1 : 0 ≤ x0 - x1 - 1) : x3 < x2 := by omega
theorem la_value_83 {x0 x1 x2 x3 x4 x5 : Int} (h0 : x0 ≤ x1 + 3 * (x2 - x3)) (h1 : x4 ≤ x0 + 3 * (x5 - x2)) : x4 ≤ x1 + 3 * (x5 - x3) := by omega
theorem la_value_84 {x0 x1 x2 x3 : Int} (h0 : x0 - x1 ≤ x2 - x3) (h1 : 0 ≤ x0 - x1 - 1) : x3 < x2 + 1 := by omega
theorem la_value_85 {x0 x1 x2 x3 x4 x5 x6 x7 : Int} (h0 : 0 ≤ x0) (h1 : x1 - x2 ≤ x3 - x4) (h2 : 0 ≤ x1 - x2 - 1) (h3 : 0 ≤ x1 - x2 - 1 - x5) (h4 : x3 + 1 ≤ x6) (h5 : x7 = x1 + (0 - x5)) : 2 * x2 ≤ 2 * x2 + (x6 - x4) + (x7 - x2 - 1) + 8 * x0 + 10 := by omega
theorem la_value_86 {x0 x1 x2 x3 : Int} (h0 : x0 - x1 ≤ x2 - x3) (h1 : 0 ≤ x0 - x1 - 1) : x3 + 1 < x2 + 1 := by omega
theorem la_value_87 {x0 x1 x2 x3 x4 x5 x6 x7 : Int} (h0 : x0 ≤ 1) (h1 : x1 + 1 ≤ x2) (h2 : x3 = x4 + (0 - x0)) : 2 * x5 + (x1 - x6) + (x4 - x5 - 1) + 8 * x7 + 10 ≤ 2 * x5 + (x2 - x6) + (x3 - x5 - 1) + 8 * x7 + 10 := by omega
theorem la_value_88 {x0 x1 x2 x3 x4 x5 x6 x7 : Int} (h0 : 0 ≤ x0) (h1 : x1 - x2 ≤ x3 - x4) (h2 : x5 ≤ 1) (h3 : x3 + 1 ≤ x6) (h4 : x7 = x1 + (0 - x5)) : 2 * x1 ≤ 2 * x2 + (x6 - x4) + (x7 - x2 - 1) + 8 * x0 + 10 := by omega
theorem la_value_89 {x0 x1 x2 x3 x4 x5 x6 x7 x8 : Int} (h0 : x0 - x1 ≤ x2 - x3) (h1 : x4 ≤ x5) (h2 : x6 = x0 + (0 - x7)) : 2 * (x0 - (1 + x7)) + (1 + x7) + (x8 - x2) + 8 * x4 + 10 ≤ 2 * x1 + (x8 - x3) + (x6 - x1 - 1) + 8 * x5 + 10 := by omega
theorem la_value_90 {x0 x1 : Int} (h0 : x0 = x1 - 1) : x0 < x1 := by omega
theorem la_value_91 {x0 x1 : Int} (h0 : x0 ≤ 12000) (h1 : x1 < x0) : x1 < 12000 := by omega
theorem la_value_92 {x0 : Int} (h0 : x0 = 8) : ¬ x0 = 3 := by omega
theorem la_value_93 {x0 : Int} (h0 : x0 = 8) : x0 = 4 ∨ x0 = 5 ∨ x0 = 8 ∨ x0 = 9 := by omega
theorem la_value_94 {x0 : Int} (h0 : x0 = 8) : ¬ ¬ x0 = 8 := by omega
theorem la_value_95 {x0 x1 x2 : Int} (h0 : x0 ≤ 12000) (h1 : x1 < x0) (h2 : x2 < x1) : x2 < 12000 := by omega
theorem la_value_96 {x0 x1 x2 : Int} (h0 : x0 ≤ 600) (h1 : 0 ≤ x1) (h2 : x2 = x1 + (600 - x0) + 8) : 2 + 1 ≤ x2 := by omega
theorem la_value_97 {x0 x1 x2 : Int} (h0 : x0 = x1) (h1 : x1 < x2) : x0 < x2 + 1 := by omega
theorem la_value_98 {x0 x1 x2 x3 x4 x5 x6 x7 x8 : Int} (h0 : x0 ≤ 12000) (h1 : x1 < x0) (h2 : ¬ x2 = (-1) → (x3 = 3 ∨ x3 = 7 ∨ x3 = 8 ∨ x3 = 11 ∨ x3 = 12 ∨ x3 = 13) ∧ 0 ≤ x2 ∧ x2 < x1 ∧ x4 = 1 ∧ x5 ≤ x6 ∧ x7 ≤ x8) : sv_R x2 := by omega
theorem la_value_99 {x0 : Int} (h0 : x0 = (-1)) : ¬ ¬ x0 = (-1) := by omega
theorem la_value_100 {x0 x1 x2 x3 x4 x5 : Int} (h0 : x0 = x1) (h1 : x2 = x3) (h2 : 0 ≤ x1 → x3 ≤ x4) (h3 : 0 ≤ x5 - x4) : 0 ≤ x0 → x2 ≤ x5 := by omega
theorem la_value_101 {x0 x1 x2 x3 : Int} (h0 : x0 - x1 = x2 - x3) (h1 : x3 ≤ x1) : x2 ≤ x0 := by omega
theorem la_value_102 {x0 x1 x2 x3 x4 : Int} (h0 : x0 ≤ x1) (h1 : x2 ≤ x3) (h2 : x4 + 3 * (600 - x0) + x3 ≤ 8000) : x4 + 3 * (600 - x1) + x2 ≤ 8000 := by omega
theorem la_value_103 {x0 x1 x2 : Int} (h0 : x0 ≤ 600) (h1 : 0 ≤ x1) (h2 : x2 = x1 + (600 - x0) + 7) : 0 ≤ x2 := by omega
theorem la_value_104 {x0 x1 x2 x3 x4 x5 x6 : Int} (h0 : x0 = x1) (h1 : x2 ≤ x3) (h2 : x4 ≤ x5) (h3 : x0 = x5 + (600 - x2) + 8) (h4 : x6 = x4 + (600 - x3) + 7) : x6 < x1 := by omega
theorem la_value_105 {x0 x1 x2 x3 x4 x5 : Int} (h0 : x0 ≤ x1) (h1 : x2 ≤ x3) (h2 : x4 = x3 + (600 - x0) + 8) (h3 : x5 = x2 + (600 - x1) + 7) : x5 + 1 ≤ x4 := by omega
theorem la_value_106 {x0 x1 x2 : Int} (h0 : x0 = 0) : x0 = 1 → x1 = x2 := by omega
theorem la_value_107 {x0 x1 x2 x3 x4 x5 x6 : Int} (h0 : x0 ≤ x1) (h1 : x2 ≤ x3) (h2 : x4 ≤ x5 + 3 * (600 - x1) + x2) : x6 = 0 → x4 ≤ x5 + 3 * (600 - x0) + x3 := by omega
theorem la_value_108 {x0 x1 x2 : Int} (h0 : x0 = x1) (h1 : x2 < x0) : ¬ x1 = x2 := by omega
theorem la_value_109 {x0 x1 x2 : Int} (h0 : x0 = x1 + 1) : x0 - x2 - 1 = x1 - x2 := by omega
theorem la_value_110 {x0 x1 x2 x3 x4 x5 : Int} (h0 : x0 - x1 = x2 - x3) (h1 : x0 + 1 ≤ x4) (h2 : x5 = x2 + 1) : x5 - x3 ≤ x4 - x1 := by omega
theorem la_value_111 {x0 x1 x2 x3 x4 : Int} (h0 : x0 ≤ x1) (h1 : x2 ≤ x3 + 3 * (x4 - x1)) : x2 ≤ x3 + 3 * (x4 - x0) := by omega
theorem la_value_112 {x0 x1 x2 x3 x4 x5 x6 : Int} (h0 : 0 ≤ x0) (h1 : x1 ≤ x2) (h2 : 0 ≤ x3 - x4) (h3 : x2 + 1 ≤ x5) (h4 : x6 = x3 + 1) : 2 * x4 ≤ 2 * x4 + (x5 - x1) + (x6 - x4 - 1) + 8 * x0 + 10 := by omega
theorem la_value_113 {x0 x1 x2 x3 x4 x5 x6 : Int} (h0 : 0 ≤ x0) (h1 : x1 - x2 = x3 - x4) (h2 : x1 + 1 ≤ x5) (h3 : x6 = x3 + 1) : 2 * x4 + 2 * (x1 - x2) ≤ 2 * x4 + (x5 - x2) + (x6 - x4 - 1) + 8 * x0 + 10 := by omega
theorem la_value_114 {x0 x1 x2 x3 x4 x5 x6 : Int} (h0 : 0 ≤ x0) (h1 : x1 - x2 = x3 - x4) (h2 : x1 + 1 ≤ x5) (h3 : x6 = x3 + 1) : 2 * x3 ≤ 2 * x4 + (x5 - x2) + (x6 - x4 - 1) + 8 * x0 + 10 := by omega
theorem la_value_115 {x0 x1 x2 x3 x4 x5 x6 x7 : Int} (h0 : x0 ≤ x1) (h1 : x2 - x3 = x4 - x5) (h2 : x6 = x4 + 1) : 2 * x4 + (x7 - x2) + 8 * x0 + 10 ≤ 2 * x5 + (x7 - x3) + (x6 - x5 - 1) + 8 * x1 + 10 := by omega
theorem la_value_116 {x0 x1 x2 x3 x4 x5 x6 x7 x8 x9 x10 x11 x12 x13 x14 x15 x16 x17 x18 : Int} (h0 : 0 ≤ x0 → x1 ≤ x2) (h1 : 0 ≤ x3 → x4 ≤ x2) (h2 : x2 ≤ x5) (h3 : x6 + 3 * (600 - x5) + x7 ≤ 8000) (h4 : x8 = x9) (h5 : 0 ≤ x9) (h6 : x9 ≤ x10) (h7 : x11 - x2 ≤ x10 - x5) (h8 : x12 = x0) (h9 : x13 = x3) (h10 : x14 = x1) (h11 : x15 = x4) (h12 : x16 ≤ x6 + 3 * (x10 - x5)) (h13 : x17 ≤ x7) (h14 : 0 ≤ x11 - x2 - 1 - x18) : x8 = x9 ∧ 0 ≤ x9 ∧ x9 ≤ x10 ∧ (0 ≤ x12 → x14 ≤ x11 - (1 + x18)) ∧ (0 ≤ x13 → x15 ≤ x11 - (1 + x18)) ∧ x11 ≤ x10 ∧ x16 + 3 * (600 - x10) + x17 ≤ 8000 := by omega
theorem la_value_117 {x0 x1 x2 x3 x4 x5 x6 x7 : Int} (h0 : x0 = x1) (h1 : x0 = x2 + (600 - x3) + 8) (h2 : x4 ≤ 600) (h3 : x5 - x6 ≤ x4 - x3) (h4 : 0 ≤ x5 - x6 - 1) (h5 : x7 ≤ x2) (h6 : 0 ≤ x7) : 0 ≤ x7 + (600 - x4) + 8 ∧ x7 + (600 - x4) + 8 < x1 := by omega
theorem la_value_118 {x0 x1 x2 x3 x4 x5 x6 : Int} (h0 : x0 = x1 + (600 - x2) + 8) (h1 : x3 ≤ 600) (h2 : x4 - x5 ≤ x3 - x2) (h3 : 0 ≤ x4 - x5 - 1) (h4 : x6 ≤ x1) (h5 : 0 ≤ x6) : 0 ≤ x6 + (600 - x3) + 8 ∧ x6 + (600 - x3) + 8 + 1 ≤ x0 := by omega
theorem la_value_119 {x0 : Int} (h0 : 0 ≤ x0) : (-1) ≤ x0 := by omega
theorem la_value_120 {x0 : Int} (h0 : (-1) ≤ x0) (h1 : ¬ x0 = (-1)) : (-1) < x0 := by omega
theorem la_value_121 {x0 x1 x2 : Int} (h0 : x0 ≤ 12000) (h1 : x1 < x0) (h2 : 0 ≤ x2) (h3 : x2 < x1) : 0 ≤ x1 ∧ x1 < 12000 := by omega
theorem la_value_122 {x0 x1 : Int} (h0 : x0 ≤ 12000) (h1 : 0 ≤ x1) (h2 : x1 + 1 ≤ x0) : 0 ≤ x1 ∧ x1 < 12000 := by omega
theorem la_value_123 {x0 x1 : Int} (h0 : x0 ≤ 12000) (h1 : 0 ≤ x1) (h2 : x1 + 1 ≤ x0) : sv_R (x1 + 1) := by omega
theorem la_value_124 {x0 : Int} (h0 : 0 ≤ x0) : 0 ≤ x0 + 1 := by omega
theorem la_value_125 {x0 x1 : Int} (h0 : x0 ≤ x1) : x0 ≤ x1 + 1 := by omega
theorem la_value_126 {x0 x1 : Int} (h0 : 0 ≤ x0) (h1 : x0 = x1) : 0 ≤ x1 := by omega
theorem la_value_127 {x0 x1 x2 x3 : Int} (h0 : x0 < x1) (h1 : x2 < x0) (h2 : x2 = x3) : x3 < x1 := by omega
theorem la_value_128 {x0 x1 : Int} (h0 : x0 = x1) : x1 = x0 := by omega
theorem la_value_129 {x0 x1 : Int} (h0 : x0 = 1) (h1 : x1 = x0) : x1 = 1 := by omega
theorem la_value_130 {x0 x1 x2 x3 : Int} (h0 : x0 ≤ x1) (h1 : x2 ≤ x0) (h2 : x3 = x2) : x3 ≤ x1 := by omega
theorem la_value_131 {x0 x1 : Int} : 12001 * x0 + x1 ≤ 12001 * x0 + x1 := by omega
theorem la_value_132 {x0 x1 x2 x3 x4 x5 : Int} (h0 : x0 < x1) (h1 : x2 ≤ x3) (h2 : x0 = x4) (h3 : x5 = x2) : 12001 * x5 + x4 < 12001 * x3 + x1 := by omega
theorem la_value_133 {x0 x1 x2 : Int} (h0 : 0 ≤ x0) (h1 : x0 = 0) : x1 - x2 = x1 - x2 + x0 := by omega
theorem la_value_134 {x0 x1 x2 : Int} (h0 : x0 < x1) (h1 : x0 = x2) : x2 < x1 := by omega
theorem la_value_135 {x0 : Int} (h0 : ¬ ¬ x0 = 8) : ¬ x0 = 3 := by omega
theorem la_value_136 {x0 : Int} (h0 : ¬ ¬ x0 = 8) : x0 = 4 ∨ x0 = 5 ∨ x0 = 8 ∨ x0 = 9 := by omega
theorem la_value_137 {x0 : Int} (h0 : ¬ ¬ x0 = 8) : x0 = 8 := by omega
theorem la_value_138 {x0 : Int} (h0 : ¬ ¬ x0 = 8) : ¬ x0 = 7 := by omega
theorem la_value_139 {x0 : Int} (h0 : ¬ ¬ x0 = 8) : ¬ (x0 = 11 ∨ x0 = 12 ∨ x0 = 13) := by omega
theorem la_value_140 {x0 x1 x2 : Int} (h0 : x0 ≤ 12000) (h1 : x1 < x0) (h2 : 0 ≤ x2) (h3 : x2 < x1) : 0 ≤ x1 ∧ x1 < 12000 ∧ 0 ≤ x2 ∧ x2 < 12000 := by omega
theorem la_value_141 {x0 x1 x2 : Int} (h0 : x0 ≤ 600) (h1 : 0 ≤ x1) (h2 : x2 = x1 + (600 - x0) + 8) : 1 + 1 ≤ x2 := by omega
theorem la_value_142 {x0 x1 : Int} (h0 : x0 = 7) (h1 : x1 = 0) : x0 = 7 ∧ x1 = 0 := by omega
theorem la_value_143 {x0 x1 : Int} (h0 : x0 = 7) (h1 : x1 = 0) : ¬ ¬ (x0 = 7 ∧ x1 = 0) := by omega
theorem la_value_144 : (0 : Int) ≤ 0 := by omega
theorem la_value_145 : (0 : Int) ≤ 6 := by omega
theorem la_value_146 {x0 : Int} : (0 : Int) = 6 → (0 : Int) ≤ 0 ∧ 0 < x0 := by omega
theorem la_value_147 {x0 x1 x2 x3 x4 x5 x6 x7 : Int} (h0 : x0 ≤ x1) (h1 : x1 - x0 = x2 - x3) (h2 : x4 = x5) (h3 : x6 = x7) (h4 : 0 ≤ x5 → x7 ≤ x3) : 0 ≤ x4 → x6 ≤ x2 := by omega
theorem la_value_148 {x0 x1 : Int} (h0 : x0 = x1) (h1 : 0 ≤ x0) : 0 ≤ x1 := by omega
theorem la_value_149 {x0 x1 x2 x3 x4 x5 : Int} (h0 : x0 ≤ x1) (h1 : x1 - x0 = x2 - x3) (h2 : x4 = x5) (h3 : x5 ≤ x3) : x4 ≤ x2 := by omega
theorem la_value_150 {x0 : Int} (h0 : 1 ≤ x0) : 0 ≤ x0 := by omega
theorem la_value_151 : ¬ (0 : Int) = 29 := by omega
theorem la_value_152 : ¬ (0 : Int) = 17 := by omega
theorem la_value_153 {x0 x1 x2 : Int} : (0 : Int) = 17 → 0 ≤ x0 → x1 < x2 := by omega
theorem la_value_154 {x0 x1 x2 : Int} (h0 : x0 ≤ x1) (h1 : x2 = x1 + 1) : x0 ≤ x2 := by omega
theorem la_value_155 {x0 x1 x2 x3 x4 : Int} (h0 : x0 = 1) (h1 : x1 = x2 + x3) (h2 : x3 = 1) : x1 - x4 = x2 - x4 + x0 := by omega
theorem la_value_156 {x0 x1 x2 x3 x4 x5 x6 : Int} (h0 : x0 - x1 = x2 - x3) (h1 : x2 = x3 + (x0 - x1)) (h2 : x4 ≤ x0 + 1) (h3 : x4 = x0 + 1) (h4 : x5 = x2 + x6) (h5 : x6 = 1) : x4 - x1 = x5 - x3 := by omega
theorem la_value_157 {x0 x1 x2 x3 x4 x5 x6 : Int} (h0 : x0 - x1 = x2 - x3) (h1 : x2 = x3 + (x0 - x1)) (h2 : x4 ≤ x0 + 1) (h3 : x4 = x0 + 1) (h4 : x5 = x2 + x6) (h5 : x6 = 1) : x5 = x3 + (x4 - x1) := by omega
theorem la_value_158 {x0 x1 x2 x3 : Int} (h0 : x0 = x1) (h1 : x2 = x3) (h2 : x3 = x0) : x2 = x1 := by omega
theorem la_value_159 {x0 x1 x2 x3 : Int} (h0 : x0 ≤ x1) (h1 : x2 = x1 + 1) : 2 * x3 ≤ 2 * x3 + 2 * (x2 - x0) := by omega
theorem la_value_160 {x0 x1 x2 x3 : Int} (h0 : x0 = x1 + 1) : 2 * x2 + 2 * (x1 - x3) ≤ 2 * x2 + 2 * (x0 - x3) := by omega
theorem la_value_161 {x0 x1 x2 x3 x4 : Int} (h0 : x0 = x1 + (x2 - x3)) (h1 : x4 = x2 + 1) : 2 * x0 ≤ 2 * x1 + 2 * (x4 - x3) := by omega
set_option maxHeartbeats 16000000 in
theorem f_value : ∀ (d : Int) (p1 : Int) (S : sv_S), sm_ok S → sv_R p1 → (sm_WF (S 11) (S 12) (S 13) (S 1100001) (S 1100002) (S 1100005) (S 1100003) (S 1100004) (S 1024 0) (S 1007 0) (S 1009 0) (sm_fn (S 1032 0) (S 21) (S 1056 0)) ∧ (S 1009 0) = 0 ∧ 0 ≤ (S 1007 0) ∧ (S 1007 0) ≤ 90 ∧ 0 ≤ (S 1024 0) ∧ (S 1024 0) ≤ 12000 ∧ 1 ≤ (S 1032 0) ∧ (S 1032 0) ≤ 11 ∧ 0 ≤ (S 1056 0) ∧ (S 1056 0) < (S 1032 0) ∧ sm_VB (S 33) (S 21) (S 1032 0) ∧ 0 ≤ (S 1046 0) ∧ (S 1046 0) ≤ 600 ∧ 0 ≤ (S 1047 0) ∧ (S 1047 0) ≤ 1 ∧ 0 ≤ (S 1053 0) ∧ 0 ≤ (S 1066 0) ∧ 0 ≤ p1 ∧ p1 < (S 1024 0) ∧ (S 1100001 p1) = 1 ∧ sm_LF (S 39) (S 1100002) (S 1066 0) (S 1024 0) (12001 * (S 1100002 p1) + p1) ∧ ((S 1047 0) = 0 → sm_KC (S 26) (S 27) (S 28) (S 29) (S 1100007) (S 1100023) (S 1100024) (S 1100025) (S 31) (S 1100009) (S 1100027) (S 1100028) (S 1100026) (S 1100030) (S 21) (S 32) (S 33) (S 1046 0) (S 1053 0) (S 1056 0) (S 1032 0) (S 1007 0) (S 1100033 0) ∧ (S 1100033 0) = (S 1055 0) ∧ 0 ≤ (S 1055 0) ∧ (S 1055 0) ≤ (S 1046 0) ∧ (0 ≤ (S 1100023 (S 1046 0)) → (S 1100007 (S 1100023 (S 1046 0))) ≤ (S 1100007 (S 1046 0))) ∧ (0 ≤ (S 1100025 (S 1046 0)) → (S 1100007 (S 1100025 (S 1046 0))) ≤ (S 1100007 (S 1046 0))) ∧ (S 1100007 (S 1046 0)) ≤ (S 1046 0) ∧ (S 1053 0) + 3 * (600 - (S 1046 0)) + (S 1100002 p1) ≤ 8000)) → ((if (S 1047 0) = 0 then (S 1100002 p1) + (600 - (S 1046 0)) + 8 else 4)) = d → (sv_R (S 1066 0) → ((sm_WF (S 11) (S 12) (S 13) (S 1100001) (S 1100002) (S 1100005) (S 1100003) (S 1100004) (S 1024 0) (S 1007 0) (S 1009 0) (sm_fn (S 1032 0) (S 21) (S 1056 0)) → 0 ≤ p1 → p1 < (S 1024 0) → ((S 1100001 (p1)) = 1 → 0 ≤ (S 1100002 (p1)) ∧ ((S 11 (p1)) = 3 → (S 12 (5 * (p1) + 1)) < (p1)) ∧ ((S 11 (p1)) = 4 ∨ (S 11 (p1)) = 5 ∨ (S 11 (p1)) = 8 ∨ (S 11 (p1)) = 9 → 17 * (S 1100005 (p1)) + 2 ≤ (S 1100002 (p1))) ∧ 0 ≤ (S 1100005 (p1))) ∧ ((S 1100001 (p1)) = 2 → 0 ≤ (S 1100005 (p1)) ∧ (S 1100002 (p1)) ≤ 17 * (S 1100005 (p1)) + 5 ∧ ((S 11 (p1)) = 33 → 1 ≤ (S 1100005 (p1)))) ∧ ((S 1100001 (p1)) = 6 → 0 ≤ (S 1100002 (p1)) ∧ 1 ≤ (S 1100004 (p1)) ∧ ((S 12 (5 * (p1))) = - 1 → (S 1100004 (p1)) = 2)) ∧ ((S 1100001 (p1)) = 3 → 1 ≤ (S 1100002 (p1)))) → ((0 ≤ (S 1046 0) ∧ (S 1046 0) ≤ 600 ∧ 0 ≤ (S 1047 0) ∧ (S 1047 0) ≤ 1 ∧ 0 ≤ (S 1053 0) ∧ 0 ≤ (S 1066 0) ∧ (S 1046 0) ≤ (S 1046 0) ∧ ((S 1047 0) = 1 → (S 1047 0) = 1) ∧ sm_F1 (S 26) (S 26) (S 1046 0) ∧ sm_F1 (S 27) (S 27) (S 1046 0) ∧ sm_F1 (S 28) (S 28) (S 1046 0) ∧ sm_F1 (S 29) (S 29) (S 1046 0) ∧ sm_F1 (S 1100007) (S 1100007) ((S 1046 0) + 1) ∧ sm_F1 (S 1100023) (S 1100023) ((S 1046 0) + 1) ∧ sm_F1 (S 1100024) (S 1100024) ((S 1046 0) + 1) ∧ sm_F1 (S 1100025) (S 1100025) ((S 1046 0) + 1) ∧ (S 1066 0) ≤ (S 1066 0) ∧ sm_F1 (S 39) (S 39) (S 1066 0) ∧ 0 ≤ p1 ∧ p1 < (S 1024 0) ∧ (S 1100001 p1) = 1 ∧ (S 1100002 p1) ≤ (S 1100002 p1) ∧ (S 1100005 p1) ≤ (S 1100005 p1) ∧ sm_LF (S 39) (S 1100002) (S 1066 0) (S 1024 0) (12001 * (S 1100002 p1) + p1) ∧ ((S 1047 0) = 0 → (S 1047 0) = 0 ∧ sm_KC (S 26) (S 27) (S 28) (S 29) (S 1100007) (S 1100023) (S 1100024) (S 1100025) (S 31) (S 1100009) (S 1100027) (S 1100028) (S 1100026) (S 1100030) (S 21) (S 32) (S 33) (S 1046 0) (S 1053 0) (S 1056 0) (S 1032 0) (S 1007 0) (S 1100033 0) ∧ (S 1100033 0) = (S 1055 0) ∧ 0 ≤ (S 1055 0) ∧ (S 1055 0) ≤ (S 1046 0) ∧ sm_LE (S 39) (S 11) (S 12) (S 14) (S 1100001) (S 1100002) (S 1100005) (S 1066 0) (S 1066 0) (S 1100002 p1) (S 1100005 p1) ((S 1100007 (S 1046 0)) - (S 1100007 (S 1046 0))) ∧ (S 1046 0) - (S 1046 0) = (S 1100007 (S 1046 0)) - (S 1100007 (S 1046 0)) ∧ (S 1100007 (S 1046 0)) = (S 1100007 (S 1046 0)) + ((S 1046 0) - (S 1046 0)) ∧ (S 1100023 (S 1046 0)) = (S 1100023 (S 1046 0)) ∧ (S 1100024 (S 1046 0)) = (S 1100024 (S 1046 0)) ∧ (S 1100025 (S 1046 0)) = (S 1100025 (S 1046 0)) ∧ (S 1100007 (S 1100023 (S 1046 0))) = (S 1100007 (S 1100023 (S 1046 0))) ∧ (S 1100007 (S 1100025 (S 1046 0))) = (S 1100007 (S 1100025 (S 1046 0))) ∧ sm_HB (S 1100007) (S 1046 0) (S 1046 0) (2 * (S 1100007 (S 1046 0)) + 2 * ((S 1046 0) - (S 1046 0))) ∧ sm_FC (S 29) (S 1046 0) (S 1046 0) (S 1056 0))) ∧ (∀ l3_4 : Int, sv_R l3_4 → ∀ g3 : sv_S, (0 ≤ (g3 1046 0) ∧ (g3 1046 0) ≤ 600 ∧ 0 ≤ (g3 1047 0) ∧ (g3 1047 0) ≤ 1 ∧ 0 ≤ (S 1053 0) ∧ 0 ≤ (g3 1066 0) ∧ (S 1046 0) ≤ (g3 1046 0) ∧ ((S 1047 0) = 1 → (g3 1047 0) = 1) ∧ sm_F1 (S 26) (g3 26) (S 1046 0) ∧ sm_F1 (S 27) (g3 27) (S 1046 0) ∧ sm_F1 (S 28) (g3 28) (S 1046 0) ∧ sm_F1 (S 29) (g3 29) (S 1046 0) ∧ sm_F1 (S 1100007) (g3 1100007) ((S 1046 0) + 1) ∧ sm_F1 (S 1100023) (g3 1100023) ((S 1046 0) + 1) ∧ sm_F1 (S 1100024) (g3 1100024) ((S 1046 0) + 1) ∧ sm_F1 (S 1100025) (g3 1100025) ((S 1046 0) + 1) ∧ (S 1066 0) ≤ (g3 1066 0) ∧ sm_F1 (S 39) (g3 39) (S 1066 0) ∧ 0 ≤ l3_4 ∧ l3_4 < (S 1024 0) ∧ (S 1100001 l3_4) = 1 ∧ (S 1100002 l3_4) ≤ (S 1100002 p1) ∧ (S 1100005 l3_4) ≤ (S 1100005 p1) ∧ sm_LF (g3 39) (S 1100002) (g3 1066 0) (S 1024 0) (12001 * (S 1100002 l3_4) + l3_4) ∧ ((g3 1047 0) = 0 → (S 1047 0) = 0 ∧ sm_KC (g3 26) (g3 27) (g3 28) (g3 29) (g3 1100007) (g3 1100023) (g3 1100024) (g3 1100025) (S 31) (S 1100009) (S 1100027) (S 1100028) (S 1100026) (S 1100030) (S 21) (S 32) (S 33) (g3 1046 0) (S 1053 0) (S 1056 0) (S 1032 0) (S 1007 0) (S 1100033 0) ∧ (S 1100033 0) = (S 1055 0) ∧ 0 ≤ (S 1055 0) ∧ (S 1055 0) ≤ (g3 1046 0) ∧ sm_LE (g3 39) (S 11) (S 12) (S 14) (S 1100001) (S 1100002) (S 1100005) (S 1066 0) (g3 1066 0) (S 1100002 p1) (S 1100005 p1) ((g3 1100007 (g3 1046 0)) - (S 1100007 (S 1046 0))) ∧ (g3 1046 0) - (S 1046 0) = (g3 1100007 (g3 1046 0)) - (S 1100007 (S 1046 0)) ∧ (g3 1100007 (g3 1046 0)) = (S 1100007 (S 1046 0)) + ((g3 1046 0) - (S 1046 0)) ∧ (g3 1100023 (g3 1046 0)) = (S 1100023 (S 1046 0)) ∧ (g3 1100024 (g3 1046 0)) = (S 1100024 (S 1046 0)) ∧ (g3 1100025 (g3 1046 0)) = (S 1100025 (S 1046 0)) ∧ (g3 1100007 (g3 1100023 (g3 1046 0))) = (S 1100007 (S 1100023 (S 1046 0))) ∧ (g3 1100007 (g3 1100025 (g3 1046 0))) = (S 1100007 (S 1100025 (S 1046 0))) ∧ sm_HB (g3 1100007) (S 1046 0) (g3 1046 0) (2 * (S 1100007 (S 1046 0)) + 2 * ((g3 1046 0) - (S 1046 0))) ∧ sm_FC (g3 29) (S 1046 0) (g3 1046 0) (S 1056 0))) → (0 ≤ l3_4) ∧ ((0 ≤ (g3 1047 0) ∧ (g3 1047 0) ≤ 1) → (((¬ (g3 1047 0) = (0 : Int)) → ((sm_WF (S 11) (S 12) (S 13) (S 1100001) (S 1100002) (S 1100005) (S 1100003) (S 1100004) (S 1024 0) (S 1007 0) (S 1009 0) (sm_fn (S 1032 0) (S 21) (S 1056 0)) → 0 ≤ l3_4 → l3_4 < (S 1024 0) → (S 1100001 l3_4) = 1 → sm_lfp (S 11) (S 12) (S 14) (l3_4) = -1 → ¬ ((S 11 l3_4) = 3 ∨ (S 11 l3_4) = 7 ∨ (S 11 l3_4) = 8 ∨ (S 11 l3_4) = 11 ∨ (S 11 l3_4) = 12 ∨ (S 11 l3_4) = 13)) → ((sm_WF (S 11) (S 12) (S 13) (S 1100001) (S 1100002) (S 1100005) (S 1100003) (S 1100004) (S 1024 0) (S 1007 0) (S 1009 0) (sm_fn (S 1032 0) (S 21) (S 1056 0)) → 0 ≤ l3_4 → l3_4 < (S 1024 0) → ((S 1100001 (l3_4)) = 1 → 0 ≤ (S 1100002 (l3_4)) ∧ ((S 11 (l3_4)) = 3 → (S 12 (5 * (l3_4) + 1)) < (l3_4)) ∧ ((S 11 (l3_4)) = 4 ∨ (S 11 (l3_4)) = 5 ∨ (S 11 (l3_4)) = 8 ∨ (S 11 (l3_4)) = 9 → 17 * (S 1100005 (l3_4)) + 2 ≤ (S 1100002 (l3_4))) ∧ 0 ≤ (S 1100005 (l3_4))) ∧ ((S 1100001 (l3_4)) = 2 → 0 ≤ (S 1100005 (l3_4)) ∧ (S 1100002 (l3_4)) ≤ 17 * (S 1100005 (l3_4)) + 5 ∧ ((S 11 (l3_4)) = 33 → 1 ≤ (S 1100005 (l3_4)))) ∧ ((S 1100001 (l3_4)) = 6 → 0 ≤ (S 1100002 (l3_4)) ∧ 1 ≤ (S 1100004 (l3_4)) ∧ ((S 12 (5 * (l3_4))) = - 1 → (S 1100004 (l3_4)) = 2)) ∧ ((S 1100001 (l3_4)) = 3 → 1 ≤ (S 1100002 (l3_4)))) → ((sm_LE (g3 39) (S 11) (S 12) (S 14) (S 1100001) (S 1100002) (S 1100005) (S 1066 0) (g3 1066 0) (S 1100002 p1) (S 1100005 p1) ((g3 1100007 (g3 1046 0)) - (S 1100007 (S 1046 0))) → (S 1066 0) ≤ (g3 1066 0) ∧ 0 ≤ (g3 1100007 (g3 1046 0)) - (S 1100007 (S 1046 0)) ∧ ((g3 1066 0) = (S 1066 0) → (g3 1100007 (g3 1046 0)) - (S 1100007 (S 1046 0)) = 0)) → (sm_WF (S 11) (S 12) (S 13) (S 1100001) (S 1100002) (S 1100005) (S 1100003) (S 1100004) (S 1024 0) (S 1007 0) (S 1009 0) (sm_fn (S 1032 0) (S 21) (S 1056 0)) ∧ (S 1009 0) = 0 ∧ 0 ≤ (S 1007 0) ∧ (S 1007 0) ≤ 90 ∧ 0 ≤ (S 1024 0) ∧ (S 1024 0) ≤ 12000 ∧ 1 ≤ (S 1032 0) ∧ (S 1032 0) ≤ 11 ∧ 0 ≤ (S 1056 0) ∧ (S 1056 0) < (S 1032 0) ∧ sm_VB (S 33) (S 21) (S 1032 0) ∧ 0 ≤ (g3 1046 0) ∧ (g3 1046 0) ≤ 600 ∧ 0 ≤ (g3 1047 0) ∧ (g3 1047 0) ≤ 1 ∧ 0 ≤ (S 1053 0) ∧ 0 ≤ (g3 1066 0) ∧ 0 ≤ l3_4 ∧ l3_4 < (S 1024 0) ∧ (S 1100001 l3_4) = 1 ∧ sm_LF (g3 39) (S 1100002) (g3 1066 0) (S 1024 0) (12001 * (S 1100002 l3_4) + l3_4) ∧ ((g3 1047 0) = 0 → ¬ ((S 11 l3_4) = 3 ∨ (S 11 l3_4) = 7 ∨ (S 11 l3_4) = 8 ∨ (S 11 l3_4) = 11 ∨ (S 11 l3_4) = 12 ∨ (S 11 l3_4) = 13) ∧ sm_KC (g3 26) (g3 27) (g3 28) (g3 29) (g3 1100007) (g3 1100023) (g3 1100024) (g3 1100025) (S 31) (S 1100009) (S 1100027) (S 1100028) (S 1100026) (S 1100030) (S 21) (S 32) (S 33) (g3 1046 0) (S 1053 0) (S 1056 0) (S 1032 0) (S 1007 0) (S 1100033 0) ∧ (S 1100033 0) = (S 1055 0) ∧ 0 ≤ (S 1055 0) ∧ (S 1055 0) ≤ (g3 1046 0) ∧ (0 ≤ (g3 1100023 (g3 1046 0)) → (g3 1100007 (g3 1100023 (g3 1046 0))) ≤ (g3 1100007 (g3 1046 0))) ∧ (0 ≤ (g3 1100025 (g3 1046 0)) → (g3 1100007 (g3 1100025 (g3 1046 0))) ≤ (g3 1100007 (g3 1046 0))) ∧ (g3 1100007 (g3 1046 0)) ≤ (g3 1046 0) ∧ (S 1053 0) + 3 * (600 - (g3 1046 0)) + (S 1100002 l3_4) ≤ 8000)) ∧ (0 ≤ ((if (g3 1047 0) = 0 then (S 1100002 l3_4) + (600 - (g3 1046 0)) + 7 else 3)) ∧ ((if (g3 1047 0) = 0 then (S 1100002 l3_4) + (600 - (g3 1046 0)) + 7 else 3)) < d) ∧ (0 ≤ ((if (g3 1047 0) = 0 then (S 1100002 l3_4) + (600 - (g3 1046 0)) + 7 else 3)) ∧ ((if (g3 1047 0) = 0 then (S 1100002 l3_4) + (600 - (g3 1046 0)) + 7 else 3)) + 1 ≤ ((if (S 1047 0) = 0 then (S 1100002 p1) + (600 - (S 1046 0)) + 8 else 4))) ∧ (∀ g17 : sv_S, (0 ≤ (g17 1046 0) ∧ (g17 1046 0) ≤ 600 ∧ 0 ≤ (g17 1047 0) ∧ (g17 1047 0) ≤ 1 ∧ 0 ≤ (g17 1053 0) ∧ 0 ≤ (g17 1066 0) ∧ (g3 1046 0) ≤ (g17 1046 0) ∧ ((g3 1047 0) = 1 → (g17 1047 0) = 1) ∧ sm_F1 (g3 26) (g17 26) (g3 1046 0) ∧ sm_F1 (g3 27) (g17 27) (g3 1046 0) ∧ sm_F1 (g3 28) (g17 28) (g3 1046 0) ∧ sm_F1 (g3 29) (g17 29) (g3 1046 0) ∧ sm_F1 (g3 1100007) (g17 1100007) ((g3 1046 0) + 1) ∧ sm_F1 (g3 1100023) (g17 1100023) ((g3 1046 0) + 1) ∧ sm_F1 (g3 1100024) (g17 1100024) ((g3 1046 0) + 1) ∧ sm_F1 (g3 1100025) (g17 1100025) ((g3 1046 0) + 1) ∧ sm_F1 (S 1100009) (g17 1100009) (S 1053 0) ∧ sm_F1 (S 1100027) (g17 1100027) (S 1053 0) ∧ sm_F1 (S 1100028) (g17 1100028) (S 1053 0) ∧ sm_F1 (S 1100026) (g17 1100026) (S 1053 0) ∧ sm_F1 (S 1100030) (g17 1100030) (S 1053 0) ∧ sm_F1 (S 31) (g17 31) (S 1053 0) ∧ (S 1053 0) ≤ (g17 1053 0) ∧ (g17 1066 0) = (g3 1066 0) ∧ sm_F1 (g3 39) (g17 39) (g3 1066 0) ∧ ((g3 1047 0) = 1 → (g17 1053 0) = (S 1053 0)) ∧ ((g3 1047 0) = 0 → (g17 1053 0) ≤ (S 1053 0) + 3 * (600 - (g3 1046 0)) + (S 1100002 l3_4)) ∧ ((g17 1047 0) = 0 → (g3 1047 0) = 0 ∧ sm_KC (g17 26) (g17 27) (g17 28) (g17 29) (g17 1100007) (g17 1100023) (g17 1100024) (g17 1100025) (g17 31) (g17 1100009) (g17 1100027) (g17 1100028) (g17 1100026) (g17 1100030) (S 21) (S 32) (S 33) (g17 1046 0) (g17 1053 0) (S 1056 0) (S 1032 0) (S 1007 0) (g17 1100033 0) ∧ (g17 1100033 0) = (g17 1055 0) ∧ 0 ≤ (g17 1055 0) ∧ (g17 1055 0) ≤ (g17 1046 0) ∧ (g3 1046 0) + 1 ≤ (g17 1046 0) ∧ sm_FC (g17 29) (g3 1046 0) (g17 1046 0) (S 1056 0) ∧ (g17 1100007 (g17 1046 0)) = (g3 1100007 (g3 1046 0)) + 1 ∧ (g17 1100023 (g17 1046 0)) = (g3 1100023 (g3 1046 0)) ∧ (g17 1100024 (g17 1046 0)) = (g3 1100024 (g3 1046 0)) ∧ (g17 1100025 (g17 1046 0)) = (g3 1100025 (g3 1046 0)) ∧ (g17 1100007 (g17 1100023 (g17 1046 0))) = (g3 1100007 (g3 1100023 (g3 1046 0))) ∧ (g17 1100007 (g17 1100025 (g17 1046 0))) = (g3 1100007 (g3 1100025 (g3 1046 0))) ∧ sm_AP (g17 1100030) (S 1053 0) (g17 1053 0) ∧ sm_HB (g17 1100007) (g3 1046 0) (g17 1046 0) (2 * (g3 1100007 (g3 1046 0)) + ((g17 1046 0) - (g3 1046 0)) + 8 * (S 1100005 l3_4) + 10) ∧ (g17 1053 0) ≤ (S 1053 0) + 3 * ((g17 1046 0) - (g3 1046 0)) ∧ True)) → ((0 ≤ (g17 1046 0) ∧ (g17 1046 0) ≤ 600 ∧ 0 ≤ (g17 1047 0) ∧ (g17 1047 0) ≤ 1 ∧ 0 ≤ (g17 1053 0) ∧ 0 ≤ (g17 1066 0) ∧ (S 1046 0) ≤ (g17 1046 0) ∧ ((S 1047 0) = 1 → (g17 1047 0) = 1) ∧ sm_F1 (S 26) (g17 26) (S 1046 0) ∧ sm_F1 (S 27) (g17 27) (S 1046 0) ∧ sm_F1 (S 28) (g17 28) (S 1046 0) ∧ sm_F1 (S 29) (g17 29) (S 1046 0) ∧ sm_F1 (S 1100007) (g17 1100007) ((S 1046 0) + 1) ∧ sm_F1 (S 1100023) (g17 1100023) ((S 1046 0) + 1) ∧ sm_F1 (S 1100024) (g17 1100024) ((S 1046 0) + 1) ∧ sm_F1 (S 1100025) (g17 1100025) ((S 1046 0) + 1) ∧ (S 1066 0) ≤ (g17 1066 0) ∧ sm_F1 (S 39) (g17 39) (S 1066 0) ∧ sm_F1 (S 1100009) (g17 1100009) (S 1053 0) ∧ sm_F1 (S 1100027) (g17 1100027) (S 1053 0) ∧ sm_F1 (S 1100028) (g17 1100028) (S 1053 0) ∧ sm_F1 (S 1100026) (g17 1100026) (S 1053 0) ∧ sm_F1 (S 1100030) (g17 1100030) (S 1053 0) ∧ sm_F1 (S 31) (g17 31) (S 1053 0) ∧ (S 1053 0) ≤ (g17 1053 0) ∧ ((S 1047 0) = 1 → (g17 1053 0) = (S 1053 0)) ∧ ((S 1047 0) = 0 → (g17 1053 0) ≤ (S 1053 0) + 3 * (600 - (S 1046 0)) + (S 1100002 p1)) ∧ (¬ (g17 1066 0) = (S 1066 0) → sm_LF (g17 39) (S 1100002) (g17 1066 0) (S 1024 0) (-1)) ∧ ((g17 1047 0) = 0 → (S 1047 0) = 0 ∧ sm_KC (g17 26) (g17 27) (g17 28) (g17 29) (g17 1100007) (g17 1100023) (g17 1100024) (g17 1100025) (g17 31) (g17 1100009) (g17 1100027) (g17 1100028) (g17 1100026) (g17 1100030) (S 21) (S 32) (S 33) (g17 1046 0) (g17 1053 0) (S 1056 0) (S 1032 0) (S 1007 0) (g17 1100033 0) ∧ (g17 1100033 0) = (g17 1055 0) ∧ 0 ≤ (g17 1055 0) ∧ (g17 1055 0) ≤ (g17 1046 0) ∧ sm_LE (g17 39) (S 11) (S 12) (S 14) (S 1100001) (S 1100002) (S 1100005) (S 1066 0) (g17 1066 0) (S 1100002 p1) (S 1100005 p1) ((g17 1100007 (g17 1046 0)) - (S 1100007 (S 1046 0)) - 1) ∧ (g17 1100007 (g17 1046 0)) - (S 1100007 (S 1046 0)) ≤ (g17 1046 0) - (S 1046 0) ∧ (g17 1100007 (g17 1046 0)) = (S 1100007 (S 1046 0)) + ((g17 1100007 (g17 1046 0)) - (S 1100007 (S 1046 0))) ∧ (g17 1100023 (g17 1046 0)) = (S 1100023 (S 1046 0)) ∧ (g17 1100024 (g17 1046 0)) = (S 1100024 (S 1046 0)) ∧ (g17 1100025 (g17 1046 0)) = (S 1100025 (S 1046 0)) ∧ (g17 1100007 (g17 1100023 (g17 1046 0))) = (S 1100007 (S 1100023 (S 1046 0))) ∧ (g17 1100007 (g17 1100025 (g17 1046 0))) = (S 1100007 (S 1100025 (S 1046 0))) ∧ sm_FC (g17 29) (S 1046 0) (g17 1046 0) (S 1056 0) ∧ sm_AP (g17 1100030) (S 1053 0) (g17 1053 0) ∧ (g17 1053 0) ≤ (S 1053 0) + 3 * ((g17 1046 0) - (S 1046 0)) ∧ sm_HB (g17 1100007) (S 1046 0) (g17 1046 0) (2 * (S 1100007 (S 1046 0)) + ((g17 1046 0) - (S 1046 0)) + ((g17 1100007 (g17 1046 0)) - (S 1100007 (S 1046 0)) - 1) + 8 * (S 1100005 p1) + 10))) ∧ (∀ g22 : sv_S, (0 ≤ (g22 1046 0) ∧ (g22 1046 0) ≤ 600 ∧ 0 ≤ (g22 1047 0) ∧ (g22 1047 0) ≤ 1 ∧ 0 ≤ (g22 1053 0) ∧ 0 ≤ (g22 1066 0) ∧ (S 1046 0) ≤ (g22 1046 0) ∧ ((S 1047 0) = 1 → (g22 1047 0) = 1) ∧ sm_F1 (S 26) (g22 26) (S 1046 0) ∧ sm_F1 (S 27) (g22 27) (S 1046 0) ∧ sm_F1 (S 28) (g22 28) (S 1046 0) ∧ sm_F1 (S 29) (g22 29) (S 1046 0) ∧ sm_F1 (S 1100007) (g22 1100007) ((S 1046 0) + 1) ∧ sm_F1 (S 1100023) (g22 1100023) ((S 1046 0) + 1) ∧ sm_F1 (S 1100024) (g22 1100024) ((S 1046 0) + 1) ∧ sm_F1 (S 1100025) (g22 1100025) ((S 1046 0) + 1) ∧ (S 1066 0) ≤ (g22 1066 0) ∧ sm_F1 (S 39) (g22 39) (S 1066 0) ∧ sm_F1 (S 1100009) (g22 1100009) (S 1053 0) ∧ sm_F1 (S 1100027) (g22 1100027) (S 1053 0) ∧ sm_F1 (S 1100028) (g22 1100028) (S 1053 0) ∧ sm_F1 (S 1100026) (g22 1100026) (S 1053 0) ∧ sm_F1 (S 1100030) (g22 1100030) (S 1053 0) ∧ sm_F1 (S 31) (g22 31) (S 1053 0) ∧ (S 1053 0) ≤ (g22 1053 0) ∧ ((S 1047 0) = 1 → (g22 1053 0) = (S 1053 0)) ∧ ((S 1047 0) = 0 → (g22 1053 0) ≤ (S 1053 0) + 3 * (600 - (S 1046 0)) + (S 1100002 p1)) ∧ (¬ (g22 1066 0) = (S 1066 0) → sm_LF (g22 39) (S 1100002) (g22 1066 0) (S 1024 0) (-1)) ∧ ((g22 1047 0) = 0 → (S 1047 0) = 0 ∧ sm_KC (g22 26) (g22 27) (g22 28) (g22 29) (g22 1100007) (g22 1100023) (g22 1100024) (g22 1100025) (g22 31) (g22 1100009) (g22 1100027) (g22 1100028) (g22 1100026) (g22 1100030) (S 21) (S 32) (S 33) (g22 1046 0) (g22 1053 0) (S 1056 0) (S 1032 0) (S 1007 0) (g22 1100033 0) ∧ (g22 1100033 0) = (g22 1055 0) ∧ 0 ≤ (g22 1055 0) ∧ (g22 1055 0) ≤ (g22 1046 0) ∧ sm_LE (g22 39) (S 11) (S 12) (S 14) (S 1100001) (S 1100002) (S 1100005) (S 1066 0) (g22 1066 0) (S 1100002 p1) (S 1100005 p1) ((g22 1100007 (g22 1046 0)) - (S 1100007 (S 1046 0)) - 1) ∧ (g22 1100007 (g22 1046 0)) - (S 1100007 (S 1046 0)) ≤ (g22 1046 0) - (S 1046 0) ∧ (g22 1100007 (g22 1046 0)) = (S 1100007 (S 1046 0)) + ((g22 1100007 (g22 1046 0)) - (S 1100007 (S 1046 0))) ∧ (g22 1100023 (g22 1046 0)) = (S 1100023 (S 1046 0)) ∧ (g22 1100024 (g22 1046 0)) = (S 1100024 (S 1046 0)) ∧ (g22 1100025 (g22 1046 0)) = (S 1100025 (S 1046 0)) ∧ (g22 1100007 (g22 1100023 (g22 1046 0))) = (S 1100007 (S 1100023 (S 1046 0))) ∧ (g22 1100007 (g22 1100025 (g22 1046 0))) = (S 1100007 (S 1100025 (S 1046 0))) ∧ sm_FC (g22 29) (S 1046 0) (g22 1046 0) (S 1056 0) ∧ sm_AP (g22 1100030) (S 1053 0) (g22 1053 0) ∧ (g22 1053 0) ≤ (S 1053 0) + 3 * ((g22 1046 0) - (S 1046 0)) ∧ sm_HB (g22 1100007) (S 1046 0) (g22 1046 0) (2 * (S 1100007 (S 1046 0)) + ((g22 1046 0) - (S 1046 0)) + ((g22 1100007 (g22 1046 0)) - (S 1100007 (S 1046 0)) - 1) + 8 * (S 1100005 p1) + 10))) → (0 ≤ (g22 1066 0)) ∧ ((sm_LE (g22 39) (S 11) (S 12) (S 14) (S 1100001) (S 1100002) (S 1100005) (S 1066 0) (g22 1066 0) (S 1100002 p1) (S 1100005 p1) ((g22 1100007 (g22 1046 0)) - (S 1100007 (S 1046 0)) - 1) → (S 1066 0) ≤ (g22 1066 0) ∧ 0 ≤ (g22 1100007 (g22 1046 0)) - (S 1100007 (S 1046 0)) - 1 ∧ ((g22 1066 0) = (S 1066 0) → (g22 1100007 (g22 1046 0)) - (S 1100007 (S 1046 0)) - 1 = 0)) → ((sm_LF (g22 39) (S 1100002) (g22 1066 0) (S 1024 0) (-1) → 0 ≤ (S 1024 0) → (g22 1066 0) ≤ (S 1024 0)) → (sv_R (g22 1066 0) → ((((g22 1066 0) ≤ (S 1066 0)) → (0 ≤ (g22 1046 0) ∧ (g22 1046 0) ≤ 600 ∧ 0 ≤ (g22 1047 0) ∧ (g22 1047 0) ≤ 1 ∧ 0 ≤ (g22 1053 0) ∧ 0 ≤ (g22 1066 0) ∧ (S 1046 0) ≤ (g22 1046 0) ∧ ((S 1047 0) = 1 → (g22 1047 0) = 1) ∧ sm_F1 (S 26) (g22 26) (S 1046 0) ∧ sm_F1 (S 27) (g22 27) (S 1046 0) ∧ sm_F1 (S 28) (g22 28) (S 1046 0) ∧ sm_F1 (S 29) (g22 29) (S 1046 0) ∧ sm_F1 (S 1100007) (g22 1100007) ((S 1046 0) + 1) ∧ sm_F1 (S 1100023) (g22 1100023) ((S 1046 0) + 1) ∧ sm_F1 (S 1100024) (g22 1100024) ((S 1046 0) + 1) ∧ sm_F1 (S 1100025) (g22 1100025) ((S 1046 0) + 1) ∧ sm_F1 (S 1100009) (g22 1100009) (S 1053 0) ∧ sm_F1 (S 1100027) (g22 1100027) (S 1053 0) ∧ sm_F1 (S 1100028) (g22 1100028) (S 1053 0) ∧ sm_F1 (S 1100026) (g22 1100026) (S 1053 0) ∧ sm_F1 (S 1100030) (g22 1100030) (S 1053 0) ∧ sm_F1 (S 31) (g22 31) (S 1053 0) ∧ (S 1053 0) ≤ (g22 1053 0) ∧ (g22 1066 0) = (S 1066 0) ∧ sm_F1 (S 39) (g22 39) (S 1066 0) ∧ ((S 1047 0) = 1 → (g22 1053 0) = (S 1053 0)) ∧ ((S 1047 0) = 0 → (g22 1053 0) ≤ (S 1053 0) + 3 * (600 - (S 1046 0)) + (S 1100002 p1)) ∧ ((g22 1047 0) = 0 → (S 1047 0) = 0 ∧ sm_KC (g22 26) (g22 27) (g22 28) (g22 29) (g22 1100007) (g22 1100023) (g22 1100024) (g22 1100025) (g22 31) (g22 1100009) (g22 1100027) (g22 1100028) (g22 1100026) (g22 1100030) (S 21) (S 32) (S 33) (g22 1046 0) (g22 1053 0) (S 1056 0) (S 1032 0) (S 1007 0) (g22 1100033 0) ∧ (g22 1100033 0) = (g22 1055 0) ∧ 0 ≤ (g22 1055 0) ∧ (g22 1055 0) ≤ (g22 1046 0) ∧ (S 1046 0) + 1 ≤ (g22 1046 0) ∧ sm_FC (g22 29) (S 1046 0) (g22 1046 0) (S 1056 0) ∧ (g22 1100007 (g22 1046 0)) = (S 1100007 (S 1046 0)) + 1 ∧ (g22 1100023 (g22 1046 0)) = (S 1100023 (S 1046 0)) ∧ (g22 1100024 (g22 1046 0)) = (S 1100024 (S 1046 0)) ∧ (g22 1100025 (g22 1046 0)) = (S 1100025 (S 1046 0)) ∧ (g22 1100007 (g22 1100023 (g22 1046 0))) = (S 1100007 (S 1100023 (S 1046 0))) ∧ (g22 1100007 (g22 1100025 (g22 1046 0))) = (S 1100007 (S 1100025 (S 1046 0))) ∧ sm_AP (g22 1100030) (S 1053 0) (g22 1053 0) ∧ sm_HB (g22 1100007) (S 1046 0) (g22 1046 0) (2 * (S 1100007 (S 1046 0)) + ((g22 1046 0) - (S 1046 0)) + 8 * (S 1100005 p1) + 10) ∧ (g22 1053 0) ≤ (S 1053 0) + 3 * ((g22 1046 0) - (S 1046 0)) ∧ True))) ∧ ((¬ ((g22 1066 0) ≤ (S 1066 0))) → (sv_R ((g22 1066 0) - (1 : Int))) ∧ ((0 ≤ (g22 1047 0) ∧ (g22 1047 0) ≤ 1) → (((¬ (g22 1047 0) = (0 : Int)) → ((0 ≤ (g22 1046 0) ∧ (g22 1046 0) ≤ 600 ∧ 0 ≤ (g22 1047 0) ∧ (g22 1047 0) ≤ 1 ∧ 0 ≤ (g22 1053 0) ∧ 0 ≤ ((g22 1066 0) - (1 : Int)) ∧ (S 1046 0) ≤ (g22 1046 0) ∧ ((S 1047 0) = 1 → (g22 1047 0) = 1) ∧ sm_F1 (S 26) (g22 26) (S 1046 0) ∧ sm_F1 (S 27) (g22 27) (S 1046 0) ∧ sm_F1 (S 28) (g22 28) (S 1046 0) ∧ sm_F1 (S 29) (g22 29) (S 1046 0) ∧ sm_F1 (S 1100007) (g22 1100007) ((S 1046 0) + 1) ∧ sm_F1 (S 1100023) (g22 1100023) ((S 1046 0) + 1) ∧ sm_F1 (S 1100024) (g22 1100024) ((S 1046 0) + 1) ∧ sm_F1 (S 1100025) (g22 1100025) ((S 1046 0) + 1) ∧ (S 1066 0) ≤ ((g22 1066 0) - (1 : Int)) ∧ sm_F1 (S 39) (g22 39) (S 1066 0) ∧ sm_F1 (S 1100009) (g22 1100009) (S 1053 0) ∧ sm_F1 (S 1100027) (g22 1100027) (S 1053 0) ∧ sm_F1 (S 1100028) (g22 1100028) (S 1053 0) ∧ sm_F1 (S 1100026) (g22 1100026) (S 1053 0) ∧ sm_F1 (S 1100030) (g22 1100030) (S 1053 0) ∧ sm_F1 (S 31) (g22 31) (S 1053 0) ∧ (S 1053 0) ≤ (g22 1053 0) ∧ ((S 1047 0) = 1 → (g22 1053 0) = (S 1053 0)) ∧ ((S 1047 0) = 0 → (g22 1053 0) ≤ (S 1053 0) + 3 * (600 - (S 1046 0)) + (S 1100002 p1)) ∧ (¬ ((g22 1066 0) - (1 : Int)) = (S 1066 0) → sm_LF (g22 39) (S 1100002) ((g22 1066 0) - (1 : Int)) (S 1024 0) (-1)) ∧ ((g22 1047 0) = 0 → (S 1047 0) = 0 ∧ sm_KC (g22 26) (g22 27) (g22 28) (g22 29) (g22 1100007) (g22 1100023) (g22 1100024) (g22 1100025) (g22 31) (g22 1100009) (g22 1100027) (g22 1100028) (g22 1100026) (g22 1100030) (S 21) (S 32) (S 33) (g22 1046 0) (g22 1053 0) (S 1056 0) (S 1032 0) (S 1007 0) (g22 1100033 0) ∧ (g22 1100033 0) = (g22 1055 0) ∧ 0 ≤ (g22 1055 0) ∧ (g22 1055 0) ≤ (g22 1046 0) ∧ sm_LE (g22 39) (S 11) (S 12) (S 14) (S 1100001) (S 1100002) (S 1100005) (S 1066 0) ((g22 1066 0) - (1 : Int)) (S 1100002 p1) (S 1100005 p1) ((g22 1100007 (g22 1046 0)) - (S 1100007 (S 1046 0)) - 1) ∧ (g22 1100007 (g22 1046 0)) - (S 1100007 (S 1046 0)) ≤ (g22 1046 0) - (S 1046 0) ∧ (g22 1100007 (g22 1046 0)) = (S 1100007 (S 1046 0)) + ((g22 1100007 (g22 1046 0)) - (S 1100007 (S 1046 0))) ∧ (g22 1100023 (g22 1046 0)) = (S 1100023 (S 1046 0)) ∧ (g22 1100024 (g22 1046 0)) = (S 1100024 (S 1046 0)) ∧ (g22 1100025 (g22 1046 0)) = (S 1100025 (S 1046 0)) ∧ (g22 1100007 (g22 1100023 (g22 1046 0))) = (S 1100007 (S 1100023 (S 1046 0))) ∧ (g22 1100007 (g22 1100025 (g22 1046 0))) = (S 1100007 (S 1100025 (S 1046 0))) ∧ sm_FC (g22 29) (S 1046 0) (g22 1046 0) (S 1056 0) ∧ sm_AP (g22 1100030) (S 1053 0) (g22 1053 0) ∧ (g22 1053 0) ≤ (S 1053 0) + 3 * ((g22 1046 0) - (S 1046 0)) ∧ sm_HB (g22 1100007) (S 1046 0) (g22 1046 0) (2 * (S 1100007 (S 1046 0)) + ((g22 1046 0) - (S 1046 0)) + ((g22 1100007 (g22 1046 0)) - (S 1100007 (S 1046 0)) - 1) + 8 * (S 1100005 p1) + 10))) ∧ (((g22 1066 0) - (1 : Int))) < ((g22 1066 0)))) ∧ ((¬ (¬ (g22 1047 0) = (0 : Int))) → ((sm_LE (g22 39) (S 11) (S 12) (S 14) (S 1100001) (S 1100002) (S 1100005) (S 1066 0) (((g22 1066 0) - (1 : Int)) + 1) (S 1100002 p1) (S 1100005 p1) ((g22 1100007 (g22 1046 0)) - (S 1100007 (S 1046 0)) - 1) → (S 1066 0) ≤ ((g22 1066 0) - (1 : Int)) → ((S 1100001 (g22 39 ((g22 1066 0) - (1 : Int)))) = 1 ∧ ((S 11 (g22 39 ((g22 1066 0) - (1 : Int)))) = 3 ∨ (S 11 (g22 39 ((g22 1066 0) - (1 : Int)))) = 7 ∨ (S 11 (g22 39 ((g22 1066 0) - (1 : Int)))) = 8 ∨ (S 11 (g22 39 ((g22 1066 0) - (1 : Int)))) = 11 ∨ (S 11 (g22 39 ((g22 1066 0) - (1 : Int)))) = 12 ∨ (S 11 (g22 39 ((g22 1066 0) - (1 : Int)))) = 13) ∧ (S 1100002 (g22 39 ((g22 1066 0) - (1 : Int)))) ≤ (S 1100002 p1) ∧ (S 1100005 (g22 39 ((g22 1066 0) - (1 : Int)))) ≤ (S 1100005 p1)) ∧ sm_LE (g22 39) (S 11) (S 12) (S 14) (S 1100001) (S 1100002) (S 1100005) (S 1066 0) ((g22 1066 0) - (1 : Int)) (S 1100002 p1) (S 1100005 p1) ((g22 1100007 (g22 1046 0)) - (S 1100007 (S 1046 0)) - 1 - sm_cd (S 11) (S 12) (S 14) ((g22 39 ((g22 1066 0) - (1 : Int)))))) → ((sm_LF (g22 39) (S 1100002) (((g22 1066 0) - (1 : Int)) + 1) (S 1024 0) (-1) → 0 ≤ ((g22 1066 0) - (1 : Int)) → sm_LF (g22 39) (S 1100002) ((g22 1066 0) - (1 : Int)) (S 1024 0) (12001 * (S 1100002 (g22 39 ((g22 1066 0) - (1 : Int)))) + (g22 39 ((g22 1066 0) - (1 : Int)))) ∧ 0 ≤ (g22 39 ((g22 1066 0) - (1 : Int))) ∧ (g22 39 ((g22 1066 0) - (1 : Int))) < (S 1024 0) ∧ -1 < 12001 * (S 1100002 (g22 39 ((g22 1066 0) - (1 : Int)))) + (g22 39 ((g22 1066 0) - (1 : Int)))) → ((sm_WF (S 11) (S 12) (S 13) (S 1100001) (S 1100002) (S 1100005) (S 1100003) (S 1100004) (S 1024 0) (S 1007 0) (S 1009 0) (sm_fn (S 1032 0) (S 21) (S 1056 0)) → 0 ≤ (g22 39 ((g22 1066 0) - (1 : Int))) → (g22 39 ((g22 1066 0) - (1 : Int))) < (S 1024 0) → ((S 1100001 ((g22 39 ((g22 1066 0) - (1 : Int))))) = 1 → 0 ≤ (S 1100002 ((g22 39 ((g22 1066 0) - (1 : Int))))) ∧ ((S 11 ((g22 39 ((g22 1066 0) - (1 : Int))))) = 3 → (S 12 (5 * ((g22 39 ((g22 1066 0) - (1 : Int)))) + 1)) < ((g22 39 ((g22 1066 0) - (1 : Int))))) ∧ ((S 11 ((g22 39 ((g22 1066 0) - (1 : Int))))) = 4 ∨ (S 11 ((g22 39 ((g22 1066 0) - (1 : Int))))) = 5 ∨ (S 11 ((g22 39 ((g22 1066 0) - (1 : Int))))) = 8 ∨ (S 11 ((g22 39 ((g22 1066 0) - (1 : Int))))) = 9 → 17 * (S 1100005 ((g22 39 ((g22 1066 0) - (1 : Int))))) + 2 ≤ (S 1100002 ((g22 39 ((g22 1066 0) - (1 : Int)))))) ∧ 0 ≤ (S 1100005 ((g22 39 ((g22 1066 0) - (1 : Int)))))) ∧ ((S 1100001 ((g22 39 ((g22 1066 0) - (1 : Int))))) = 2 → 0 ≤ (S 1100005 ((g22 39 ((g22 1066 0) - (1 : Int))))) ∧ (S 1100002 ((g22 39 ((g22 1066 0) - (1 : Int))))) ≤ 17 * (S 1100005 ((g22 39 ((g22 1066 0) - (1 : Int))))) + 5 ∧ ((S 11 ((g22 39 ((g22 1066 0) - (1 : Int))))) = 33 → 1 ≤ (S 1100005 ((g22 39 ((g22 1066 0) - (1 : Int))))))) ∧ ((S 1100001 ((g22 39 ((g22 1066 0) - (1 : Int))))) = 6 → 0 ≤ (S 1100002 ((g22 39 ((g22 1066 0) - (1 : Int))))) ∧ 1 ≤ (S 1100004 ((g22 39 ((g22 1066 0) - (1 : Int))))) ∧ ((S 12 (5 * ((g22 39 ((g22 1066 0) - (1 : Int)))))) = - 1 → (S 1100004 ((g22 39 ((g22 1066 0) - (1 : Int))))) = 2)) ∧ ((S 1100001 ((g22 39 ((g22 1066 0) - (1 : Int))))) = 3 → 1 ≤ (S 1100002 ((g22 39 ((g22 1066 0) - (1 : Int))))))) → (((S 11 (g22 39 ((g22 1066 0) - (1 : Int)))) = 8 → ¬ ((S 11 (S 12 (5 * (g22 39 ((g22 1066 0) - (1 : Int)))))) = 7 ∧ (S 14 (S 12 (5 * (g22 39 ((g22 1066 0) - (1 : Int)))))) = 0) → sm_cd (S 11) (S 12) (S 14) ((g22 39 ((g22 1066 0) - (1 : Int)))) = 1) → ((¬ (S 11 (g22 39 ((g22 1066 0) - (1 : Int)))) = 8 → sm_cd (S 11) (S 12) (S 14) ((g22 39 ((g22 1066 0) - (1 : Int)))) = 0) → (((S 11 (S 12 (5 * (g22 39 ((g22 1066 0) - (1 : Int)))))) = 7 ∧ (S 14 (S 12 (5 * (g22 39 ((g22 1066 0) - (1 : Int)))))) = 0 → sm_cd (S 11) (S 12) (S 14) ((g22 39 ((g22 1066 0) - (1 : Int)))) = 0) → ((0 ≤ sm_cd (S 11) (S 12) (S 14) ((g22 39 ((g22 1066 0) - (1 : Int)))) ∧ sm_cd (S 11) (S 12) (S 14) ((g22 39 ((g22 1066 0) - (1 : Int)))) ≤ 1) → ((sm_LE (g22 39) (S 11) (S 12) (S 14) (S 1100001) (S 1100002) (S 1100005) (S 1066 0) ((g22 1066 0) - (1 : Int)) (S 1100002 p1) (S 1100005 p1) ((g22 1100007 (g22 1046 0)) - (S 1100007 (S 1046 0)) - 1 - sm_cd (S 11) (S 12) (S 14) ((g22 39 ((g22 1066 0) - (1 : Int))))) → (S 1066 0) ≤ ((g22 1066 0) - (1 : Int)) ∧ 0 ≤ (g22 1100007 (g22 1046 0)) - (S 1100007 (S 1046 0)) - 1 - sm_cd (S 11) (S 12) (S 14) ((g22 39 ((g22 1066 0) - (1 : Int)))) ∧ (((g22 1066 0) - (1 : Int)) = (S 1066 0) → (g22 1100007 (g22 1046 0)) - (S 1100007 (S 1046 0)) - 1 - sm_cd (S 11) (S 12) (S 14) ((g22 39 ((g22 1066 0) - (1 : Int)))) = 0)) → (0 ≤ ((g22 1066 0) - (1 : Int)) ∧ ((g22 1066 0) - (1 : Int)) < 12000) ∧ (sv_R (g22 39 ((g22 1066 0) - (1 : Int))) → (sm_WF (S 11) (S 12) (S 13) (S 1100001) (S 1100002) (S 1100005) (S 1100003) (S 1100004) (S 1024 0) (S 1007 0) (S 1009 0) (sm_fn (S 1032 0) (S 21) (S 1056 0)) ∧ (S 1009 0) = 0 ∧ 0 ≤ (S 1007 0) ∧ (S 1007 0) ≤ 90 ∧ 0 ≤ (S 1024 0) ∧ (S 1024 0) ≤ 12000 ∧ 1 ≤ (S 1032 0) ∧ (S 1032 0) ≤ 11 ∧ 0 ≤ (S 1056 0) ∧ (S 1056 0) < (S 1032 0) ∧ sm_VB (S 33) (S 21) (S 1032 0) ∧ 0 ≤ (g22 1046 0) ∧ (g22 1046 0) ≤ 600 ∧ 0 ≤ (g22 1047 0) ∧ (g22 1047 0) ≤ 1 ∧ 0 ≤ (g22 1053 0) ∧ 0 ≤ ((g22 1066 0) - (1 : Int)) ∧ 0 ≤ (g22 39 ((g22 1066 0) - (1 : Int))) ∧ (g22 39 ((g22 1066 0) - (1 : Int))) < (S 1024 0) ∧ (S 1100001 (g22 39 ((g22 1066 0) - (1 : Int)))) = 1 ∧ ((S 11 (g22 39 ((g22 1066 0) - (1 : Int)))) = 3 ∨ (S 11 (g22 39 ((g22 1066 0) - (1 : Int)))) = 7 ∨ (S 11 (g22 39 ((g22 1066 0) - (1 : Int)))) = 8 ∨ (S 11 (g22 39 ((g22 1066 0) - (1 : Int)))) = 11 ∨ (S 11 (g22 39 ((g22 1066 0) - (1 : Int)))) = 12 ∨ (S 11 (g22 39 ((g22 1066 0) - (1 : Int)))) = 13) ∧ sm_LF (g22 39) (S 1100002) ((g22 1066 0) - (1 : Int)) (S 1024 0) (12001 * (S 1100002 (g22 39 ((g22 1066 0) - (1 : Int)))) + (g22 39 ((g22 1066 0) - (1 : Int)))) ∧ (g22 1047 0) = 0 ∧ (1 + sm_cd (S 11) (S 12) (S 14) ((g22 39 ((g22 1066 0) - (1 : Int))))) ≤ (g22 1100007 (g22 1046 0)) ∧ 1 ≤ (g22 1046 0) ∧ sm_KC (g22 26) (g22 27) (g22 28) (g22 29) (g22 1100007) (g22 1100023) (g22 1100024) (g22 1100025) (g22 31) (g22 1100009) (g22 1100027) (g22 1100028) (g22 1100026) (g22 1100030) (S 21) (S 32) (S 33) (g22 1046 0) (g22 1053 0) (S 1056 0) (S 1032 0) (S 1007 0) (g22 1100033 0) ∧ (g22 1100033 0) = (g22 1055 0) ∧ 0 ≤ (g22 1055 0) ∧ (g22 1055 0) ≤ (g22 1046 0) ∧ (0 ≤ (g22 1100023 (g22 1046 0)) → (g22 1100007 (g22 1100023 (g22 1046 0))) ≤ (g22 1100007 (g22 1046 0)) - (1 + sm_cd (S 11) (S 12) (S 14) ((g22 39 ((g22 1066 0) - (1 : Int)))))) ∧ (0 ≤ (g22 1100025 (g22 1046 0)) → (g22 1100007 (g22 1100025 (g22 1046 0))) ≤ (g22 1100007 (g22 1046 0)) - (1 + sm_cd (S 11) (S 12) (S 14) ((g22 39 ((g22 1066 0) - (1 : Int)))))) ∧ (g22 1100007 (g22 1046 0)) ≤ (g22 1046 0) ∧ (g22 1053 0) + 3 * (600 - (g22 1046 0)) + (S 1100002 (g22 39 ((g22 1066 0) - (1 : Int)))) ≤ 8000) ∧ (0 ≤ ((S 1100002 (g22 39 ((g22 1066 0) - (1 : Int)))) + (600 - (g22 1046 0)) + 8) ∧ ((S 1100002 (g22 39 ((g22 1066 0) - (1 : Int)))) + (600 - (g22 1046 0)) + 8) < d) ∧ (0 ≤ ((S 1100002 (g22 39 ((g22 1066 0) - (1 : Int)))) + (600 - (g22 1046 0)) + 8) ∧ ((S 1100002 (g22 39 ((g22 1066 0) - (1 : Int)))) + (600 - (g22 1046 0)) + 8) + 1 ≤ ((if (S 1047 0) = 0 then (S 1100002 p1) + (600 - (S 1046 0)) + 8 else 4))) ∧ (∀ g49 : sv_S, (0 ≤ (g49 1046 0) ∧ (g49 1046 0) ≤ 600 ∧ 0 ≤ (g49 1047 0) ∧ (g49 1047 0) ≤ 1 ∧ 0 ≤ (g49 1053 0) ∧ 0 ≤ (g49 1066 0) ∧ (g22 1046 0) ≤ (g49 1046 0) ∧ ((g22 1047 0) = 1 → (g49 1047 0) = 1) ∧ sm_F1 (g22 26) (g49 26) (g22 1046 0) ∧ sm_F1 (g22 27) (g49 27) (g22 1046 0) ∧ sm_F1 (g22 28) (g49 28) (g22 1046 0) ∧ sm_F1 (g22 29) (g49 29) (g22 1046 0) ∧ sm_F1 (g22 1100007) (g49 1100007) ((g22 1046 0) + 1) ∧ sm_F1 (g22 1100023) (g49 1100023) ((g22 1046 0) + 1) ∧ sm_F1 (g22 1100024) (g49 1100024) ((g22 1046 0) + 1) ∧ sm_F1 (g22 1100025) (g49 1100025) ((g22 1046 0) + 1) ∧ sm_F1 (g22 1100009) (g49 1100009) (g22 1053 0) ∧ sm_F1 (g22 1100027) (g49 1100027) (g22 1053 0) ∧ sm_F1 (g22 1100028) (g49 1100028) (g22 1053 0) ∧ sm_F1 (g22 1100026) (g49 1100026) (g22 1053 0) ∧ sm_F1 (g22 1100030) (g49 1100030) (g22 1053 0) ∧ sm_F1 (g22 31) (g49 31) (g22 1053 0) ∧ (g22 1053 0) ≤ (g49 1053 0) ∧ (g49 1066 0) = ((g22 1066 0) - (1 : Int)) ∧ sm_F1 (g22 39) (g49 39) ((g22 1066 0) - (1 : Int)) ∧ ((g22 1047 0) = 1 → (g49 1053 0) = (g22 1053 0)) ∧ ((g22 1047 0) = 0 → (g49 1053 0) ≤ (g22 1053 0) + 3 * (600 - (g22 1046 0)) + (S 1100002 (g22 39 ((g22 1066 0) - (1 : Int))))) ∧ ((g49 1047 0) = 0 → (g22 1047 0) = 0 ∧ sm_KC (g49 26) (g49 27) (g49 28) (g49 29) (g49 1100007) (g49 1100023) (g49 1100024) (g49 1100025) (g49 31) (g49 1100009) (g49 1100027) (g49 1100028) (g49 1100026) (g49 1100030) (S 21) (S 32) (S 33) (g49 1046 0) (g49 1053 0) (S 1056 0) (S 1032 0) (S 1007 0) (g49 1100033 0) ∧ (g49 1100033 0) = (g49 1055 0) ∧ 0 ≤ (g49 1055 0) ∧ (g49 1055 0) ≤ (g49 1046 0) ∧ (g22 1046 0) + 1 ≤ (g49 1046 0) ∧ sm_FC (g49 29) (g22 1046 0) (g49 1046 0) (S 1056 0) ∧ (g49 1100007 (g49 1046 0)) = (g22 1100007 (g22 1046 0)) + (0 - sm_cd (S 11) (S 12) (S 14) ((g22 39 ((g22 1066 0) - (1 : Int))))) ∧ (g49 1100023 (g49 1046 0)) = (g22 1100023 (g22 1046 0)) ∧ (g49 1100024 (g49 1046 0)) = (g22 1100024 (g22 1046 0)) ∧ (g49 1100025 (g49 1046 0)) = (g22 1100025 (g22 1046 0)) ∧ (g49 1100007 (g49 1100023 (g49 1046 0))) = (g22 1100007 (g22 1100023 (g22 1046 0))) ∧ (g49 1100007 (g49 1100025 (g49 1046 0))) = (g22 1100007 (g22 1100025 (g22 1046 0))) ∧ sm_AP (g49 1100030) (g22 1053 0) (g49 1053 0) ∧ sm_HB (g49 1100007) (g22 1046 0) (g49 1046 0) (2 * ((g22 1100007 (g22 1046 0)) - (1 + sm_cd (S 11) (S 12) (S 14) ((g22 39 ((g22 1066 0) - (1 : Int)))))) + (1 + sm_cd (S 11) (S 12) (S 14) ((g22 39 ((g22 1066 0) - (1 : Int))))) + ((g49 1046 0) - (g22 1046 0)) + 8 * (S 1100005 (g22 39 ((g22 1066 0) - (1 : Int)))) + 10) ∧ (g49 1053 0) ≤ (g22 1053 0) + 3 * ((g49 1046 0) - (g22 1046 0)) ∧ True)) → ((0 ≤ (g49 1046 0) ∧ (g49 1046 0) ≤ 600 ∧ 0 ≤ (g49 1047 0) ∧ (g49 1047 0) ≤ 1 ∧ 0 ≤ (g49 1053 0) ∧ 0 ≤ (g49 1066 0) ∧ (S 1046 0) ≤ (g49 1046 0) ∧ ((S 1047 0) = 1 → (g49 1047 0) = 1) ∧ sm_F1 (S 26) (g49 26) (S 1046 0) ∧ sm_F1 (S 27) (g49 27) (S 1046 0) ∧ sm_F1 (S 28) (g49 28) (S 1046 0) ∧ sm_F1 (S 29) (g49 29) (S 1046 0) ∧ sm_F1 (S 1100007) (g49 1100007) ((S 1046 0) + 1) ∧ sm_F1 (S 1100023) (g49 1100023) ((S 1046 0) + 1) ∧ sm_F1 (S 1100024) (g49 1100024) ((S 1046 0) + 1) ∧ sm_F1 (S 1100025) (g49 1100025) ((S 1046 0) + 1) ∧ (S 1066 0) ≤ (g49 1066 0) ∧ sm_F1 (S 39) (g49 39) (S 1066 0) ∧ sm_F1 (S 1100009) (g49 1100009) (S 1053 0) ∧ sm_F1 (S 1100027) (g49 1100027) (S 1053 0) ∧ sm_F1 (S 1100028) (g49 1100028) (S 1053 0) ∧ sm_F1 (S 1100026) (g49 1100026) (S 1053 0) ∧ sm_F1 (S 1100030) (g49 1100030) (S 1053 0) ∧ sm_F1 (S 31) (g49 31) (S 1053 0) ∧ (S 1053 0) ≤ (g49 1053 0) ∧ ((S 1047 0) = 1 → (g49 1053 0) = (S 1053 0)) ∧ ((S 1047 0) = 0 → (g49 1053 0) ≤ (S 1053 0) + 3 * (600 - (S 1046 0)) + (S 1100002 p1)) ∧ (¬ (g49 1066 0) = (S 1066 0) → sm_LF (g49 39) (S 1100002) (g49 1066 0) (S 1024 0) (-1)) ∧ ((g49 1047 0) = 0 → (S 1047 0) = 0 ∧ sm_KC (g49 26) (g49 27) (g49 28) (g49 29) (g49 1100007) (g49 1100023) (g49 1100024) (g49 1100025) (g49 31) (g49 1100009) (g49 1100027) (g49 1100028) (g49 1100026) (g49 1100030) (S 21) (S 32) (S 33) (g49 1046 0) (g49 1053 0) (S 1056 0) (S 1032 0) (S 1007 0) (g49 1100033 0) ∧ (g49 1100033 0) = (g49 1055 0) ∧ 0 ≤ (g49 1055 0) ∧ (g49 1055 0) ≤ (g49 1046 0) ∧ sm_LE (g49 39) (S 11) (S 12) (S 14) (S 1100001) (S 1100002) (S 1100005) (S 1066 0) (g49 1066 0) (S 1100002 p1) (S 1100005 p1) ((g49 1100007 (g49 1046 0)) - (S 1100007 (S 1046 0)) - 1) ∧ (g49 1100007 (g49 1046 0)) - (S 1100007 (S 1046 0)) ≤ (g49 1046 0) - (S 1046 0) ∧ (g49 1100007 (g49 1046 0)) = (S 1100007 (S 1046 0)) + ((g49 1100007 (g49 1046 0)) - (S 1100007 (S 1046 0))) ∧ (g49 1100023 (g49 1046 0)) = (S 1100023 (S 1046 0)) ∧ (g49 1100024 (g49 1046 0)) = (S 1100024 (S 1046 0)) ∧ (g49 1100025 (g49 1046 0)) = (S 1100025 (S 1046 0)) ∧ (g49 1100007 (g49 1100023 (g49 1046 0))) = (S 1100007 (S 1100023 (S 1046 0))) ∧ (g49 1100007 (g49 1100025 (g49 1046 0))) = (S 1100007 (S 1100025 (S 1046 0))) ∧ sm_FC (g49 29) (S 1046 0) (g49 1046 0) (S 1056 0) ∧ sm_AP (g49 1100030) (S 1053 0) (g49 1053 0) ∧ (g49 1053 0) ≤ (S 1053 0) + 3 * ((g49 1046 0) - (S 1046 0)) ∧ sm_HB (g49 1100007) (S 1046 0) (g49 1046 0) (2 * (S 1100007 (S 1046 0)) + ((g49 1046 0) - (S 1046 0)) + ((g49 1100007 (g49 1046 0)) - (S 1100007 (S 1046 0)) - 1) + 8 * (S 1100005 p1) + 10))) ∧ ((g49 1066 0)) < ((g22 1066 0)))))))))))))))))))))))))))) ∧ ((¬ (¬ (g3 1047 0) = (0 : Int))) → ((sm_WF (S 11) (S 12) (S 13) (S 1100001) (S 1100002) (S 1100005) (S 1100003) (S 1100004) (S 1024 0) (S 1007 0) (S 1009 0) (sm_fn (S 1032 0) (S 21) (S 1056 0)) → 0 ≤ l3_4 → l3_4 < (S 1024 0) → ((S 1100001 (l3_4)) = 1 → 0 ≤ (S 1100002 (l3_4)) ∧ ((S 11 (l3_4)) = 3 → (S 12 (5 * (l3_4) + 1)) < (l3_4)) ∧ ((S 11 (l3_4)) = 4 ∨ (S 11 (l3_4)) = 5 ∨ (S 11 (l3_4)) = 8 ∨ (S 11 (l3_4)) = 9 → 17 * (S 1100005 (l3_4)) + 2 ≤ (S 1100002 (l3_4))) ∧ 0 ≤ (S 1100005 (l3_4))) ∧ ((S 1100001 (l3_4)) = 2 → 0 ≤ (S 1100005 (l3_4)) ∧ (S 1100002 (l3_4)) ≤ 17 * (S 1100005 (l3_4)) + 5 ∧ ((S 11 (l3_4)) = 33 → 1 ≤ (S 1100005 (l3_4)))) ∧ ((S 1100001 (l3_4)) = 6 → 0 ≤ (S 1100002 (l3_4)) ∧ 1 ≤ (S 1100004 (l3_4)) ∧ ((S 12 (5 * (l3_4))) = - 1 → (S 1100004 (l3_4)) = 2)) ∧ ((S 1100001 (l3_4)) = 3 → 1 ≤ (S 1100002 (l3_4)))) → ((sm_WF (S 11) (S 12) (S 13) (S 1100001) (S 1100002) (S 1100005) (S 1100003) (S 1100004) (S 1024 0) (S 1007 0) (S 1009 0) (sm_fn (S 1032 0) (S 21) (S 1056 0)) → 0 ≤ l3_4 → l3_4 < (S 1024 0) → (S 1100001 l3_4) = 1 → ¬ sm_lfp (S 11) (S 12) (S 14) (l3_4) = -1 → ((S 11 l3_4) = 3 ∨ (S 11 l3_4) = 7 ∨ (S 11 l3_4) = 8 ∨ (S 11 l3_4) = 11 ∨ (S 11 l3_4) = 12 ∨ (S 11 l3_4) = 13) ∧ 0 ≤ sm_lfp (S 11) (S 12) (S 14) (l3_4) ∧ sm_lfp (S 11) (S 12) (S 14) (l3_4) < l3_4 ∧ (S 1100001 (sm_lfp (S 11) (S 12) (S 14) (l3_4))) = 1 ∧ (S 1100002 (sm_lfp (S 11) (S 12) (S 14) (l3_4))) ≤ (S 1100002 l3_4) ∧ (S 1100005 (sm_lfp (S 11) (S 12) (S 14) (l3_4))) ≤ (S 1100005 l3_4)) → (((S 11 l3_4) = 8 → sm_WF (S 11) (S 12) (S 13) (S 1100001) (S 1100002) (S 1100005) (S 1100003) (S 1100004) (S 1024 0) (S 1007 0) (S 1009 0) (sm_fn (S 1032 0) (S 21) (S 1056 0)) → 0 ≤ l3_4 → l3_4 < (S 1024 0) → (S 1100001 l3_4) = 1 → 0 ≤ (S 12 (5 * l3_4)) ∧ (S 12 (5 * l3_4)) < l3_4) → (((S 11 l3_4) = 8 → ¬ ((S 11 (S 12 (5 * l3_4))) = 7 ∧ (S 14 (S 12 (5 * l3_4))) = 0) → sm_cd (S 11) (S 12) (S 14) (l3_4) = 1) → ((¬ (S 11 l3_4) = 8 → sm_cd (S 11) (S 12) (S 14) (l3_4) = 0) → (((S 11 (S 12 (5 * l3_4))) = 7 ∧ (S 14 (S 12 (5 * l3_4))) = 0 → sm_cd (S 11) (S 12) (S 14) (l3_4) = 0) → ((0 ≤ sm_cd (S 11) (S 12) (S 14) (l3_4) ∧ sm_cd (S 11) (S 12) (S 14) (l3_4) ≤ 1) → ((sm_LF (g3 39) (S 1100002) (g3 1066 0) (S 1024 0) (12001 * (S 1100002 l3_4) + l3_4) → 0 ≤ l3_4 → l3_4 < (S 1024 0) → (g3 1066 0) + 1 ≤ (S 1024 0)) → (0 ≤ l3_4 ∧ l3_4 < 12000 ∧ ((S 11 l3_4) = 8 → 0 ≤ (S 12 (5 * l3_4)) ∧ (S 12 (5 * l3_4)) < 12000)) ∧ (2 + 1 ≤ ((if (S 1047 0) = 0 then (S 1100002 p1) + (600 - (S 1046 0)) + 8 else 4))) ∧ (sv_R (sm_lfp (S 11) (S 12) (S 14) (l3_4))) ∧ ((((sm_lfp (S 11) (S 12) (S 14) (l3_4)) = (-1 : Int)) → ((sm_WF (S 11) (S 12) (S 13) (S 1100001) (S 1100002) (S 1100005) (S 1100003) (S 1100004) (S 1024 0) (S 1007 0) (S 1009 0) (sm_fn (S 1032 0) (S 21) (S 1056 0)) → 0 ≤ l3_4 → l3_4 < (S 1024 0) → (S 1100001 l3_4) = 1 → sm_lfp (S 11) (S 12) (S 14) (l3_4) = -1 → ¬ ((S 11 l3_4) = 3 ∨ (S 11 l3_4) = 7 ∨ (S 11 l3_4) = 8 ∨ (S 11 l3_4) = 11 ∨ (S 11 l3_4) = 12 ∨ (S 11 l3_4) = 13)) → ((sm_WF (S 11) (S 12) (S 13) (S 1100001) (S 1100002) (S 1100005) (S 1100003) (S 1100004) (S 1024 0) (S 1007 0) (S 1009 0) (sm_fn (S 1032 0) (S 21) (S 1056 0)) → 0 ≤ l3_4 → l3_4 < (S 1024 0) → ((S 1100001 (l3_4)) = 1 → 0 ≤ (S 1100002 (l3_4)) ∧ ((S 11 (l3_4)) = 3 → (S 12 (5 * (l3_4) + 1)) < (l3_4)) ∧ ((S 11 (l3_4)) = 4 ∨ (S 11 (l3_4)) = 5 ∨ (S 11 (l3_4)) = 8 ∨ (S 11 (l3_4)) = 9 → 17 * (S 1100005 (l3_4)) + 2 ≤ (S 1100002 (l3_4))) ∧ 0 ≤ (S 1100005 (l3_4))) ∧ ((S 1100001 (l3_4)) = 2 → 0 ≤ (S 1100005 (l3_4)) ∧ (S 1100002 (l3_4)) ≤ 17 * (S 1100005 (l3_4)) + 5 ∧ ((S 11 (l3_4)) = 33 → 1 ≤ (S 1100005 (l3_4)))) ∧ ((S 1100001 (l3_4)) = 6 → 0 ≤ (S 1100002 (l3_4)) ∧ 1 ≤ (S 1100004 (l3_4)) ∧ ((S 12 (5 * (l3_4))) = - 1 → (S 1100004 (l3_4)) = 2)) ∧ ((S 1100001 (l3_4)) = 3 → 1 ≤ (S 1100002 (l3_4)))) → ((sm_LE (g3 39) (S 11) (S 12) (S 14) (S 1100001) (S 1100002) (S 1100005) (S 1066 0) (g3 1066 0) (S 1100002 p1) (S 1100005 p1) ((g3 1100007 (g3 1046 0)) - (S 1100007 (S 1046 0))) → (S 1066 0) ≤ (g3 1066 0) ∧ 0 ≤ (g3 1100007 (g3 1046 0)) - (S 1100007 (S 1046 0)) ∧ ((g3 1066 0) = (S 1066 0) → (g3 1100007 (g3 1046 0)) - (S 1100007 (S 1046 0)) = 0)) → (sm_WF (S 11) (S 12) (S 13) (S 1100001) (S 1100002) (S 1100005) (S 1100003) (S 1100004) (S 1024 0) (S 1007 0) (S 1009 0) (sm_fn (S 1032 0) (S 21) (S 1056 0)) ∧ (S 1009 0) = 0 ∧ 0 ≤ (S 1007 0) ∧ (S 1007 0) ≤ 90 ∧ 0 ≤ (S 1024 0) ∧ (S 1024 0) ≤ 12000 ∧ 1 ≤ (S 1032 0) ∧ (S 1032 0) ≤ 11 ∧ 0 ≤ (S 1056 0) ∧ (S 1056 0) < (S 1032 0) ∧ sm_VB (S 33) (S 21) (S 1032 0) ∧ 0 ≤ (g3 1046 0) ∧ (g3 1046 0) ≤ 600 ∧ 0 ≤ (g3 1047 0) ∧ (g3 1047 0) ≤ 1 ∧ 0 ≤ (S 1053 0) ∧ 0 ≤ (g3 1066 0) ∧ 0 ≤ l3_4 ∧ l3_4 < (S 1024 0) ∧ (S 1100001 l3_4) = 1 ∧ sm_LF (g3 39) (S 1100002) (g3 1066 0) (S 1024 0) (12001 * (S 1100002 l3_4) + l3_4) ∧ ((g3 1047 0) = 0 → ¬ ((S 11 l3_4) = 3 ∨ (S 11 l3_4) = 7 ∨ (S 11 l3_4) = 8 ∨ (S 11 l3_4) = 11 ∨ (S 11 l3_4) = 12 ∨ (S 11 l3_4) = 13) ∧ sm_KC (g3 26) (g3 27) (g3 28) (g3 29) (g3 1100007) (g3 1100023) (g3 1100024) (g3 1100025) (S 31) (S 1100009) (S 1100027) (S 1100028) (S 1100026) (S 1100030) (S 21) (S 32) (S 33) (g3 1046 0) (S 1053 0) (S 1056 0) (S 1032 0) (S 1007 0) (S 1100033 0) ∧ (S 1100033 0) = (S 1055 0) ∧ 0 ≤ (S 1055 0) ∧ (S 1055 0) ≤ (g3 1046 0) ∧ (0 ≤ (g3 1100023 (g3 1046 0)) → (g3 1100007 (g3 1100023 (g3 1046 0))) ≤ (g3 1100007 (g3 1046 0))) ∧ (0 ≤ (g3 1100025 (g3 1046 0)) → (g3 1100007 (g3 1100025 (g3 1046 0))) ≤ (g3 1100007 (g3 1046 0))) ∧ (g3 1100007 (g3 1046 0)) ≤ (g3 1046 0) ∧ (S 1053 0) + 3 * (600 - (g3 1046 0)) + (S 1100002 l3_4) ≤ 8000)) ∧ (0 ≤ ((if (g3 1047 0) = 0 then (S 1100002 l3_4) + (600 - (g3 1046 0)) + 7 else 3)) ∧ ((if (g3 1047 0) = 0 then (S 1100002 l3_4) + (600 - (g3 1046 0)) + 7 else 3)) < d) ∧ (0 ≤ ((if (g3 1047 0) = 0 then (S 1100002 l3_4) + (600 - (g3 1046 0)) + 7 else 3)) ∧ ((if (g3 1047 0) = 0 then (S 1100002 l3_4) + (600 - (g3 1046 0)) + 7 else 3)) + 1 ≤ ((if (S 1047 0) = 0 then (S 1100002 p1) + (600 - (S 1046 0)) + 8 else 4))) ∧ (∀ g72 : sv_S, (0 ≤ (g72 1046 0) ∧ (g72 1046 0) ≤ 600 ∧ 0 ≤ (g72 1047 0) ∧ (g72 1047 0) ≤ 1 ∧ 0 ≤ (g72 1053 0) ∧ 0 ≤ (g72 1066 0) ∧ (g3 1046 0) ≤ (g72 1046 0) ∧ ((g3 1047 0) = 1 → (g72 1047 0) = 1) ∧ sm_F1 (g3 26) (g72 26) (g3 1046 0) ∧ sm_F1 (g3 27) (g72 27) (g3 1046 0) ∧ sm_F1 (g3 28) (g72 28) (g3 1046 0) ∧ sm_F1 (g3 29) (g72 29) (g3 1046 0) ∧ sm_F1 (g3 1100007) (g72 1100007) ((g3 1046 0) + 1) ∧ sm_F1 (g3 1100023) (g72 1100023) ((g3 1046 0) + 1) ∧ sm_F1 (g3 1100024) (g72 1100024) ((g3 1046 0) + 1) ∧ sm_F1 (g3 1100025) (g72 1100025) ((g3 1046 0) + 1) ∧ sm_F1 (S 1100009) (g72 1100009) (S 1053 0) ∧ sm_F1 (S 1100027) (g72 1100027) (S 1053 0) ∧ sm_F1 (S 1100028) (g72 1100028) (S 1053 0) ∧ sm_F1 (S 1100026) (g72 1100026) (S 1053 0) ∧ sm_F1 (S 1100030) (g72 1100030) (S 1053 0) ∧ sm_F1 (S 31) (g72 31) (S 1053 0) ∧ (S 1053 0) ≤ (g72 1053 0) ∧ (g72 1066 0) = (g3 1066 0) ∧ sm_F1 (g3 39) (g72 39) (g3 1066 0) ∧ ((g3 1047 0) = 1 → (g72 1053 0) = (S 1053 0)) ∧ ((g3 1047 0) = 0 → (g72 1053 0) ≤ (S 1053 0) + 3 * (600 - (g3 1046 0)) + (S 1100002 l3_4)) ∧ ((g72 1047 0) = 0 → (g3 1047 0) = 0 ∧ sm_KC (g72 26) (g72 27) (g72 28) (g72 29) (g72 1100007) (g72 1100023) (g72 1100024) (g72 1100025) (g72 31) (g72 1100009) (g72 1100027) (g72 1100028) (g72 1100026) (g72 1100030) (S 21) (S 32) (S 33) (g72 1046 0) (g72 1053 0) (S 1056 0) (S 1032 0) (S 1007 0) (g72 1100033 0) ∧ (g72 1100033 0) = (g72 1055 0) ∧ 0 ≤ (g72 1055 0) ∧ (g72 1055 0) ≤ (g72 1046 0) ∧ (g3 1046 0) + 1 ≤ (g72 1046 0) ∧ sm_FC (g72 29) (g3 1046 0) (g72 1046 0) (S 1056 0) ∧ (g72 1100007 (g72 1046 0)) = (g3 1100007 (g3 1046 0)) + 1 ∧ (g72 1100023 (g72 1046 0)) = (g3 1100023 (g3 1046 0)) ∧ (g72 1100024 (g72 1046 0)) = (g3 1100024 (g3 1046 0)) ∧ (g72 1100025 (g72 1046 0)) = (g3 1100025 (g3 1046 0)) ∧ (g72 1100007 (g72 1100023 (g72 1046 0))) = (g3 1100007 (g3 1100023 (g3 1046 0))) ∧ (g72 1100007 (g72 1100025 (g72 1046 0))) = (g3 1100007 (g3 1100025 (g3 1046 0))) ∧ sm_AP (g72 1100030) (S 1053 0) (g72 1053 0) ∧ sm_HB (g72 1100007) (g3 1046 0) (g72 1046 0) (2 * (g3 1100007 (g3 1046 0)) + ((g72 1046 0) - (g3 1046 0)) + 8 * (S 1100005 l3_4) + 10) ∧ (g72 1053 0) ≤ (S 1053 0) + 3 * ((g72 1046 0) - (g3 1046 0)) ∧ True)) → ((0 ≤ (g72 1046 0) ∧ (g72 1046 0) ≤ 600 ∧ 0 ≤ (g72 1047 0) ∧ (g72 1047 0) ≤ 1 ∧ 0 ≤ (g72 1053 0) ∧ 0 ≤ (g72 1066 0) ∧ (S 1046 0) ≤ (g72 1046 0) ∧ ((S 1047 0) = 1 → (g72 1047 0) = 1) ∧ sm_F1 (S 26) (g72 26) (S 1046 0) ∧ sm_F1 (S 27) (g72 27) (S 1046 0) ∧ sm_F1 (S 28) (g72 28) (S 1046 0) ∧ sm_F1 (S 29) (g72 29) (S 1046 0) ∧ sm_F1 (S 1100007) (g72 1100007) ((S 1046 0) + 1) ∧ sm_F1 (S 1100023) (g72 1100023) ((S 1046 0) + 1) ∧ sm_F1 (S 1100024) (g72 1100024) ((S 1046 0) + 1) ∧ sm_F1 (S 1100025) (g72 1100025) ((S 1046 0) + 1) ∧ (S 1066 0) ≤ (g72 1066 0) ∧ sm_F1 (S 39) (g72 39) (S 1066 0) ∧ sm_F1 (S 1100009) (g72 1100009) (S 1053 0) ∧ sm_F1 (S 1100027) (g72 1100027) (S 1053 0) ∧ sm_F1 (S 1100028) (g72 1100028) (S 1053 0) ∧ sm_F1 (S 1100026) (g72 1100026) (S 1053 0) ∧ sm_F1 (S 1100030) (g72 1100030) (S 1053 0) ∧ sm_F1 (S 31) (g72 31) (S 1053 0) ∧ (S 1053 0) ≤ (g72 1053 0) ∧ ((S 1047 0) = 1 → (g72 1053 0) = (S 1053 0)) ∧ ((S 1047 0) = 0 → (g72 1053 0) ≤ (S 1053 0) + 3 * (600 - (S 1046 0)) + (S 1100002 p1)) ∧ (¬ (g72 1066 0) = (S 1066 0) → sm_LF (g72 39) (S 1100002) (g72 1066 0) (S 1024 0) (-1)) ∧ ((g72 1047 0) = 0 → (S 1047 0) = 0 ∧ sm_KC (g72 26) (g72 27) (g72 28) (g72 29) (g72 1100007) (g72 1100023) (g72 1100024) (g72 1100025) (g72 31) (g72 1100009) (g72 1100027) (g72 1100028) (g72 1100026) (g72 1100030) (S 21) (S 32) (S 33) (g72 1046 0) (g72 1053 0) (S 1056 0) (S 1032 0) (S 1007 0) (g72 1100033 0) ∧ (g72 1100033 0) = (g72 1055 0) ∧ 0 ≤ (g72 1055 0) ∧ (g72 1055 0) ≤ (g72 1046 0) ∧ sm_LE (g72 39) (S 11) (S 12) (S 14) (S 1100001) (S 1100002) (S 1100005) (S 1066 0) (g72 1066 0) (S 1100002 p1) (S 1100005 p1) ((g72 1100007 (g72 1046 0)) - (S 1100007 (S 1046 0)) - 1) ∧ (g72 1100007 (g72 1046 0)) - (S 1100007 (S 1046 0)) ≤ (g72 1046 0) - (S 1046 0) ∧ (g72 1100007 (g72 1046 0)) = (S 1100007 (S 1046 0)) + ((g72 1100007 (g72 1046 0)) - (S 1100007 (S 1046 0))) ∧ (g72 1100023 (g72 1046 0)) = (S 1100023 (S 1046 0)) ∧ (g72 1100024 (g72 1046 0)) = (S 1100024 (S 1046 0)) ∧ (g72 1100025 (g72 1046 0)) = (S 1100025 (S 1046 0)) ∧ (g72 1100007 (g72 1100023 (g72 1046 0))) = (S 1100007 (S 1100023 (S 1046 0))) ∧ (g72 1100007 (g72 1100025 (g72 1046 0))) = (S 1100007 (S 1100025 (S 1046 0))) ∧ sm_FC (g72 29) (S 1046 0) (g72 1046 0) (S 1056 0) ∧ sm_AP (g72 1100030) (S 1053 0) (g72 1053 0) ∧ (g72 1053 0) ≤ (S 1053 0) + 3 * ((g72 1046 0) - (S 1046 0)) ∧ sm_HB (g72 1100007) (S 1046 0) (g72 1046 0) (2 * (S 1100007 (S 1046 0)) + ((g72 1046 0) - (S 1046 0)) + ((g72 1100007 (g72 1046 0)) - (S 1100007 (S 1046 0)) - 1) + 8 * (S 1100005 p1) + 10))) ∧ (∀ g77 : sv_S, (0 ≤ (g77 1046 0) ∧ (g77 1046 0) ≤ 600 ∧ 0 ≤ (g77 1047 0) ∧ (g77 1047 0) ≤ 1 ∧ 0 ≤ (g77 1053 0) ∧ 0 ≤ (g77 1066 0) ∧ (S 1046 0) ≤ (g77 1046 0) ∧ ((S 1047 0) = 1 → (g77 1047 0) = 1) ∧ sm_F1 (S 26) (g77 26) (S 1046 0) ∧ sm_F1 (S 27) (g77 27) (S 1046 0) ∧ sm_F1 (S 28) (g77 28) (S 1046 0) ∧ sm_F1 (S 29) (g77 29) (S 1046 0) ∧ sm_F1 (S 1100007) (g77 1100007) ((S 1046 0) + 1) ∧ sm_F1 (S 1100023) (g77 1100023) ((S 1046 0) + 1) ∧ sm_F1 (S 1100024) (g77 1100024) ((S 1046 0) + 1) ∧ sm_F1 (S 1100025) (g77 1100025) ((S 1046 0) + 1) ∧ (S 1066 0) ≤ (g77 1066 0) ∧ sm_F1 (S 39) (g77 39) (S 1066 0) ∧ sm_F1 (S 1100009) (g77 1100009) (S 1053 0) ∧ sm_F1 (S 1100027) (g77 1100027) (S 1053 0) ∧ sm_F1 (S 1100028) (g77 1100028) (S 1053 0) ∧ sm_F1 (S 1100026) (g77 1100026) (S 1053 0) ∧ sm_F1 (S 1100030) (g77 1100030) (S 1053 0) ∧ sm_F1 (S 31) (g77 31) (S 1053 0) ∧ (S 1053 0) ≤ (g77 1053 0) ∧ ((S 1047 0) = 1 → (g77 1053 0) = (S 1053 0)) ∧ ((S 1047 0) = 0 → (g77 1053 0) ≤ (S 1053 0) + 3 * (600 - (S 1046 0)) + (S 1100002 p1)) ∧ (¬ (g77 1066 0) = (S 1066 0) → sm_LF (g77 39) (S 1100002) (g77 1066 0) (S 1024 0) (-1)) ∧ ((g77 1047 0) = 0 → (S 1047 0) = 0 ∧ sm_KC (g77 26) (g77 27) (g77 28) (g77 29) (g77 1100007) (g77 1100023) (g77 1100024) (g77 1100025) (g77 31) (g77 1100009) (g77 1100027) (g77 1100028) (g77 1100026) (g77 1100030) (S 21) (S 32) (S 33) (g77 1046 0) (g77 1053 0) (S 1056 0) (S 1032 0) (S 1007 0) (g77 1100033 0) ∧ (g77 1100033 0) = (g77 1055 0) ∧ 0 ≤ (g77 1055 0) ∧ (g77 1055 0) ≤ (g77 1046 0) ∧ sm_LE (g77 39) (S 11) (S 12) (S 14) (S 1100001) (S 1100002) (S 1100005) (S 1066 0) (g77 1066 0) (S 1100002 p1) (S 1100005 p1) ((g77 1100007 (g77 1046 0)) - (S 1100007 (S 1046 0)) - 1) ∧ (g77 1100007 (g77 1046 0)) - (S 1100007 (S 1046 0)) ≤ (g77 1046 0) - (S 1046 0) ∧ (g77 1100007 (g77 1046 0)) = (S 1100007 (S 1046 0)) + ((g77 1100007 (g77 1046 0)) - (S 1100007 (S 1046 0))) ∧ (g77 1100023 (g77 1046 0)) = (S 1100023 (S 1046 0)) ∧ (g77 1100024 (g77 1046 0)) = (S 1100024 (S 1046 0)) ∧ (g77 1100025 (g77 1046 0)) = (S 1100025 (S 1046 0)) ∧ (g77 1100007 (g77 1100023 (g77 1046 0))) = (S 1100007 (S 1100023 (S 1046 0))) ∧ (g77 1100007 (g77 1100025 (g77 1046 0))) = (S 1100007 (S 1100025 (S 1046 0))) ∧ sm_FC (g77 29) (S 1046 0) (g77 1046 0) (S 1056 0) ∧ sm_AP (g77 1100030) (S 1053 0) (g77 1053 0) ∧ (g77 1053 0) ≤ (S 1053 0) + 3 * ((g77 1046 0) - (S 1046 0)) ∧ sm_HB (g77 1100007) (S 1046 0) (g77 1046 0) (2 * (S 1100007 (S 1046 0)) + ((g77 1046 0) - (S 1046 0)) + ((g77 1100007 (g77 1046 0)) - (S 1100007 (S 1046 0)) - 1) + 8 * (S 1100005 p1) + 10))) → (0 ≤ (g77 1066 0)) ∧ ((sm_LE (g77 39) (S 11) (S 12) (S 14) (S 1100001) (S 1100002) (S 1100005) (S 1066 0) (g77 1066 0) (S 1100002 p1) (S 1100005 p1) ((g77 1100007 (g77 1046 0)) - (S 1100007 (S 1046 0)) - 1) → (S 1066 0) ≤ (g77 1066 0) ∧ 0 ≤ (g77 1100007 (g77 1046 0)) - (S 1100007 (S 1046 0)) - 1 ∧ ((g77 1066 0) = (S 1066 0) → (g77 1100007 (g77 1046 0)) - (S 1100007 (S 1046 0)) - 1 = 0)) → ((sm_LF (g77 39) (S 1100002) (g77 1066 0) (S 1024 0) (-1) → 0 ≤ (S 1024 0) → (g77 1066 0) ≤ (S 1024 0)) → (sv_R (g77 1066 0) → ((((g77 1066 0) ≤ (S 1066 0)) → (0 ≤ (g77 1046 0) ∧ (g77 1046 0) ≤ 600 ∧ 0 ≤ (g77 1047 0) ∧ (g77 1047 0) ≤ 1 ∧ 0 ≤ (g77 1053 0) ∧ 0 ≤ (g77 1066 0) ∧ (S 1046 0) ≤ (g77 1046 0) ∧ ((S 1047 0) = 1 → (g77 1047 0) = 1) ∧ sm_F1 (S 26) (g77 26) (S 1046 0) ∧ sm_F1 (S 27) (g77 27) (S 1046 0) ∧ sm_F1 (S 28) (g77 28) (S 1046 0) ∧ sm_F1 (S 29) (g77 29) (S 1046 0) ∧ sm_F1 (S 1100007) (g77 1100007) ((S 1046 0) + 1) ∧ sm_F1 (S 1100023) (g77 1100023) ((S 1046 0) + 1) ∧ sm_F1 (S 1100024) (g77 1100024) ((S 1046 0) + 1) ∧ sm_F1 (S 1100025) (g77 1100025) ((S 1046 0) + 1) ∧ sm_F1 (S 1100009) (g77 1100009) (S 1053 0) ∧ sm_F1 (S 1100027) (g77 1100027) (S 1053 0) ∧ sm_F1 (S 1100028) (g77 1100028) (S 1053 0) ∧ sm_F1 (S 1100026) (g77 1100026) (S 1053 0) ∧ sm_F1 (S 1100030) (g77 1100030) (S 1053 0) ∧ sm_F1 (S 31) (g77 31) (S 1053 0) ∧ (S 1053 0) ≤ (g77 1053 0) ∧ (g77 1066 0) = (S 1066 0) ∧ sm_F1 (S 39) (g77 39) (S 1066 0) ∧ ((S 1047 0) = 1 → (g77 1053 0) = (S 1053 0)) ∧ ((S 1047 0) = 0 → (g77 1053 0) ≤ (S 1053 0) + 3 * (600 - (S 1046 0)) + (S 1100002 p1)) ∧ ((g77 1047 0) = 0 → (S 1047 0) = 0 ∧ sm_KC (g77 26) (g77 27) (g77 28) (g77 29) (g77 1100007) (g77 1100023) (g77 1100024) (g77 1100025) (g77 31) (g77 1100009) (g77 1100027) (g77 1100028) (g77 1100026) (g77 1100030) (S 21) (S 32) (S 33) (g77 1046 0) (g77 1053 0) (S 1056 0) (S 1032 0) (S 1007 0) (g77 1100033 0) ∧ (g77 1100033 0) = (g77 1055 0) ∧ 0 ≤ (g77 1055 0) ∧ (g77 1055 0) ≤ (g77 1046 0) ∧ (S 1046 0) + 1 ≤ (g77 1046 0) ∧ sm_FC (g77 29) (S 1046 0) (g77 1046 0) (S 1056 0) ∧ (g77 1100007 (g77 1046 0)) = (S 1100007 (S 1046 0)) + 1 ∧ (g77 1100023 (g77 1046 0)) = (S 1100023 (S 1046 0)) ∧ (g77 1100024 (g77 1046 0)) = (S 1100024 (S 1046 0)) ∧ (g77 1100025 (g77 1046 0)) = (S 1100025 (S 1046 0)) ∧ (g77 1100007 (g77 1100023 (g77 1046 0))) = (S 1100007 (S 1100023 (S 1046 0))) ∧ (g77 1100007 (g77 1100025 (g77 1046 0))) = (S 1100007 (S 1100025 (S 1046 0))) ∧ sm_AP (g77 1100030) (S 1053 0) (g77 1053 0) ∧ sm_HB (g77 1100007) (S 1046 0) (g77 1046 0) (2 * (S 1100007 (S 1046 0)) + ((g77 1046 0) - (S 1046 0)) + 8 * (S 1100005 p1) + 10) ∧ (g77 1053 0) ≤ (S 1053 0) + 3 * ((g77 1046 0) - (S 1046 0)) ∧ True))) ∧ ((¬ ((g77 1066 0) ≤ (S 1066 0))) → (sv_R ((g77 1066 0) - (1 : Int))) ∧ ((0 ≤ (g77 1047 0) ∧ (g77 1047 0) ≤ 1) → (((¬ (g77 1047 0) = (0 : Int)) → ((0 ≤ (g77 1046 0) ∧ (g77 1046 0) ≤ 600 ∧ 0 ≤ (g77 1047 0) ∧ (g77 1047 0) ≤ 1 ∧ 0 ≤ (g77 1053 0) ∧ 0 ≤ ((g77 1066 0) - (1 : Int)) ∧ (S 1046 0) ≤ (g77 1046 0) ∧ ((S 1047 0) = 1 → (g77 1047 0) = 1) ∧ sm_F1 (S 26) (g77 26) (S 1046 0) ∧ sm_F1 (S 27) (g77 27) (S 1046 0) ∧ sm_F1 (S 28) (g77 28) (S 1046 0) ∧ sm_F1 (S 29) (g77 29) (S 1046 0) ∧ sm_F1 (S 1100007) (g77 1100007) ((S 1046 0) + 1) ∧ sm_F1 (S 1100023) (g77 1100023) ((S 1046 0) + 1) ∧ sm_F1 (S 1100024) (g77 1100024) ((S 1046 0) + 1) ∧ sm_F1 (S 1100025) (g77 1100025) ((S 1046 0) + 1) ∧ (S 1066 0) ≤ ((g77 1066 0) - (1 : Int)) ∧ sm_F1 (S 39) (g77 39) (S 1066 0) ∧ sm_F1 (S 1100009) (g77 1100009) (S 1053 0) ∧ sm_F1 (S 1100027) (g77 1100027) (S 1053 0) ∧ sm_F1 (S 1100028) (g77 1100028) (S 1053 0) ∧ sm_F1 (S 1100026) (g77 1100026) (S 1053 0) ∧ sm_F1 (S 1100030) (g77 1100030) (S 1053 0) ∧ sm_F1 (S 31) (g77 31) (S 1053 0) ∧ (S 1053 0) ≤ (g77 1053 0) ∧ ((S 1047 0) = 1 → (g77 1053 0) = (S 1053 0)) ∧ ((S 1047 0) = 0 → (g77 1053 0) ≤ (S 1053 0) + 3 * (600 - (S 1046 0)) + (S 1100002 p1)) ∧ (¬ ((g77 1066 0) - (1 : Int)) = (S 1066 0) → sm_LF (g77 39) (S 1100002) ((g77 1066 0) - (1 : Int)) (S 1024 0) (-1)) ∧ ((g77 1047 0) = 0 → (S 1047 0) = 0 ∧ sm_KC (g77 26) (g77 27) (g77 28) (g77 29) (g77 1100007) (g77 1100023) (g77 1100024) (g77 1100025) (g77 31) (g77 1100009) (g77 1100027) (g77 1100028) (g77 1100026) (g77 1100030) (S 21) (S 32) (S 33) (g77 1046 0) (g77 1053 0) (S 1056 0) (S 1032 0) (S 1007 0) (g77 1100033 0) ∧ (g77 1100033 0) = (g77 1055 0) ∧ 0 ≤ (g77 1055 0) ∧ (g77 1055 0) ≤ (g77 1046 0) ∧ sm_LE (g77 39) (S 11) (S 12) (S 14) (S 1100001) (S 1100002) (S 1100005) (S 1066 0) ((g77 1066 0) - (1 : Int)) (S 1100002 p1) (S 1100005 p1) ((g77 1100007 (g77 1046 0)) - (S 1100007 (S 1046 0)) - 1) ∧ (g77 1100007 (g77 1046 0)) - (S 1100007 (S 1046 0)) ≤ (g77 1046 0) - (S 1046 0) ∧ (g77 1100007 (g77 1046 0)) = (S 1100007 (S 1046 0)) + ((g77 1100007 (g77 1046 0)) - (S 1100007 (S 1046 0))) ∧ (g77 1100023 (g77 1046 0)) = (S 1100023 (S 1046 0)) ∧ (g77 1100024 (g77 1046 0)) = (S 1100024 (S 1046 0)) ∧ (g77 1100025 (g77 1046 0)) = (S 1100025 (S 1046 0)) ∧ (g77 1100007 (g77 1100023 (g77 1046 0))) = (S 1100007 (S 1100023 (S 1046 0))) ∧ (g77 1100007 (g77 1100025 (g77 1046 0))) = (S 1100007 (S 1100025 (S 1046 0))) ∧ sm_FC (g77 29) (S 1046 0) (g77 1046 0) (S 1056 0) ∧ sm_AP (g77 1100030) (S 1053 0) (g77 1053 0) ∧ (g77 1053 0) ≤ (S 1053 0) + 3 * ((g77 1046 0) - (S 1046 0)) ∧ sm_HB (g77 1100007) (S 1046 0) (g77 1046 0) (2 * (S 1100007 (S 1046 0)) + ((g77 1046 0) - (S 1046 0)) + ((g77 1100007 (g77 1046 0)) - (S 1100007 (S 1046 0)) - 1) + 8 * (S 1100005 p1) + 10))) ∧ (((g77 1066 0) - (1 : Int))) < ((g77 1066 0)))) ∧ ((¬ (¬ (g77 1047 0) = (0 : Int))) → ((sm_LE (g77 39) (S 11) (S 12) (S 14) (S 1100001) (S 1100002) (S 1100005) (S 1066 0) (((g77 1066 0) - (1 : Int)) + 1) (S 1100002 p1) (S 1100005 p1) ((g77 1100007 (g77 1046 0)) - (S 1100007 (S 1046 0)) - 1) → (S 1066 0) ≤ ((g77 1066 0) - (1 : Int)) → ((S 1100001 (g77 39 ((g77 1066 0) - (1 : Int)))) = 1 ∧ ((S 11 (g77 39 ((g77 1066 0) - (1 : Int)))) = 3 ∨ (S 11 (g77 39 ((g77 1066 0) - (1 : Int)))) = 7 ∨ (S 11 (g77 39 ((g77 1066 0) - (1 : Int)))) = 8 ∨ (S 11 (g77 39 ((g77 1066 0) - (1 : Int)))) = 11 ∨ (S 11 (g77 39 ((g77 1066 0) - (1 : Int)))) = 12 ∨ (S 11 (g77 39 ((g77 1066 0) - (1 : Int)))) = 13) ∧ (S 1100002 (g77 39 ((g77 1066 0) - (1 : Int)))) ≤ (S 1100002 p1) ∧ (S 1100005 (g77 39 ((g77 1066 0) - (1 : Int)))) ≤ (S 1100005 p1)) ∧ sm_LE (g77 39) (S 11) (S 12) (S 14) (S 1100001) (S 1100002) (S 1100005) (S 1066 0) ((g77 1066 0) - (1 : Int)) (S 1100002 p1) (S 1100005 p1) ((g77 1100007 (g77 1046 0)) - (S 1100007 (S 1046 0)) - 1 - sm_cd (S 11) (S 12) (S 14) ((g77 39 ((g77 1066 0) - (1 : Int)))))) → ((sm_LF (g77 39) (S 1100002) (((g77 1066 0) - (1 : Int)) + 1) (S 1024 0) (-1) → 0 ≤ ((g77 1066 0) - (1 : Int)) → sm_LF (g77 39) (S 1100002) ((g77 1066 0) - (1 : Int)) (S 1024 0) (12001 * (S 1100002 (g77 39 ((g77 1066 0) - (1 : Int)))) + (g77 39 ((g77 1066 0) - (1 : Int)))) ∧ 0 ≤ (g77 39 ((g77 1066 0) - (1 : Int))) ∧ (g77 39 ((g77 1066 0) - (1 : Int))) < (S 1024 0) ∧ -1 < 12001 * (S 1100002 (g77 39 ((g77 1066 0) - (1 : Int)))) + (g77 39 ((g77 1066 0) - (1 : Int)))) → ((sm_WF (S 11) (S 12) (S 13) (S 1100001) (S 1100002) (S 1100005) (S 1100003) (S 1100004) (S 1024 0) (S 1007 0) (S 1009 0) (sm_fn (S 1032 0) (S 21) (S 1056 0)) → 0 ≤ (g77 39 ((g77 1066 0) - (1 : Int))) → (g77 39 ((g77 1066 0) - (1 : Int))) < (S 1024 0) → ((S 1100001 ((g77 39 ((g77 1066 0) - (1 : Int))))) = 1 → 0 ≤ (S 1100002 ((g77 39 ((g77 1066 0) - (1 : Int))))) ∧ ((S 11 ((g77 39 ((g77 1066 0) - (1 : Int))))) = 3 → (S 12 (5 * ((g77 39 ((g77 1066 0) - (1 : Int)))) + 1)) < ((g77 39 ((g77 1066 0) - (1 : Int))))) ∧ ((S 11 ((g77 39 ((g77 1066 0) - (1 : Int))))) = 4 ∨ (S 11 ((g77 39 ((g77 1066 0) - (1 : Int))))) = 5 ∨ (S 11 ((g77 39 ((g77 1066 0) - (1 : Int))))) = 8 ∨ (S 11 ((g77 39 ((g77 1066 0) - (1 : Int))))) = 9 → 17 * (S 1100005 ((g77 39 ((g77 1066 0) - (1 : Int))))) + 2 ≤ (S 1100002 ((g77 39 ((g77 1066 0) - (1 : Int)))))) ∧ 0 ≤ (S 1100005 ((g77 39 ((g77 1066 0) - (1 : Int)))))) ∧ ((S 1100001 ((g77 39 ((g77 1066 0) - (1 : Int))))) = 2 → 0 ≤ (S 1100005 ((g77 39 ((g77 1066 0) - (1 : Int))))) ∧ (S 1100002 ((g77 39 ((g77 1066 0) - (1 : Int))))) ≤ 17 * (S 1100005 ((g77 39 ((g77 1066 0) - (1 : Int))))) + 5 ∧ ((S 11 ((g77 39 ((g77 1066 0) - (1 : Int))))) = 33 → 1 ≤ (S 1100005 ((g77 39 ((g77 1066 0) - (1 : Int))))))) ∧ ((S 1100001 ((g77 39 ((g77 1066 0) - (1 : Int))))) = 6 → 0 ≤ (S 1100002 ((g77 39 ((g77 1066 0) - (1 : Int))))) ∧ 1 ≤ (S 1100004 ((g77 39 ((g77 1066 0) - (1 : Int))))) ∧ ((S 12 (5 * ((g77 39 ((g77 1066 0) - (1 : Int)))))) = - 1 → (S 1100004 ((g77 39 ((g77 1066 0) - (1 : Int))))) = 2)) ∧ ((S 1100001 ((g77 39 ((g77 1066 0) - (1 : Int))))) = 3 → 1 ≤ (S 1100002 ((g77 39 ((g77 1066 0) - (1 : Int))))))) → (((S 11 (g77 39 ((g77 1066 0) - (1 : Int)))) = 8 → ¬ ((S 11 (S 12 (5 * (g77 39 ((g77 1066 0) - (1 : Int)))))) = 7 ∧ (S 14 (S 12 (5 * (g77 39 ((g77 1066 0) - (1 : Int)))))) = 0) → sm_cd (S 11) (S 12) (S 14) ((g77 39 ((g77 1066 0) - (1 : Int)))) = 1) → ((¬ (S 11 (g77 39 ((g77 1066 0) - (1 : Int)))) = 8 → sm_cd (S 11) (S 12) (S 14) ((g77 39 ((g77 1066 0) - (1 : Int)))) = 0) → (((S 11 (S 12 (5 * (g77 39 ((g77 1066 0) - (1 : Int)))))) = 7 ∧ (S 14 (S 12 (5 * (g77 39 ((g77 1066 0) - (1 : Int)))))) = 0 → sm_cd (S 11) (S 12) (S 14) ((g77 39 ((g77 1066 0) - (1 : Int)))) = 0) → ((0 ≤ sm_cd (S 11) (S 12) (S 14) ((g77 39 ((g77 1066 0) - (1 : Int)))) ∧ sm_cd (S 11) (S 12) (S 14) ((g77 39 ((g77 1066 0) - (1 : Int)))) ≤ 1) → ((sm_LE (g77 39) (S 11) (S 12) (S 14) (S 1100001) (S 1100002) (S 1100005) (S 1066 0) ((g77 1066 0) - (1 : Int)) (S 1100002 p1) (S 1100005 p1) ((g77 1100007 (g77 1046 0)) - (S 1100007 (S 1046 0)) - 1 - sm_cd (S 11) (S 12) (S 14) ((g77 39 ((g77 1066 0) - (1 : Int))))) → (S 1066 0) ≤ ((g77 1066 0) - (1 : Int)) ∧ 0 ≤ (g77 1100007 (g77 1046 0)) - (S 1100007 (S 1046 0)) - 1 - sm_cd (S 11) (S 12) (S 14) ((g77 39 ((g77 1066 0) - (1 : Int)))) ∧ (((g77 1066 0) - (1 : Int)) = (S 1066 0) → (g77 1100007 (g77 1046 0)) - (S 1100007 (S 1046 0)) - 1 - sm_cd (S 11) (S 12) (S 14) ((g77 39 ((g77 1066 0) - (1 : Int)))) = 0)) → (0 ≤ ((g77 1066 0) - (1 : Int)) ∧ ((g77 1066 0) - (1 : Int)) < 12000) ∧ (sv_R (g77 39 ((g77 1066 0) - (1 : Int))) → (sm_WF (S 11) (S 12) (S 13) (S 1100001) (S 1100002) (S 1100005) (S 1100003) (S 1100004) (S 1024 0) (S 1007 0) (S 1009 0) (sm_fn (S 1032 0) (S 21) (S 1056 0)) ∧ (S 1009 0) = 0 ∧ 0 ≤ (S 1007 0) ∧ (S 1007 0) ≤ 90 ∧ 0 ≤ (S 1024 0) ∧ (S 1024 0) ≤ 12000 ∧ 1 ≤ (S 1032 0) ∧ (S 1032 0) ≤ 11 ∧ 0 ≤ (S 1056 0) ∧ (S 1056 0) < (S 1032 0) ∧ sm_VB (S 33) (S 21) (S 1032 0) ∧ 0 ≤ (g77 1046 0) ∧ (g77 1046 0) ≤ 600 ∧ 0 ≤ (g77 1047 0) ∧ (g77 1047 0) ≤ 1 ∧ 0 ≤ (g77 1053 0) ∧ 0 ≤ ((g77 1066 0) - (1 : Int)) ∧ 0 ≤ (g77 39 ((g77 1066 0) - (1 : Int))) ∧ (g77 39 ((g77 1066 0) - (1 : Int))) < (S 1024 0) ∧ (S 1100001 (g77 39 ((g77 1066 0) - (1 : Int)))) = 1 ∧ ((S 11 (g77 39 ((g77 1066 0) - (1 : Int)))) = 3 ∨ (S 11 (g77 39 ((g77 1066 0) - (1 : Int)))) = 7 ∨ (S 11 (g77 39 ((g77 1066 0) - (1 : Int)))) = 8 ∨ (S 11 (g77 39 ((g77 1066 0) - (1 : Int)))) = 11 ∨ (S 11 (g77 39 ((g77 1066 0) - (1 : Int)))) = 12 ∨ (S 11 (g77 39 ((g77 1066 0) - (1 : Int)))) = 13) ∧ sm_LF (g77 39) (S 1100002) ((g77 1066 0) - (1 : Int)) (S 1024 0) (12001 * (S 1100002 (g77 39 ((g77 1066 0) - (1 : Int)))) + (g77 39 ((g77 1066 0) - (1 : Int)))) ∧ (g77 1047 0) = 0 ∧ (1 + sm_cd (S 11) (S 12) (S 14) ((g77 39 ((g77 1066 0) - (1 : Int))))) ≤ (g77 1100007 (g77 1046 0)) ∧ 1 ≤ (g77 1046 0) ∧ sm_KC (g77 26) (g77 27) (g77 28) (g77 29) (g77 1100007) (g77 1100023) (g77 1100024) (g77 1100025) (g77 31) (g77 1100009) (g77 1100027) (g77 1100028) (g77 1100026) (g77 1100030) (S 21) (S 32) (S 33) (g77 1046 0) (g77 1053 0) (S 1056 0) (S 1032 0) (S 1007 0) (g77 1100033 0) ∧ (g77 1100033 0) = (g77 1055 0) ∧ 0 ≤ (g77 1055 0) ∧ (g77 1055 0) ≤ (g77 1046 0) ∧ (0 ≤ (g77 1100023 (g77 1046 0)) → (g77 1100007 (g77 1100023 (g77 1046 0))) ≤ (g77 1100007 (g77 1046 0)) - (1 + sm_cd (S 11) (S 12) (S 14) ((g77 39 ((g77 1066 0) - (1 : Int)))))) ∧ (0 ≤ (g77 1100025 (g77 1046 0)) → (g77 1100007 (g77 1100025 (g77 1046 0))) ≤ (g77 1100007 (g77 1046 0)) - (1 + sm_cd (S 11) (S 12) (S 14) ((g77 39 ((g77 1066 0) - (1 : Int)))))) ∧ (g77 1100007 (g77 1046 0)) ≤ (g77 1046 0) ∧ (g77 1053 0) + 3 * (600 - (g77 1046 0)) + (S 1100002 (g77 39 ((g77 1066 0) - (1 : Int)))) ≤ 8000) ∧ (0 ≤ ((S 1100002 (g77 39 ((g77 1066 0) - (1 : Int)))) + (600 - (g77 1046 0)) + 8) ∧ ((S 1100002 (g77 39 ((g77 1066 0) - (1 : Int)))) + (600 - (g77 1046 0)) + 8) < d) ∧ (0 ≤ ((S 1100002 (g77 39 ((g77 1066 0) - (1 : Int)))) + (600 - (g77 1046 0)) + 8) ∧ ((S 1100002 (g77 39 ((g77 1066 0) - (1 : Int)))) + (600 - (g77 1046 0)) + 8) + 1 ≤ ((if (S 1047 0) = 0 then (S 1100002 p1) + (600 - (S 1046 0)) + 8 else 4))) ∧ (∀ g104 : sv_S, (0 ≤ (g104 1046 0) ∧ (g104 1046 0) ≤ 600 ∧ 0 ≤ (g104 1047 0) ∧ (g104 1047 0) ≤ 1 ∧ 0 ≤ (g104 1053 0) ∧ 0 ≤ (g104 1066 0) ∧ (g77 1046 0) ≤ (g104 1046 0) ∧ ((g77 1047 0) = 1 → (g104 1047 0) = 1) ∧ sm_F1 (g77 26) (g104 26) (g77 1046 0) ∧ sm_F1 (g77 27) (g104 27) (g77 1046 0) ∧ sm_F1 (g77 28) (g104 28) (g77 1046 0) ∧ sm_F1 (g77 29) (g104 29) (g77 1046 0) ∧ sm_F1 (g77 1100007) (g104 1100007) ((g77 1046 0) + 1) ∧ sm_F1 (g77 1100023) (g104 1100023) ((g77 1046 0) + 1) ∧ sm_F1 (g77 1100024) (g104 1100024) ((g77 1046 0) + 1) ∧ sm_F1 (g77 1100025) (g104 1100025) ((g77 1046 0) + 1) ∧ sm_F1 (g77 1100009) (g104 1100009) (g77 1053 0) ∧ sm_F1 (g77 1100027) (g104 1100027) (g77 1053 0) ∧ sm_F1 (g77 1100028) (g104 1100028) (g77 1053 0) ∧ sm_F1 (g77 1100026) (g104 1100026) (g77 1053 0) ∧ sm_F1 (g77 1100030) (g104 1100030) (g77 1053 0) ∧ sm_F1 (g77 31) (g104 31) (g77 1053 0) ∧ (g77 1053 0) ≤ (g104 1053 0) ∧ (g104 1066 0) = ((g77 1066 0) - (1 : Int)) ∧ sm_F1 (g77 39) (g104 39) ((g77 1066 0) - (1 : Int)) ∧ ((g77 1047 0) = 1 → (g104 1053 0) = (g77 1053 0)) ∧ ((g77 1047 0) = 0 → (g104 1053 0) ≤ (g77 1053 0) + 3 * (600 - (g77 1046 0)) + (S 1100002 (g77 39 ((g77 1066 0) - (1 : Int))))) ∧ ((g104 1047 0) = 0 → (g77 1047 0) = 0 ∧ sm_KC (g104 26) (g104 27) (g104 28) (g104 29) (g104 1100007) (g104 1100023) (g104 1100024) (g104 1100025) (g104 31) (g104 1100009) (g104 1100027) (g104 1100028) (g104 1100026) (g104 1100030) (S 21) (S 32) (S 33) (g104 1046 0) (g104 1053 0) (S 1056 0) (S 1032 0) (S 1007 0) (g104 1100033 0) ∧ (g104 1100033 0) = (g104 1055 0) ∧ 0 ≤ (g104 1055 0) ∧ (g104 1055 0) ≤ (g104 1046 0) ∧ (g77 1046 0) + 1 ≤ (g104 1046 0) ∧ sm_FC (g104 29) (g77 1046 0) (g104 1046 0) (S 1056 0) ∧ (g104 1100007 (g104 1046 0)) = (g77 1100007 (g77 1046 0)) + (0 - sm_cd (S 11) (S 12) (S 14) ((g77 39 ((g77 1066 0) - (1 : Int))))) ∧ (g104 1100023 (g104 1046 0)) = (g77 1100023 (g77 1046 0)) ∧ (g104 1100024 (g104 1046 0)) = (g77 1100024 (g77 1046 0)) ∧ (g104 1100025 (g104 1046 0)) = (g77 1100025 (g77 1046 0)) ∧ (g104 1100007 (g104 1100023 (g104 1046 0))) = (g77 1100007 (g77 1100023 (g77 1046 0))) ∧ (g104 1100007 (g104 1100025 (g104 1046 0))) = (g77 1100007 (g77 1100025 (g77 1046 0))) ∧ sm_AP (g104 1100030) (g77 1053 0) (g104 1053 0) ∧ sm_HB (g104 1100007) (g77 1046 0) (g104 1046 0) (2 * ((g77 1100007 (g77 1046 0)) - (1 + sm_cd (S 11) (S 12) (S 14) ((g77 39 ((g77 1066 0) - (1 : Int)))))) + (1 + sm_cd (S 11) (S 12) (S 14) ((g77 39 ((g77 1066 0) - (1 : Int))))) + ((g104 1046 0) - (g77 1046 0)) + 8 * (S 1100005 (g77 39 ((g77 1066 0) - (1 : Int)))) + 10) ∧ (g104 1053 0) ≤ (g77 1053 0) + 3 * ((g104 1046 0) - (g77 1046 0)) ∧ True)) → ((0 ≤ (g104 1046 0) ∧ (g104 1046 0) ≤ 600 ∧ 0 ≤ (g104 1047 0) ∧ (g104 1047 0) ≤ 1 ∧ 0 ≤ (g104 1053 0) ∧ 0 ≤ (g104 1066 0) ∧ (S 1046 0) ≤ (g104 1046 0) ∧ ((S 1047 0) = 1 → (g104 1047 0) = 1) ∧ sm_F1 (S 26) (g104 26) (S 1046 0) ∧ sm_F1 (S 27) (g104 27) (S 1046 0) ∧ sm_F1 (S 28) (g104 28) (S 1046 0) ∧ sm_F1 (S 29) (g104 29) (S 1046 0) ∧ sm_F1 (S 1100007) (g104 1100007) ((S 1046 0) + 1) ∧ sm_F1 (S 1100023) (g104 1100023) ((S 1046 0) + 1) ∧ sm_F1 (S 1100024) (g104 1100024) ((S 1046 0) + 1) ∧ sm_F1 (S 1100025) (g104 1100025) ((S 1046 0) + 1) ∧ (S 1066 0) ≤ (g104 1066 0) ∧ sm_F1 (S 39) (g104 39) (S 1066 0) ∧ sm_F1 (S 1100009) (g104 1100009) (S 1053 0) ∧ sm_F1 (S 1100027) (g104 1100027) (S 1053 0) ∧ sm_F1 (S 1100028) (g104 1100028) (S 1053 0) ∧ sm_F1 (S 1100026) (g104 1100026) (S 1053 0) ∧ sm_F1 (S 1100030) (g104 1100030) (S 1053 0) ∧ sm_F1 (S 31) (g104 31) (S 1053 0) ∧ (S 1053 0) ≤ (g104 1053 0) ∧ ((S 1047 0) = 1 → (g104 1053 0) = (S 1053 0)) ∧ ((S 1047 0) = 0 → (g104 1053 0) ≤ (S 1053 0) + 3 * (600 - (S 1046 0)) + (S 1100002 p1)) ∧ (¬ (g104 1066 0) = (S 1066 0) → sm_LF (g104 39) (S 1100002) (g104 1066 0) (S 1024 0) (-1)) ∧ ((g104 1047 0) = 0 → (S 1047 0) = 0 ∧ sm_KC (g104 26) (g104 27) (g104 28) (g104 29) (g104 1100007) (g104 1100023) (g104 1100024) (g104 1100025) (g104 31) (g104 1100009) (g104 1100027) (g104 1100028) (g104 1100026) (g104 1100030) (S 21) (S 32) (S 33) (g104 1046 0) (g104 1053 0) (S 1056 0) (S 1032 0) (S 1007 0) (g104 1100033 0) ∧ (g104 1100033 0) = (g104 1055 0) ∧ 0 ≤ (g104 1055 0) ∧ (g104 1055 0) ≤ (g104 1046 0) ∧ sm_LE (g104 39) (S 11) (S 12) (S 14) (S 1100001) (S 1100002) (S 1100005) (S 1066 0) (g104 1066 0) (S 1100002 p1) (S 1100005 p1) ((g104 1100007 (g104 1046 0)) - (S 1100007 (S 1046 0)) - 1) ∧ (g104 1100007 (g104 1046 0)) - (S 1100007 (S 1046 0)) ≤ (g104 1046 0) - (S 1046 0) ∧ (g104 1100007 (g104 1046 0)) = (S 1100007 (S 1046 0)) + ((g104 1100007 (g104 1046 0)) - (S 1100007 (S 1046 0))) ∧ (g104 1100023 (g104 1046 0)) = (S 1100023 (S 1046 0)) ∧ (g104 1100024 (g104 1046 0)) = (S 1100024 (S 1046 0)) ∧ (g104 1100025 (g104 1046 0)) = (S 1100025 (S 1046 0)) ∧ (g104 1100007 (g104 1100023 (g104 1046 0))) = (S 1100007 (S 1100023 (S 1046 0))) ∧ (g104 1100007 (g104 1100025 (g104 1046 0))) = (S 1100007 (S 1100025 (S 1046 0))) ∧ sm_FC (g104 29) (S 1046 0) (g104 1046 0) (S 1056 0) ∧ sm_AP (g104 1100030) (S 1053 0) (g104 1053 0) ∧ (g104 1053 0) ≤ (S 1053 0) + 3 * ((g104 1046 0) - (S 1046 0)) ∧ sm_HB (g104 1100007) (S 1046 0) (g104 1046 0) (2 * (S 1100007 (S 1046 0)) + ((g104 1046 0) - (S 1046 0)) + ((g104 1100007 (g104 1046 0)) - (S 1100007 (S 1046 0)) - 1) + 8 * (S 1100005 p1) + 10))) ∧ ((g104 1066 0)) < ((g77 1066 0)))))))))))))))))))))))))))) ∧ ((¬ ((sm_lfp (S 11) (S 12) (S 14) (l3_4)) = (-1 : Int))) → (0 ≤ l3_4 ∧ l3_4 < 12000) ∧ (sv_R (S 11 l3_4) → (((¬ (S 11 l3_4) = (8 : Int)) → (sv_R (g3 1066 0) → (0 ≤ (g3 1066 0) ∧ (g3 1066 0) < 12000) ∧ (sv_R ((g3 1066 0) + (1 : Int))) ∧ (∀ x121 : Int, (sm_lfp (S 11) (S 12) (S 14) (l3_4)) = x121 → ((0 ≤ (g3 1046 0) ∧ (g3 1046 0) ≤ 600 ∧ 0 ≤ (g3 1047 0) ∧ (g3 1047 0) ≤ 1 ∧ 0 ≤ (S 1053 0) ∧ 0 ≤ ((g3 1066 0) + (1 : Int)) ∧ (S 1046 0) ≤ (g3 1046 0) ∧ ((S 1047 0) = 1 → (g3 1047 0) = 1) ∧ sm_F1 (S 26) (g3 26) (S 1046 0) ∧ sm_F1 (S 27) (g3 27) (S 1046 0) ∧ sm_F1 (S 28) (g3 28) (S 1046 0) ∧ sm_F1 (S 29) (g3 29) (S 1046 0) ∧ sm_F1 (S 1100007) (g3 1100007) ((S 1046 0) + 1) ∧ sm_F1 (S 1100023) (g3 1100023) ((S 1046 0) + 1) ∧ sm_F1 (S 1100024) (g3 1100024) ((S 1046 0) + 1) ∧ sm_F1 (S 1100025) (g3 1100025) ((S 1046 0) + 1) ∧ (S 1066 0) ≤ ((g3 1066 0) + (1 : Int)) ∧ sm_F1 (S 39) (fun i' : Int => if i' = (g3 1066 0) then l3_4 else (g3 39) i') (S 1066 0) ∧ 0 ≤ x121 ∧ x121 < (S 1024 0) ∧ (S 1100001 x121) = 1 ∧ (S 1100002 x121) ≤ (S 1100002 p1) ∧ (S 1100005 x121) ≤ (S 1100005 p1) ∧ sm_LF (fun i' : Int => if i' = (g3 1066 0) then l3_4 else (g3 39) i') (S 1100002) ((g3 1066 0) + (1 : Int)) (S 1024 0) (12001 * (S 1100002 x121) + x121) ∧ ((g3 1047 0) = 0 → (S 1047 0) = 0 ∧ sm_KC (g3 26) (g3 27) (g3 28) (g3 29) (g3 1100007) (g3 1100023) (g3 1100024) (g3 1100025) (S 31) (S 1100009) (S 1100027) (S 1100028) (S 1100026) (S 1100030) (S 21) (S 32) (S 33) (g3 1046 0) (S 1053 0) (S 1056 0) (S 1032 0) (S 1007 0) (S 1100033 0) ∧ (S 1100033 0) = (S 1055 0) ∧ 0 ≤ (S 1055 0) ∧ (S 1055 0) ≤ (g3 1046 0) ∧ sm_LE (fun i' : Int => if i' = (g3 1066 0) then l3_4 else (g3 39) i') (S 11) (S 12) (S 14) (S 1100001) (S 1100002) (S 1100005) (S 1066 0) ((g3 1066 0) + (1 : Int)) (S 1100002 p1) (S 1100005 p1) ((g3 1100007 (g3 1046 0)) - (S 1100007 (S 1046 0))) ∧ (g3 1046 0) - (S 1046 0) = (g3 1100007 (g3 1046 0)) - (S 1100007 (S 1046 0)) ∧ (g3 1100007 (g3 1046 0)) = (S 1100007 (S 1046 0)) + ((g3 1046 0) - (S 1046 0)) ∧ (g3 1100023 (g3 1046 0)) = (S 1100023 (S 1046 0)) ∧ (g3 1100024 (g3 1046 0)) = (S 1100024 (S 1046 0)) ∧ (g3 1100025 (g3 1046 0)) = (S 1100025 (S 1046 0)) ∧ (g3 1100007 (g3 1100023 (g3 1046 0))) = (S 1100007 (S 1100023 (S 1046 0))) ∧ (g3 1100007 (g3 1100025 (g3 1046 0))) = (S 1100007 (S 1100025 (S 1046 0))) ∧ sm_HB (g3 1100007) (S 1046 0) (g3 1046 0) (2 * (S 1100007 (S 1046 0)) + 2 * ((g3 1046 0) - (S 1046 0))) ∧ sm_FC (g3 29) (S 1046 0) (g3 1046 0) (S 1056 0))) ∧ (x121) < (l3_4))))) ∧ ((¬ (¬ (S 11 l3_4) = (8 : Int))) → (0 ≤ l3_4 ∧ l3_4 < 12000 ∧ 0 ≤ (S 12 (5 * l3_4)) ∧ (S 12 (5 * l3_4)) < 12000) ∧ (1 + 1 ≤ ((if (S 1047 0) = 0 then (S 1100002 p1) + (600 - (S 1046 0)) + 8 else 4))) ∧ (((((S 11 (S 12 (5 * l3_4))) = 7 ∧ (S 14 (S 12 (5 * l3_4))) = 0)) → (sv_R (g3 1066 0) → (0 ≤ (g3 1066 0) ∧ (g3 1066 0) < 12000) ∧ (sv_R ((g3 1066 0) + (1 : Int))) ∧ (∀ x134 : Int, (sm_lfp (S 11) (S 12) (S 14) (l3_4)) = x134 → ((0 ≤ (g3 1046 0) ∧ (g3 1046 0) ≤ 600 ∧ 0 ≤ (g3 1047 0) ∧ (g3 1047 0) ≤ 1 ∧ 0 ≤ (S 1053 0) ∧ 0 ≤ ((g3 1066 0) + (1 : Int)) ∧ (S 1046 0) ≤ (g3 1046 0) ∧ ((S 1047 0) = 1 → (g3 1047 0) = 1) ∧ sm_F1 (S 26) (g3 26) (S 1046 0) ∧ sm_F1 (S 27) (g3 27) (S 1046 0) ∧ sm_F1 (S 28) (g3 28) (S 1046 0) ∧ sm_F1 (S 29) (g3 29) (S 1046 0) ∧ sm_F1 (S 1100007) (g3 1100007) ((S 1046 0) + 1) ∧ sm_F1 (S 1100023) (g3 1100023) ((S 1046 0) + 1) ∧ sm_F1 (S 1100024) (g3 1100024) ((S 1046 0) + 1) ∧ sm_F1 (S 1100025) (g3 1100025) ((S 1046 0) + 1) ∧ (S 1066 0) ≤ ((g3 1066 0) + (1 : Int)) ∧ sm_F1 (S 39) (fun i' : Int => if i' = (g3 1066 0) then l3_4 else (g3 39) i') (S 1066 0) ∧ 0 ≤ x134 ∧ x134 < (S 1024 0) ∧ (S 1100001 x134) = 1 ∧ (S 1100002 x134) ≤ (S 1100002 p1) ∧ (S 1100005 x134) ≤ (S 1100005 p1) ∧ sm_LF (fun i' : Int => if i' = (g3 1066 0) then l3_4 else (g3 39) i') (S 1100002) ((g3 1066 0) + (1 : Int)) (S 1024 0) (12001 * (S 1100002 x134) + x134) ∧ ((g3 1047 0) = 0 → (S 1047 0) = 0 ∧ sm_KC (g3 26) (g3 27) (g3 28) (g3 29) (g3 1100007) (g3 1100023) (g3 1100024) (g3 1100025) (S 31) (S 1100009) (S 1100027) (S 1100028) (S 1100026) (S 1100030) (S 21) (S 32) (S 33) (g3 1046 0) (S 1053 0) (S 1056 0) (S 1032 0) (S 1007 0) (S 1100033 0) ∧ (S 1100033 0) = (S 1055 0) ∧ 0 ≤ (S 1055 0) ∧ (S 1055 0) ≤ (g3 1046 0) ∧ sm_LE (fun i' : Int => if i' = (g3 1066 0) then l3_4 else (g3 39) i') (S 11) (S 12) (S 14) (S 1100001) (S 1100002) (S 1100005) (S 1066 0) ((g3 1066 0) + (1 : Int)) (S 1100002 p1) (S 1100005 p1) ((g3 1100007 (g3 1046 0)) - (S 1100007 (S 1046 0))) ∧ (g3 1046 0) - (S 1046 0) = (g3 1100007 (g3 1046 0)) - (S 1100007 (S 1046 0)) ∧ (g3 1100007 (g3 1046 0)) = (S 1100007 (S 1046 0)) + ((g3 1046 0) - (S 1046 0)) ∧ (g3 1100023 (g3 1046 0)) = (S 1100023 (S 1046 0)) ∧ (g3 1100024 (g3 1046 0)) = (S 1100024 (S 1046 0)) ∧ (g3 1100025 (g3 1046 0)) = (S 1100025 (S 1046 0)) ∧ (g3 1100007 (g3 1100023 (g3 1046 0))) = (S 1100007 (S 1100023 (S 1046 0))) ∧ (g3 1100007 (g3 1100025 (g3 1046 0))) = (S 1100007 (S 1100025 (S 1046 0))) ∧ sm_HB (g3 1100007) (S 1046 0) (g3 1046 0) (2 * (S 1100007 (S 1046 0)) + 2 * ((g3 1046 0) - (S 1046 0))) ∧ sm_FC (g3 29) (S 1046 0) (g3 1046 0) (S 1056 0))) ∧ (x134) < (l3_4))))) ∧ ((¬ (((S 11 (S 12 (5 * l3_4))) = 7 ∧ (S 14 (S 12 (5 * l3_4))) = 0))) → (0 ≤ (g3 1046 0) ∧ (g3 1046 0) ≤ 600 ∧ 0 ≤ (g3 1047 0) ∧ (g3 1047 0) ≤ 1 ∧ ((g3 1047 0) = 0 → sm_KC (g3 26) (g3 27) (g3 28) (g3 29) (g3 1100007) (g3 1100023) (g3 1100024) (g3 1100025) (S 31) (S 1100009) (S 1100027) (S 1100028) (S 1100026) (S 1100030) (S 21) (S 32) (S 33) (g3 1046 0) (S 1053 0) (S 1056 0) (S 1032 0) (S 1007 0) (S 1100033 0) ∧ 0 ≤ (0 : Int) ∧ (0 : Int) ≤ 6 ∧ ((0 : Int) = 6 → 0 ≤ (0 : Int) ∧ (0 : Int) < (S 1007 0)) ∧ (0 ≤ (g3 1100023 (g3 1046 0)) → (g3 1100007 (g3 1100023 (g3 1046 0))) ≤ (g3 1100007 (g3 1046 0))) ∧ (0 ≤ (g3 1100025 (g3 1046 0)) → (g3 1100007 (g3 1100025 (g3 1046 0))) ≤ (g3 1100007 (g3 1046 0))))) ∧ (∀ g137 : sv_S, (0 ≤ (g137 1047 0) ∧ (g137 1047 0) ≤ 1 ∧ 1 ≤ (g137 1046 0) ∧ (g3 1046 0) ≤ (g137 1046 0) ∧ (g137 1046 0) ≤ (g3 1046 0) + 1 ∧ (g137 1046 0) ≤ 600 ∧ ((g3 1047 0) = 1 → (g137 1047 0) = 1) ∧ ((g137 1047 0) = 1 → (g3 1047 0) = 1 ∨ (g3 1046 0) = 600) ∧ sm_F1 (g3 26) (g137 26) (g3 1046 0) ∧ sm_F1 (g3 27) (g137 27) (g3 1046 0) ∧ sm_F1 (g3 28) (g137 28) (g3 1046 0) ∧ sm_F1 (g3 29) (g137 29) (g3 1046 0) ∧ sm_F1 (g3 1100007) (g137 1100007) ((g3 1046 0) + 1) ∧ sm_F1 (g3 1100023) (g137 1100023) ((g3 1046 0) + 1) ∧ sm_F1 (g3 1100024) (g137 1100024) ((g3 1046 0) + 1) ∧ sm_F1 (g3 1100025) (g137 1100025) ((g3 1046 0) + 1) ∧ ((g137 1047 0) = 0 → (g3 1047 0) = 0 ∧ (g137 1046 0) = (g3 1046 0) + 1 ∧ sm_KC (g137 26) (g137 27) (g137 28) (g137 29) (g137 1100007) (g137 1100023) (g137 1100024) (g137 1100025) (S 31) (S 1100009) (S 1100027) (S 1100028) (S 1100026) (S 1100030) (S 21) (S 32) (S 33) (g137 1046 0) (S 1053 0) (S 1056 0) (S 1032 0) (S 1007 0) (S 1100033 0) ∧ sm_MB (S 31) (S 1100030) (S 1053 0) (g137 1046 0) ∧ (g137 26 (g3 1046 0)) = (0 : Int) ∧ (g137 29 (g3 1046 0)) = (S 1056 0) ∧ (g137 1100007 (g137 1046 0)) = ((g3 1100007 (g3 1046 0)) + sm_dl (0 : Int) ((0 : Int))) ∧ (g137 1100023 (g137 1046 0)) = (sm_nt (0 : Int) (g3 1046 0) (g3 1100023 (g3 1046 0)) (g3 1100023 (g3 1100023 (g3 1046 0)))) ∧ (g137 1100024 (g137 1046 0)) = (sm_nd (0 : Int) (g3 1100024 (g3 1046 0))) ∧ (g137 1100025 (g137 1046 0)) = (sm_nl (0 : Int) (g3 1046 0) (g3 1100007 (g3 1046 0)) (g3 1100025 (g3 1046 0)) (g3 1100007 (g3 1100025 (g3 1046 0))) (g3 1100025 (g3 1100025 (g3 1046 0)))) ∧ (g137 1100007 (g137 1100023 (g137 1046 0))) = sm_nt (0 : Int) (g3 1100007 (g3 1046 0)) (g3 1100007 (g3 1100023 (g3 1046 0))) (g3 1100007 (g3 1100023 (g3 1100023 (g3 1046 0)))) ∧ ((0 : Int) = 29 → (g137 1100007 (g137 1100025 (g137 1046 0))) = (g3 1100007 (g3 1046 0))) ∧ ((0 : Int) = 17 → 0 ≤ (g3 1100025 (g3 1046 0)) → (g3 1100007 (g3 1100025 (g3 1046 0))) = (g3 1100007 (g3 1046 0)) → (g137 1100007 (g137 1100025 (g137 1046 0))) = (g3 1100007 (g3 1100025 (g3 1100025 (g3 1046 0))))) ∧ (¬ (0 : Int) = 29 → ((0 : Int) = 17 → 0 ≤ (g3 1100025 (g3 1046 0)) → (g3 1100007 (g3 1100025 (g3 1046 0))) < (g3 1100007 (g3 1046 0))) → (g137 1100007 (g137 1100025 (g137 1046 0))) = (g3 1100007 (g3 1100025 (g3 1046 0)))))) → (sv_R (g3 1066 0) → (0 ≤ (g3 1066 0) ∧ (g3 1066 0) < 12000) ∧ (sv_R ((g3 1066 0) + (1 : Int))) ∧ (∀ x152 : Int, (sm_lfp (S 11) (S 12) (S 14) (l3_4)) = x152 → ((0 ≤ (g137 1046 0) ∧ (g137 1046 0) ≤ 600 ∧ 0 ≤ (g137 1047 0) ∧ (g137 1047 0) ≤ 1 ∧ 0 ≤ (S 1053 0) ∧ 0 ≤ ((g3 1066 0) + (1 : Int)) ∧ (S 1046 0) ≤ (g137 1046 0) ∧ ((S 1047 0) = 1 → (g137 1047 0) = 1) ∧ sm_F1 (S 26) (g137 26) (S 1046 0) ∧ sm_F1 (S 27) (g137 27) (S 1046 0) ∧ sm_F1 (S 28) (g137 28) (S 1046 0) ∧ sm_F1 (S 29) (g137 29) (S 1046 0) ∧ sm_F1 (S 1100007) (g137 1100007) ((S 1046 0) + 1) ∧ sm_F1 (S 1100023) (g137 1100023) ((S 1046 0) + 1) ∧ sm_F1 (S 1100024) (g137 1100024) ((S 1046 0) + 1) ∧ sm_F1 (S 1100025) (g137 1100025) ((S 1046 0) + 1) ∧ (S 1066 0) ≤ ((g3 1066 0) + (1 : Int)) ∧ sm_F1 (S 39) (fun i' : Int => if i' = (g3 1066 0) then l3_4 else (g3 39) i') (S 1066 0) ∧ 0 ≤ x152 ∧ x152 < (S 1024 0) ∧ (S 1100001 x152) = 1 ∧ (S 1100002 x152) ≤ (S 1100002 p1) ∧ (S 1100005 x152) ≤ (S 1100005 p1) ∧ sm_LF (fun i' : Int => if i' = (g3 1066 0) then l3_4 else (g3 39) i') (S 1100002) ((g3 1066 0) + (1 : Int)) (S 1024 0) (12001 * (S 1100002 x152) + x152) ∧ ((g137 1047 0) = 0 → (S 1047 0) = 0 ∧ sm_KC (g137 26) (g137 27) (g137 28) (g137 29) (g137 1100007) (g137 1100023) (g137 1100024) (g137 1100025) (S 31) (S 1100009) (S 1100027) (S 1100028) (S 1100026) (S 1100030) (S 21) (S 32) (S 33) (g137 1046 0) (S 1053 0) (S 1056 0) (S 1032 0) (S 1007 0) (S 1100033 0) ∧ (S 1100033 0) = (S 1055 0) ∧ 0 ≤ (S 1055 0) ∧ (S 1055 0) ≤ (g137 1046 0) ∧ sm_LE (fun i' : Int => if i' = (g3 1066 0) then l3_4 else (g3 39) i') (S 11) (S 12) (S 14) (S 1100001) (S 1100002) (S 1100005) (S 1066 0) ((g3 1066 0) + (1 : Int)) (S 1100002 p1) (S 1100005 p1) ((g137 1100007 (g137 1046 0)) - (S 1100007 (S 1046 0))) ∧ (g137 1046 0) - (S 1046 0) = (g137 1100007 (g137 1046 0)) - (S 1100007 (S 1046 0)) ∧ (g137 1100007 (g137 1046 0)) = (S 1100007 (S 1046 0)) + ((g137 1046 0) - (S 1046 0)) ∧ (g137 1100023 (g137 1046 0)) = (S 1100023 (S 1046 0)) ∧ (g137 1100024 (g137 1046 0)) = (S 1100024 (S 1046 0)) ∧ (g137 1100025 (g137 1046 0)) = (S 1100025 (S 1046 0)) ∧ (g137 1100007 (g137 1100023 (g137 1046 0))) = (S 1100007 (S 1100023 (S 1046 0))) ∧ (g137 1100007 (g137 1100025 (g137 1046 0))) = (S 1100007 (S 1100025 (S 1046 0))) ∧ sm_HB (g137 1100007) (S 1046 0) (g137 1046 0) (2 * (S 1100007 (S 1046 0)) + 2 * ((g137 1046 0) - (S 1046 0))) ∧ sm_FC (g137 29) (S 1046 0) (g137 1046 0) (S 1056 0))) ∧ (x152) < (l3_4))))))))))))))))))))))))))) := by
  intro d
  intro p1
  intro S
  intro h1_
  intro h2_
  rintro ⟨h3_, ⟨h4_, ⟨h5_, ⟨h6_, ⟨h7_, ⟨h8_, ⟨h9_, ⟨h10_, ⟨h11_, ⟨h12_, ⟨h13_, ⟨h14_, ⟨h15_, ⟨h16_, ⟨h17_, ⟨h18_, ⟨h19_, ⟨h20_, ⟨h21_, ⟨h22_, ⟨h23_, h24_⟩⟩⟩⟩⟩⟩⟩⟩⟩⟩⟩⟩⟩⟩⟩⟩⟩⟩⟩⟩⟩
  intro h25_
  intro h26_
  intro h27_
  have h28_ := (h27_ h3_)
  have h29_ := (h28_ h20_)
  obtain ⟨h30_, ⟨h31_, ⟨h32_, h33_⟩⟩⟩ := (h29_ h21_)
  obtain ⟨h34_, ⟨h35_, ⟨h36_, h37_⟩⟩⟩ := (h30_ h22_)
  refine ⟨?_, ?_⟩
  · skip
    refine ⟨h14_, ?_⟩
    refine ⟨h15_, ?_⟩
    refine ⟨h16_, ?_⟩
    refine ⟨h17_, ?_⟩
    refine ⟨h18_, ?_⟩
    refine ⟨h19_, ?_⟩
    refine ⟨la_value_3, ?_⟩
    refine ⟨la_value_4, ?_⟩
    refine ⟨sm_F1_rf, ?_⟩
    refine ⟨sm_F1_rf, ?_⟩
    refine ⟨sm_F1_rf, ?_⟩
    refine ⟨sm_F1_rf, ?_⟩
    refine ⟨sm_F1_rf, ?_⟩
    refine ⟨sm_F1_rf, ?_⟩
    refine ⟨sm_F1_rf, ?_⟩
    refine ⟨sm_F1_rf, ?_⟩
    refine ⟨la_value_3, ?_⟩
    refine ⟨sm_F1_rf, ?_⟩
    refine ⟨h20_, ?_⟩
    refine ⟨h21_, ?_⟩
    refine ⟨h22_, ?_⟩
    refine ⟨la_value_3, ?_⟩
    refine ⟨la_value_3, ?_⟩
    refine ⟨h23_, ?_⟩
    intro h38_
    have e39_ : (if S 1047 0 = 0 then S 1100002 p1 + (600 - S 1046 0) + 8 else 4 : Int) = S 1100002 p1 + (600 - S 1046 0) + 8 := if_pos h38_
    obtain ⟨h40_, ⟨h41_, ⟨h42_, ⟨h43_, ⟨h44_, ⟨h45_, ⟨h46_, h47_⟩⟩⟩⟩⟩⟩⟩ := (h24_ h38_)
    refine ⟨h38_, ?_⟩
    refine ⟨h40_, ?_⟩
    refine ⟨h41_, ?_⟩
    refine ⟨h42_, ?_⟩
    refine ⟨h43_, ?_⟩
    refine ⟨(sm_LE_0 la_value_5 la_value_6), ?_⟩
    refine ⟨la_value_7, ?_⟩
    refine ⟨la_value_8, ?_⟩
    refine ⟨la_value_5, ?_⟩
    refine ⟨la_value_5, ?_⟩
    refine ⟨la_value_5, ?_⟩
    refine ⟨la_value_5, ?_⟩
    refine ⟨la_value_5, ?_⟩
    refine ⟨(sm_HB_0 la_value_3), ?_⟩
    exact (sm_FC_0 la_value_3)
  intro l3_4
  intro h48_
  intro g3
  rintro ⟨h49_, ⟨h50_, ⟨h51_, ⟨h52_, ⟨h53_, ⟨h54_, ⟨h55_, ⟨h56_, ⟨h57_, ⟨h58_, ⟨h59_, ⟨h60_, ⟨h61_, ⟨h62_, ⟨h63_, ⟨h64_, ⟨h65_, ⟨h66_, ⟨h67_, ⟨h68_, ⟨h69_, ⟨h70_, ⟨h71_, ⟨h72_, h73_⟩⟩⟩⟩⟩⟩⟩⟩⟩⟩⟩⟩⟩⟩⟩⟩⟩⟩⟩⟩⟩⟩⟩⟩
  refine ⟨h67_, ?_⟩
  rintro ⟨h74_, h75_⟩
  refine ⟨?_, ?_⟩
  · skip
    intro h76_
    intro h77_
    have h78_ := (h77_ h3_)
    have h79_ := (h78_ h67_)
    have h80_ := (h79_ h68_)
    have h81_ := (h80_ h69_)
    intro h82_
    have h83_ := (h82_ h3_)
    have h84_ := (h83_ h67_)
    obtain ⟨h85_, ⟨h86_, ⟨h87_, h88_⟩⟩⟩ := (h84_ h68_)
    obtain ⟨h89_, ⟨h90_, ⟨h91_, h92_⟩⟩⟩ := (h85_ h69_)
    intro h93_
    refine ⟨?_, ?_⟩
    · skip
      refine ⟨h3_, ?_⟩
      refine ⟨h4_, ?_⟩
      refine ⟨h5_, ?_⟩
      refine ⟨h6_, ?_⟩
      refine ⟨h7_, ?_⟩
      refine ⟨h8_, ?_⟩
      refine ⟨h9_, ?_⟩
      refine ⟨h10_, ?_⟩
      refine ⟨h11_, ?_⟩
      refine ⟨h12_, ?_⟩
      refine ⟨h13_, ?_⟩
      refine ⟨h49_, ?_⟩
      refine ⟨h50_, ?_⟩
      refine ⟨h51_, ?_⟩
      refine ⟨h52_, ?_⟩
      refine ⟨h18_, ?_⟩
      refine ⟨h54_, ?_⟩
      refine ⟨h67_, ?_⟩
      refine ⟨h68_, ?_⟩
      refine ⟨h69_, ?_⟩
      refine ⟨h72_, ?_⟩
      intro h94_
      have e95_ : (if S 1047 0 = 0 then S 1100002 p1 + (600 - S 1046 0) + 8 else 4 : Int) = S 1100002 p1 + (600 - S 1046 0) + 8 := if_pos (la_value_10 (la_value_9 h51_ h76_) h94_)
      have h96_ := (h56_ (la_value_11 (la_value_9 h51_ h76_) h94_))
      refine ⟨?_, ?_⟩
      · skip
        exact ((la_value_12 h94_ h96_)).elim
      refine ⟨?_, ?_⟩
      · skip
        exact ((la_value_12 h94_ h96_)).elim
      refine ⟨?_, ?_⟩
      · skip
        exact ((la_value_12 h94_ h96_)).elim
      refine ⟨?_, ?_⟩
      · skip
        exact ((la_value_12 h94_ h96_)).elim
      refine ⟨?_, ?_⟩
      · skip
        exact ((la_value_12 h94_ h96_)).elim
      refine ⟨?_, ?_⟩
      · skip
        intro h97_
        exact ((la_value_13 (la_value_9 h51_ h76_) h94_)).elim
      refine ⟨?_, ?_⟩
      · skip
        intro h98_
        exact ((la_value_13 (la_value_9 h51_ h76_) h94_)).elim
      refine ⟨?_, ?_⟩
      · skip
        exact ((la_value_12 h94_ h96_)).elim
      exact ((la_value_12 h94_ h96_)).elim
    refine ⟨?_, ?_⟩
    · skip
      refine ⟨?_, ?_⟩
      · skip
        have e99_ : (if g3 1047 0 = 0 then S 1100002 l3_4 + (600 - g3 1046 0) + 7 else 3 : Int) = 3 := if_neg h76_
        exact (la_value_14 e99_)
      have e100_ : (if g3 1047 0 = 0 then S 1100002 l3_4 + (600 - g3 1046 0) + 7 else 3 : Int) = 3 := if_neg h76_
      by_cases c101_ : S 1047 0 = 0
      · skip
        have e102_ : (if S 1047 0 = 0 then S 1100002 p1 + (600 - S 1046 0) + 8 else 4 : Int) = S 1100002 p1 + (600 - S 1046 0) + 8 := if_pos c101_
        obtain ⟨h103_, ⟨h104_, ⟨h105_, ⟨h106_, ⟨h107_, ⟨h108_, ⟨h109_, h110_⟩⟩⟩⟩⟩⟩⟩ := (h24_ c101_)
        exact (la_value_16 h15_ h25_ h34_ e100_ e102_)
      · skip
        have e111_ : (if S 1047 0 = 0 then S 1100002 p1 + (600 - S 1046 0) + 8 else 4 : Int) = 4 := if_neg c101_
        have h112_ := (h56_ (la_value_17 h17_ (la_value_9 h16_ c101_)))
        exact (la_value_18 h25_ e100_ e111_)
    refine ⟨?_, ?_⟩
    · skip
      refine ⟨?_, ?_⟩
      · skip
        have e113_ : (if g3 1047 0 = 0 then S 1100002 l3_4 + (600 - g3 1046 0) + 7 else 3 : Int) = 3 := if_neg h76_
        exact (la_value_14 e113_)
      have e114_ : (if g3 1047 0 = 0 then S 1100002 l3_4 + (600 - g3 1046 0) + 7 else 3 : Int) = 3 := if_neg h76_
      by_cases c115_ : S 1047 0 = 0
      · skip
        have e116_ : (if S 1047 0 = 0 then S 1100002 p1 + (600 - S 1046 0) + 8 else 4 : Int) = S 1100002 p1 + (600 - S 1046 0) + 8 := if_pos c115_
        obtain ⟨h117_, ⟨h118_, ⟨h119_, ⟨h120_, ⟨h121_, ⟨h122_, ⟨h123_, h124_⟩⟩⟩⟩⟩⟩⟩ := (h24_ c115_)
        exact (la_value_19 h15_ h34_ e114_ e116_)
      · skip
        have e125_ : (if S 1047 0 = 0 then S 1100002 p1 + (600 - S 1046 0) + 8 else 4 : Int) = 4 := if_neg c115_
        have h126_ := (h56_ (la_value_17 h17_ (la_value_9 h16_ c115_)))
        exact (la_value_20 e114_ e125_)
    intro g17
    rintro ⟨h127_, ⟨h128_, ⟨h129_, ⟨h130_, ⟨h131_, ⟨h132_, ⟨h133_, ⟨h134_, ⟨h135_, ⟨h136_, ⟨h137_, ⟨h138_, ⟨h139_, ⟨h140_, ⟨h141_, ⟨h142_, ⟨h143_, ⟨h144_, ⟨h145_, ⟨h146_, ⟨h147_, ⟨h148_, ⟨h149_, ⟨h150_, ⟨h151_, ⟨h152_, ⟨h153_, h154_⟩⟩⟩⟩⟩⟩⟩⟩⟩⟩⟩⟩⟩⟩⟩⟩⟩⟩⟩⟩⟩⟩⟩⟩⟩⟩⟩
    have h155_ := (h134_ (la_value_17 h52_ (la_value_9 h51_ h76_)))
    have h156_ := (h152_ (la_value_17 h52_ (la_value_9 h51_ h76_)))
    refine ⟨?_, ?_⟩
    · skip
      refine ⟨h127_, ?_⟩
      refine ⟨h128_, ?_⟩
      refine ⟨h129_, ?_⟩
      refine ⟨h130_, ?_⟩
      refine ⟨h131_, ?_⟩
      refine ⟨h132_, ?_⟩
      refine ⟨(la_value_22 h55_ h133_), ?_⟩
      refine ⟨(la_value_23 h130_ h155_), ?_⟩
      refine ⟨(sm_F1_tr (sm_F1_le h57_ (Int.le_refl _)) h135_ h55_), ?_⟩
      refine ⟨(sm_F1_tr (sm_F1_le h58_ (Int.le_refl _)) h136_ h55_), ?_⟩
      refine ⟨(sm_F1_tr (sm_F1_le h59_ (Int.le_refl _)) h137_ h55_), ?_⟩
      refine ⟨(sm_F1_tr (sm_F1_le h60_ (Int.le_refl _)) h138_ h55_), ?_⟩
      refine ⟨(sm_F1_tr (sm_F1_le h61_ (Int.le_refl _)) h139_ (la_value_24 h55_)), ?_⟩
      refine ⟨(sm_F1_tr (sm_F1_le h62_ (Int.le_refl _)) h140_ (la_value_24 h55_)), ?_⟩
      refine ⟨(sm_F1_tr (sm_F1_le h63_ (Int.le_refl _)) h141_ (la_value_24 h55_)), ?_⟩
      refine ⟨(sm_F1_tr (sm_F1_le h64_ (Int.le_refl _)) h142_ (la_value_24 h55_)), ?_⟩
      refine ⟨(la_value_25 h65_ h150_), ?_⟩
      refine ⟨(sm_F1_tr (sm_F1_le h66_ (Int.le_refl _)) h151_ h65_), ?_⟩
      refine ⟨h143_, ?_⟩
      refine ⟨h144_, ?_⟩
      refine ⟨h145_, ?_⟩
      refine ⟨h146_, ?_⟩
      refine ⟨h147_, ?_⟩
      refine ⟨h148_, ?_⟩
      refine ⟨h149_, ?_⟩
      refine ⟨(la_value_26 h149_ h156_), ?_⟩
      refine ⟨(la_value_27 h15_ h34_ h156_), ?_⟩
      refine ⟨?_, ?_⟩
      · skip
        intro h157_
        exact (sm_LF_w h72_ (sm_F1_le h151_ (la_value_29 h150_)) (Int.le_refl _) (la_value_29 h150_) h132_ (la_value_30 h67_ h89_))
      intro h158_
      refine ⟨?_, ?_⟩
      · skip
        exact ((la_value_31 h155_ h158_)).elim
      refine ⟨?_, ?_⟩
      · skip
        exact ((la_value_31 h155_ h158_)).elim
      refine ⟨?_, ?_⟩
      · skip
        exact ((la_value_31 h155_ h158_)).elim
      refine ⟨?_, ?_⟩
      · skip
        exact ((la_value_31 h155_ h158_)).elim
      refine ⟨?_, ?_⟩
      · skip
        exact ((la_value_31 h155_ h158_)).elim
      refine ⟨?_, ?_⟩
      · skip
        exact ((la_value_31 h155_ h158_)).elim
      refine ⟨?_, ?_⟩
      · skip
        exact ((la_value_31 h155_ h158_)).elim
      refine ⟨la_value_32, ?_⟩
      refine ⟨?_, ?_⟩
      · skip
        exact ((la_value_31 h155_ h158_)).elim
      refine ⟨?_, ?_⟩
      · skip
        exact ((la_value_31 h155_ h158_)).elim
      refine ⟨?_, ?_⟩
      · skip
        exact ((la_value_31 h155_ h158_)).elim
      refine ⟨?_, ?_⟩
      · skip
        exact ((la_value_31 h155_ h158_)).elim
      refine ⟨?_, ?_⟩
      · skip
        exact ((la_value_31 h155_ h158_)).elim
      refine ⟨?_, ?_⟩
      · skip
        exact ((la_value_31 h155_ h158_)).elim
      refine ⟨(sm_AP_0 (la_value_29 h156_)), ?_⟩
      refine ⟨(la_value_33 h55_ h133_ h156_), ?_⟩
      exact ((la_value_31 h155_ h158_)).elim
    intro g22
    rintro ⟨h159_, ⟨h160_, ⟨h161_, ⟨h162_, ⟨h163_, ⟨h164_, ⟨h165_, ⟨h166_, ⟨h167_, ⟨h168_, ⟨h169_, ⟨h170_, ⟨h171_, ⟨h172_, ⟨h173_, ⟨h174_, ⟨h175_, ⟨h176_, ⟨h177_, ⟨h178_, ⟨h179_, ⟨h180_, ⟨h181_, ⟨h182_, ⟨h183_, ⟨h184_, ⟨h185_, ⟨h186_, h187_⟩⟩⟩⟩⟩⟩⟩⟩⟩⟩⟩⟩⟩⟩⟩⟩⟩⟩⟩⟩⟩⟩⟩⟩⟩⟩⟩⟩
    refine ⟨h164_, ?_⟩
    intro h188_
    intro h189_
    intro h190_
    refine ⟨?_, ?_⟩
    · skip
      intro h191_
      have h192_ := (h189_ (sm_LF_w h23_ (sm_F1_le h176_ h191_) (Int.le_refl _) h191_ h164_ (la_value_30 h20_ h34_)))
      have h193_ := (h192_ h7_)
      refine ⟨h159_, ?_⟩
      refine ⟨h160_, ?_⟩
      refine ⟨h161_, ?_⟩
      refine ⟨h162_, ?_⟩
      refine ⟨h163_, ?_⟩
      refine ⟨h164_, ?_⟩
      refine ⟨h165_, ?_⟩
      refine ⟨h166_, ?_⟩
      refine ⟨h167_, ?_⟩
      refine ⟨h168_, ?_⟩
      refine ⟨h169_, ?_⟩
      refine ⟨h170_, ?_⟩
      refine ⟨h171_, ?_⟩
      refine ⟨h172_, ?_⟩
      refine ⟨h173_, ?_⟩
      refine ⟨h174_, ?_⟩
      refine ⟨h177_, ?_⟩
      refine ⟨h178_, ?_⟩
      refine ⟨h179_, ?_⟩
      refine ⟨h180_, ?_⟩
      refine ⟨h181_, ?_⟩
      refine ⟨h182_, ?_⟩
      refine ⟨h183_, ?_⟩
      refine ⟨(la_value_37 h175_ h191_), ?_⟩
      refine ⟨h176_, ?_⟩
      refine ⟨h184_, ?_⟩
      refine ⟨h185_, ?_⟩
      intro h194_
      have h195_ : ¬ (S 1047 0 = 1) := fun q_ => (la_value_15 h194_) (h166_ q_)
      obtain ⟨h196_, ⟨h197_, ⟨h198_, ⟨h199_, ⟨h200_, ⟨h201_, ⟨h202_, ⟨h203_, ⟨h204_, ⟨h205_, ⟨h206_, ⟨h207_, ⟨h208_, ⟨h209_, ⟨h210_, ⟨h211_, h212_⟩⟩⟩⟩⟩⟩⟩⟩⟩⟩⟩⟩⟩⟩⟩⟩ := (h187_ h194_)
      obtain ⟨h213_, ⟨h214_, h215_⟩⟩ := (h188_ h201_)
      have e216_ : (if S 1047 0 = 0 then S 1100002 p1 + (600 - S 1046 0) + 8 else 4 : Int) = S 1100002 p1 + (600 - S 1046 0) + 8 := if_pos h196_
      have h217_ := (h185_ h196_)
      have h218_ := (h215_ (la_value_37 h175_ h191_))
      obtain ⟨h219_, ⟨h220_, ⟨h221_, ⟨h222_, ⟨h223_, ⟨h224_, ⟨h225_, h226_⟩⟩⟩⟩⟩⟩⟩ := (h24_ h196_)
      refine ⟨h196_, ?_⟩
      refine ⟨h197_, ?_⟩
      refine ⟨h198_, ?_⟩
      refine ⟨h199_, ?_⟩
      refine ⟨h200_, ?_⟩
      refine ⟨(la_value_40 h202_ h214_), ?_⟩
      refine ⟨h209_, ?_⟩
      refine ⟨(la_value_41 h214_ h218_), ?_⟩
      refine ⟨h204_, ?_⟩
      refine ⟨h205_, ?_⟩
      refine ⟨h206_, ?_⟩
      refine ⟨h207_, ?_⟩
      refine ⟨h208_, ?_⟩
      refine ⟨h210_, ?_⟩
      refine ⟨(sm_HB_1 (by rw [((sm_F1_at h171_ (S 1046 0) la_value_35).trans rfl)]; exact (la_value_42 h37_ h202_ h214_)) (sm_HB_F h212_ sm_F1_rf (Int.le_refl _) la_value_43 (Int.le_refl _) (la_value_44 h218_))), ?_⟩
      refine ⟨h211_, ?_⟩
      exact trivial
    intro h227_
    have h228_ := (h186_ (la_value_45 h227_))
    have h229_ := (h189_ h228_)
    have h230_ := (h229_ h7_)
    refine ⟨(la_value_46 h8_ h164_ h230_), ?_⟩
    rintro ⟨h231_, h232_⟩
    refine ⟨?_, ?_⟩
    · skip
      intro h233_
      refine ⟨?_, ?_⟩
      · skip
        refine ⟨h159_, ?_⟩
        refine ⟨h160_, ?_⟩
        refine ⟨h161_, ?_⟩
        refine ⟨h162_, ?_⟩
        refine ⟨h163_, ?_⟩
        refine ⟨(la_value_47 h19_ h227_), ?_⟩
        refine ⟨h165_, ?_⟩
        refine ⟨h166_, ?_⟩
        refine ⟨h167_, ?_⟩
        refine ⟨h168_, ?_⟩
        refine ⟨h169_, ?_⟩
        refine ⟨h170_, ?_⟩
        refine ⟨h171_, ?_⟩
        refine ⟨h172_, ?_⟩
        refine ⟨h173_, ?_⟩
        refine ⟨h174_, ?_⟩
        refine ⟨(la_value_48 h227_), ?_⟩
        refine ⟨h176_, ?_⟩
        refine ⟨h177_, ?_⟩
        refine ⟨h178_, ?_⟩
        refine ⟨h179_, ?_⟩
        refine ⟨h180_, ?_⟩
        refine ⟨h181_, ?_⟩
        refine ⟨h182_, ?_⟩
        refine ⟨h183_, ?_⟩
        refine ⟨h184_, ?_⟩
        refine ⟨h185_, ?_⟩
        refine ⟨?_, ?_⟩
        · skip
          intro h234_
          exact (sm_LF_w h228_ sm_F1_rf (Int.le_refl _) la_value_50 (la_value_51 h19_ (la_value_49 (la_value_48 h227_) h234_)) (Int.le_refl _))
        intro h235_
        have e236_ : (if S 1047 0 = 0 then S 1100002 p1 + (600 - S 1046 0) + 8 else 4 : Int) = S 1100002 p1 + (600 - S 1046 0) + 8 := if_pos (la_value_52 h16_ (la_value_9 h161_ h233_) h235_)
        have h237_ := (h35_ (la_value_53 (la_value_9 h161_ h233_) h235_))
        have h238_ := (h36_ (la_value_54 (la_value_9 h161_ h233_) h235_))
        have h239_ := (h56_ (la_value_55 h17_ (la_value_9 h161_ h233_) h235_))
        have h240_ := (h166_ (la_value_55 h17_ (la_value_9 h161_ h233_) h235_))
        refine ⟨?_, ?_⟩
        · skip
          exact ((la_value_12 h235_ h240_)).elim
        refine ⟨?_, ?_⟩
        · skip
          exact ((la_value_12 h235_ h240_)).elim
        refine ⟨?_, ?_⟩
        · skip
          exact ((la_value_12 h235_ h240_)).elim
        refine ⟨?_, ?_⟩
        · skip
          exact ((la_value_12 h235_ h240_)).elim
        refine ⟨?_, ?_⟩
        · skip
          exact ((la_value_12 h235_ h240_)).elim
        refine ⟨?_, ?_⟩
        · skip
          exact ((la_value_12 h235_ h240_)).elim
        refine ⟨?_, ?_⟩
        · skip
          exact ((la_value_12 h235_ h240_)).elim
        refine ⟨la_value_32, ?_⟩
        refine ⟨?_, ?_⟩
        · skip
          exact ((la_value_12 h235_ h240_)).elim
        refine ⟨?_, ?_⟩
        · skip
          exact ((la_value_12 h235_ h240_)).elim
        refine ⟨?_, ?_⟩
        · skip
          exact ((la_value_12 h235_ h240_)).elim
        refine ⟨?_, ?_⟩
        · skip
          exact ((la_value_12 h235_ h240_)).elim
        refine ⟨?_, ?_⟩
        · skip
          exact ((la_value_12 h235_ h240_)).elim
        refine ⟨?_, ?_⟩
        · skip
          exact ((la_value_12 h235_ h240_)).elim
        refine ⟨?_, ?_⟩
        · skip
          exact ((la_value_12 h235_ h240_)).elim
        refine ⟨?_, ?_⟩
        · skip
          exact ((la_value_12 h235_ h240_)).elim
        exact ((la_value_12 h235_ h240_)).elim
      exact la_value_56
    intro h241_
    have h242_ : ¬ (S 1047 0 = 1) := fun q_ => (la_value_57 h241_) (h166_ q_)
    obtain ⟨h243_, ⟨h244_, ⟨h245_, ⟨h246_, ⟨h247_, ⟨h248_, ⟨h249_, ⟨h250_, ⟨h251_, ⟨h252_, ⟨h253_, ⟨h254_, ⟨h255_, ⟨h256_, ⟨h257_, ⟨h258_, h259_⟩⟩⟩⟩⟩⟩⟩⟩⟩⟩⟩⟩⟩⟩⟩⟩ := (h187_ (la_value_58 h161_ h241_))
    obtain ⟨h260_, ⟨h261_, h262_⟩⟩ := (h188_ h248_)
    have e263_ : (if S 1047 0 = 0 then S 1100002 p1 + (600 - S 1046 0) + 8 else 4 : Int) = S 1100002 p1 + (600 - S 1046 0) + 8 := if_pos h243_
    have h264_ := (h185_ h243_)
    obtain ⟨h265_, ⟨h266_, ⟨h267_, ⟨h268_, ⟨h269_, ⟨h270_, ⟨h271_, h272_⟩⟩⟩⟩⟩⟩⟩ := (h24_ h243_)
    intro h273_
    have h274_ := (h273_ (sm_LE_F h248_ sm_F1_rf (Int.le_refl _) la_value_59 rfl))
    obtain ⟨⟨h275_, ⟨h276_, ⟨h277_, h278_⟩⟩⟩, h279_⟩ := (h274_ (la_value_48 h227_))
    intro h280_
    have h281_ := (h280_ (sm_LF_w h228_ sm_F1_rf (Int.le_refl _) la_value_60 (la_value_61 h19_ h227_) (Int.le_refl _)))
    obtain ⟨h282_, ⟨h283_, ⟨h284_, h285_⟩⟩⟩ := (h281_ (la_value_47 h19_ h227_))
    intro h286_
    have h287_ := (h286_ h3_)
    have h288_ := (h287_ h283_)
    obtain ⟨h289_, ⟨h290_, ⟨h291_, h292_⟩⟩⟩ := (h288_ h284_)
    obtain ⟨h293_, ⟨h294_, ⟨h295_, h296_⟩⟩⟩ := (h289_ h275_)
    intro h297_
    intro h298_
    intro h299_
    rintro ⟨h300_, h301_⟩
    intro h302_
    obtain ⟨h303_, ⟨h304_, h305_⟩⟩ := (h302_ h279_)
    refine ⟨(la_value_62 h8_ h19_ h227_ h230_), ?_⟩
    intro h306_
    refine ⟨⟨h3_, ⟨h4_, ⟨h5_, ⟨h6_, ⟨h7_, ⟨h8_, ⟨h9_, ⟨h10_, ⟨h11_, ⟨h12_, ⟨h13_, ⟨h159_, ⟨h160_, ⟨h161_, ⟨h162_, ⟨h163_, ⟨(la_value_47 h19_ h227_), ⟨h283_, ⟨h284_, ⟨h275_, ⟨h276_, ⟨h282_, ⟨(la_value_58 h161_ h241_), ⟨(la_value_63 (sm_KC_n h265_).2.1.1 h304_), ⟨(la_value_64 h14_ h249_ h261_), ⟨h244_, (la_value_65 h245_ h246_ h247_ h249_ h251_ h253_ h254_ h255_ h258_ h269_ h270_ h271_ h272_ h277_ h304_)⟩⟩⟩⟩⟩⟩⟩⟩⟩⟩⟩⟩⟩⟩⟩⟩⟩⟩⟩⟩⟩⟩⟩⟩⟩⟩, ?_⟩
    refine ⟨(la_value_66 h25_ h160_ h249_ h261_ e263_ h277_ h293_), ?_⟩
    refine ⟨(la_value_67 h160_ h249_ h261_ e263_ h277_ h293_), ?_⟩
    intro g49
    rintro ⟨h307_, ⟨h308_, ⟨h309_, ⟨h310_, ⟨h311_, ⟨h312_, ⟨h313_, ⟨h314_, ⟨h315_, ⟨h316_, ⟨h317_, ⟨h318_, ⟨h319_, ⟨h320_, ⟨h321_, ⟨h322_, ⟨h323_, ⟨h324_, ⟨h325_, ⟨h326_, ⟨h327_, ⟨h328_, ⟨h329_, ⟨h330_, ⟨h331_, ⟨h332_, ⟨h333_, h334_⟩⟩⟩⟩⟩⟩⟩⟩⟩⟩⟩⟩⟩⟩⟩⟩⟩⟩⟩⟩⟩⟩⟩⟩⟩⟩⟩
    have h335_ := (h333_ (la_value_68 h241_))
    refine ⟨?_, ?_⟩
    · skip
      refine ⟨h307_, ?_⟩
      refine ⟨h308_, ?_⟩
      refine ⟨h309_, ?_⟩
      refine ⟨h310_, ?_⟩
      refine ⟨h311_, ?_⟩
      refine ⟨h312_, ?_⟩
      refine ⟨(la_value_69 h249_ h261_ h313_), ?_⟩
      refine ⟨(la_value_70 h243_ h310_), ?_⟩
      refine ⟨(sm_F1_tr (sm_F1_le h167_ (Int.le_refl _)) h315_ h165_), ?_⟩
      refine ⟨(sm_F1_tr (sm_F1_le h168_ (Int.le_refl _)) h316_ h165_), ?_⟩
      refine ⟨(sm_F1_tr (sm_F1_le h169_ (Int.le_refl _)) h317_ h165_), ?_⟩
      refine ⟨(sm_F1_tr (sm_F1_le h170_ (Int.le_refl _)) h318_ h165_), ?_⟩
      refine ⟨(sm_F1_tr (sm_F1_le h171_ (Int.le_refl _)) h319_ (la_value_71 h249_ h261_)), ?_⟩
      refine ⟨(sm_F1_tr (sm_F1_le h172_ (Int.le_refl _)) h320_ (la_value_71 h249_ h261_)), ?_⟩
      refine ⟨(sm_F1_tr (sm_F1_le h173_ (Int.le_refl _)) h321_ (la_value_71 h249_ h261_)), ?_⟩
      refine ⟨(sm_F1_tr (sm_F1_le h174_ (Int.le_refl _)) h322_ (la_value_71 h249_ h261_)), ?_⟩
      refine ⟨(la_value_72 h227_ h330_), ?_⟩
      refine ⟨(sm_F1_tr (sm_F1_le h176_ (Int.le_refl _)) h331_ h303_), ?_⟩
      refine ⟨(sm_F1_tr (sm_F1_le h177_ (Int.le_refl _)) h323_ h183_), ?_⟩
      refine ⟨(sm_F1_tr (sm_F1_le h178_ (Int.le_refl _)) h324_ h183_), ?_⟩
      refine ⟨(sm_F1_tr (sm_F1_le h179_ (Int.le_refl _)) h325_ h183_), ?_⟩
      refine ⟨(sm_F1_tr (sm_F1_le h180_ (Int.le_refl _)) h326_ h183_), ?_⟩
      refine ⟨(sm_F1_tr (sm_F1_le h181_ (Int.le_refl _)) h327_ h183_), ?_⟩
      refine ⟨(sm_F1_tr (sm_F1_le h182_ (Int.le_refl _)) h328_ h183_), ?_⟩
      refine ⟨(la_value_22 h183_ h329_), ?_⟩
      refine ⟨(la_value_73 (la_value_39 h17_ h242_)), ?_⟩
      refine ⟨(la_value_74 h258_ h277_ h335_), ?_⟩
      refine ⟨?_, ?_⟩
      · skip
        intro h336_
        exact (sm_LF_w h282_ (sm_F1_le h331_ (la_value_77 h330_)) (Int.le_refl _) (la_value_77 h330_) h312_ (la_value_78 h285_))
      intro h337_
      obtain ⟨h338_, ⟨h339_, ⟨h340_, ⟨h341_, ⟨h342_, ⟨h343_, ⟨h344_, ⟨h345_, ⟨h346_, ⟨h347_, ⟨h348_, ⟨h349_, ⟨h350_, ⟨h351_, ⟨h352_, ⟨h353_, -⟩⟩⟩⟩⟩⟩⟩⟩⟩⟩⟩⟩⟩⟩⟩⟩ := (h334_ h337_)
      refine ⟨h243_, ?_⟩
      refine ⟨h339_, ?_⟩
      refine ⟨h340_, ?_⟩
      refine ⟨h341_, ?_⟩
      refine ⟨h342_, ?_⟩
      refine ⟨(sm_LE_F h279_ (sm_F1_le h331_ (Int.le_refl _)) (Int.le_refl _) h330_ (la_value_79 h345_)), ?_⟩
      refine ⟨(la_value_80 h249_ h300_ h343_ h345_), ?_⟩
      refine ⟨la_value_32, ?_⟩
      refine ⟨(la_value_81 h251_ h346_), ?_⟩
      refine ⟨(la_value_81 h252_ h347_), ?_⟩
      refine ⟨(la_value_81 h253_ h348_), ?_⟩
      refine ⟨(la_value_81 h254_ h349_), ?_⟩
      refine ⟨(la_value_81 h255_ h350_), ?_⟩
      refine ⟨(sm_FC_s (sm_FC_F h256_ (sm_F1_le h318_ (Int.le_refl _)) (Int.le_refl _) (Int.le_refl _) (Int.le_refl _) rfl) (sm_FC_F h344_ sm_F1_rf (Int.le_refl _) (Int.le_refl _) (Int.le_refl _) rfl)), ?_⟩
      refine ⟨(sm_AP_s (sm_AP_F h257_ (sm_F1_le h327_ (Int.le_refl _)) (Int.le_refl _) (Int.le_refl _) (Int.le_refl _)) (sm_AP_F h351_ sm_F1_rf (Int.le_refl _) (Int.le_refl _) (Int.le_refl _))), ?_⟩
      refine ⟨(la_value_83 h258_ h353_), ?_⟩
      exact (sm_HB_1 (by rw [((sm_F1_at h319_ (S 1046 0) (la_value_84 h249_ h261_)).trans ((sm_F1_at h171_ (S 1046 0) la_value_35).trans rfl))]; exact (la_value_85 h37_ h249_ h261_ h304_ h343_ h345_)) (sm_HB_s (sm_HB_F h259_ (sm_F1_le h319_ la_value_43) (Int.le_refl _) la_value_43 (Int.le_refl _) (la_value_87 h301_ h343_ h345_)) (sm_HB_1 (by rw [((sm_F1_at h319_ (g22 1046 0) la_value_35).trans rfl)]; exact (la_value_88 h37_ h249_ h301_ h343_ h345_)) (sm_HB_F h352_ sm_F1_rf (Int.le_refl _) la_value_43 (Int.le_refl _) (la_value_89 h249_ h278_ h345_)))))
    exact (la_value_90 h330_)
  intro h354_
  have h355_ : ¬ (S 1047 0 = 1) := fun q_ => (la_value_57 h354_) (h56_ q_)
  obtain ⟨h356_, ⟨h357_, ⟨h358_, ⟨h359_, ⟨h360_, ⟨h361_, ⟨h362_, ⟨h363_, ⟨h364_, ⟨h365_, ⟨h366_, ⟨h367_, ⟨h368_, ⟨h369_, h370_⟩⟩⟩⟩⟩⟩⟩⟩⟩⟩⟩⟩⟩⟩ := (h73_ (la_value_58 h51_ h354_))
  have e371_ : (if S 1047 0 = 0 then S 1100002 p1 + (600 - S 1046 0) + 8 else 4 : Int) = S 1100002 p1 + (600 - S 1046 0) + 8 := if_pos h356_
  obtain ⟨h372_, ⟨h373_, ⟨h374_, ⟨h375_, ⟨h376_, ⟨h377_, ⟨h378_, h379_⟩⟩⟩⟩⟩⟩⟩ := (h24_ h356_)
  intro h380_
  have h381_ := (h380_ h3_)
  have h382_ := (h381_ h67_)
  obtain ⟨h383_, ⟨h384_, ⟨h385_, h386_⟩⟩⟩ := (h382_ h68_)
  obtain ⟨h387_, ⟨h388_, ⟨h389_, h390_⟩⟩⟩ := (h383_ h69_)
  intro h391_
  have h392_ := (h391_ h3_)
  have h393_ := (h392_ h67_)
  have h394_ := (h393_ h68_)
  have h395_ := (h394_ h69_)
  intro h396_
  intro h397_
  intro h398_
  intro h399_
  rintro ⟨h400_, h401_⟩
  intro h402_
  have h403_ := (h402_ h72_)
  have h404_ := (h403_ h67_)
  have h405_ := (h404_ h68_)
  refine ⟨?_, ?_⟩
  · skip
    refine ⟨h67_, ?_⟩
    refine ⟨(la_value_91 h8_ h68_), ?_⟩
    intro h406_
    have h407_ := (h389_ (la_value_93 h406_))
    have h408_ := (h397_ h406_)
    have h409_ := (h396_ h406_)
    have h410_ := (h409_ h3_)
    have h411_ := (h410_ h67_)
    have h412_ := (h411_ h68_)
    obtain ⟨h413_, h414_⟩ := (h412_ h69_)
    refine ⟨h413_, ?_⟩
    exact (la_value_95 h8_ h68_ h414_)
  refine ⟨(la_value_96 h15_ h34_ e371_), ?_⟩
  refine ⟨?_, ?_⟩
  · skip
    have e415_ : S 1100007 (g3 1100023 (g3 1046 0)) = S 1100007 (S 1100023 (S 1046 0)) := congrArg ((S 1100007)) h364_
    have e416_ : S 1100007 (g3 1100025 (g3 1046 0)) = S 1100007 (S 1100025 (S 1046 0)) := congrArg ((S 1100007)) h366_
    exact (la_value_98 h8_ h68_ h395_)
  refine ⟨?_, ?_⟩
  · skip
    intro h417_
    intro h418_
    have h419_ := (h418_ h3_)
    have h420_ := (h419_ h67_)
    have h421_ := (h420_ h68_)
    have h422_ := (h421_ h69_)
    have h423_ := (h422_ h417_)
    intro h424_
    intro h425_
    obtain ⟨h426_, ⟨h427_, h428_⟩⟩ := (h425_ h361_)
    refine ⟨?_, ?_⟩
    · skip
      refine ⟨h3_, ?_⟩
      refine ⟨h4_, ?_⟩
      refine ⟨h5_, ?_⟩
      refine ⟨h6_, ?_⟩
      refine ⟨h7_, ?_⟩
      refine ⟨h8_, ?_⟩
      refine ⟨h9_, ?_⟩
      refine ⟨h10_, ?_⟩
      refine ⟨h11_, ?_⟩
      refine ⟨h12_, ?_⟩
      refine ⟨h13_, ?_⟩
      refine ⟨h49_, ?_⟩
      refine ⟨h50_, ?_⟩
      refine ⟨h51_, ?_⟩
      refine ⟨h52_, ?_⟩
      refine ⟨h18_, ?_⟩
      refine ⟨h54_, ?_⟩
      refine ⟨h67_, ?_⟩
      refine ⟨h68_, ?_⟩
      refine ⟨h69_, ?_⟩
      refine ⟨h72_, ?_⟩
      intro h429_
      refine ⟨h423_, ?_⟩
      refine ⟨h357_, ?_⟩
      refine ⟨h358_, ?_⟩
      refine ⟨h359_, ?_⟩
      refine ⟨h360_, ?_⟩
      refine ⟨(la_value_100 h364_ h367_ h376_ h427_), ?_⟩
      refine ⟨(la_value_100 h366_ h368_ h377_ h427_), ?_⟩
      refine ⟨(la_value_101 h362_ h378_), ?_⟩
      exact (la_value_102 h55_ h70_ h379_)
    refine ⟨?_, ?_⟩
    · skip
      refine ⟨?_, ?_⟩
      · skip
        have e430_ : (if g3 1047 0 = 0 then S 1100002 l3_4 + (600 - g3 1046 0) + 7 else 3 : Int) = S 1100002 l3_4 + (600 - g3 1046 0) + 7 := if_pos (la_value_58 h51_ h354_)
        have e431_ : S 1100007 (g3 1100023 (g3 1046 0)) = S 1100007 (S 1100023 (S 1046 0)) := congrArg ((S 1100007)) h364_
        have e432_ : S 1100007 (g3 1100025 (g3 1046 0)) = S 1100007 (S 1100025 (S 1046 0)) := congrArg ((S 1100007)) h366_
        exact (la_value_103 h50_ h387_ e430_)
      have e433_ : (if g3 1047 0 = 0 then S 1100002 l3_4 + (600 - g3 1046 0) + 7 else 3 : Int) = S 1100002 l3_4 + (600 - g3 1046 0) + 7 := if_pos (la_value_58 h51_ h354_)
      have e434_ : S 1100007 (g3 1100023 (g3 1046 0)) = S 1100007 (S 1100023 (S 1046 0)) := congrArg ((S 1100007)) h364_
      have e435_ : S 1100007 (g3 1100025 (g3 1046 0)) = S 1100007 (S 1100025 (S 1046 0)) := congrArg ((S 1100007)) h366_
      exact (la_value_104 h25_ h55_ h70_ e371_ e433_)
    refine ⟨?_, ?_⟩
    · skip
      refine ⟨?_, ?_⟩
      · skip
        have e436_ : (if g3 1047 0 = 0 then S 1100002 l3_4 + (600 - g3 1046 0) + 7 else 3 : Int) = S 1100002 l3_4 + (600 - g3 1046 0) + 7 := if_pos (la_value_58 h51_ h354_)
        have e437_ : S 1100007 (g3 1100023 (g3 1046 0)) = S 1100007 (S 1100023 (S 1046 0)) := congrArg ((S 1100007)) h364_
        have e438_ : S 1100007 (g3 1100025 (g3 1046 0)) = S 1100007 (S 1100025 (S 1046 0)) := congrArg ((S 1100007)) h366_
        exact (la_value_103 h50_ h387_ e436_)
      have e439_ : (if g3 1047 0 = 0 then S 1100002 l3_4 + (600 - g3 1046 0) + 7 else 3 : Int) = S 1100002 l3_4 + (600 - g3 1046 0) + 7 := if_pos (la_value_58 h51_ h354_)
      have e440_ : S 1100007 (g3 1100023 (g3 1046 0)) = S 1100007 (S 1100023 (S 1046 0)) := congrArg ((S 1100007)) h364_
      have e441_ : S 1100007 (g3 1100025 (g3 1046 0)) = S 1100007 (S 1100025 (S 1046 0)) := congrArg ((S 1100007)) h366_
      exact (la_value_105 h55_ h70_ e371_ e439_)
    intro g72
    rintro ⟨h442_, ⟨h443_, ⟨h444_, ⟨h445_, ⟨h446_, ⟨h447_, ⟨h448_, ⟨h449_, ⟨h450_, ⟨h451_, ⟨h452_, ⟨h453_, ⟨h454_, ⟨h455_, ⟨h456_, ⟨h457_, ⟨h458_, ⟨h459_, ⟨h460_, ⟨h461_, ⟨h462_, ⟨h463_, ⟨h464_, ⟨h465_, ⟨h466_, ⟨h467_, ⟨h468_, h469_⟩⟩⟩⟩⟩⟩⟩⟩⟩⟩⟩⟩⟩⟩⟩⟩⟩⟩⟩⟩⟩⟩⟩⟩⟩⟩⟩
    have h470_ := (h468_ (la_value_68 h354_))
    refine ⟨?_, ?_⟩
    · skip
      refine ⟨h442_, ?_⟩
      refine ⟨h443_, ?_⟩
      refine ⟨h444_, ?_⟩
      refine ⟨h445_, ?_⟩
      refine ⟨h446_, ?_⟩
      refine ⟨h447_, ?_⟩
      refine ⟨(la_value_22 h55_ h448_), ?_⟩
      refine ⟨(la_value_70 h356_ h445_), ?_⟩
      refine ⟨(sm_F1_tr (sm_F1_le h57_ (Int.le_refl _)) h450_ h55_), ?_⟩
      refine ⟨(sm_F1_tr (sm_F1_le h58_ (Int.le_refl _)) h451_ h55_), ?_⟩
      refine ⟨(sm_F1_tr (sm_F1_le h59_ (Int.le_refl _)) h452_ h55_), ?_⟩
      refine ⟨(sm_F1_tr (sm_F1_le h60_ (Int.le_refl _)) h453_ h55_), ?_⟩
      refine ⟨(sm_F1_tr (sm_F1_le h61_ (Int.le_refl _)) h454_ (la_value_24 h55_)), ?_⟩
      refine ⟨(sm_F1_tr (sm_F1_le h62_ (Int.le_refl _)) h455_ (la_value_24 h55_)), ?_⟩
      refine ⟨(sm_F1_tr (sm_F1_le h63_ (Int.le_refl _)) h456_ (la_value_24 h55_)), ?_⟩
      refine ⟨(sm_F1_tr (sm_F1_le h64_ (Int.le_refl _)) h457_ (la_value_24 h55_)), ?_⟩
      refine ⟨(la_value_25 h65_ h465_), ?_⟩
      refine ⟨(sm_F1_tr (sm_F1_le h66_ (Int.le_refl _)) h466_ h65_), ?_⟩
      refine ⟨h458_, ?_⟩
      refine ⟨h459_, ?_⟩
      refine ⟨h460_, ?_⟩
      refine ⟨h461_, ?_⟩
      refine ⟨h462_, ?_⟩
      refine ⟨h463_, ?_⟩
      refine ⟨h464_, ?_⟩
      refine ⟨(la_value_106 h356_), ?_⟩
      refine ⟨(la_value_107 h55_ h70_ h470_), ?_⟩
      refine ⟨?_, ?_⟩
      · skip
        intro h471_
        exact (sm_LF_w h72_ (sm_F1_le h466_ (la_value_29 h465_)) (Int.le_refl _) (la_value_29 h465_) h447_ (la_value_30 h67_ h387_))
      intro h472_
      obtain ⟨h473_, ⟨h474_, ⟨h475_, ⟨h476_, ⟨h477_, ⟨h478_, ⟨h479_, ⟨h480_, ⟨h481_, ⟨h482_, ⟨h483_, ⟨h484_, ⟨h485_, ⟨h486_, ⟨h487_, ⟨h488_, -⟩⟩⟩⟩⟩⟩⟩⟩⟩⟩⟩⟩⟩⟩⟩⟩ := (h469_ h472_)
      refine ⟨h356_, ?_⟩
      refine ⟨h474_, ?_⟩
      refine ⟨h475_, ?_⟩
      refine ⟨h476_, ?_⟩
      refine ⟨h477_, ?_⟩
      refine ⟨(sm_LE_F h361_ (sm_F1_le h466_ (Int.le_refl _)) (Int.le_refl _) h465_ (la_value_109 h480_)), ?_⟩
      refine ⟨(la_value_110 h362_ h478_ h480_), ?_⟩
      refine ⟨la_value_32, ?_⟩
      refine ⟨(la_value_81 h364_ h481_), ?_⟩
      refine ⟨(la_value_81 h365_ h482_), ?_⟩
      refine ⟨(la_value_81 h366_ h483_), ?_⟩
      refine ⟨(la_value_81 h367_ h484_), ?_⟩
      refine ⟨(la_value_81 h368_ h485_), ?_⟩
      refine ⟨(sm_FC_s (sm_FC_F h370_ (sm_F1_le h453_ (Int.le_refl _)) (Int.le_refl _) (Int.le_refl _) (Int.le_refl _) rfl) (sm_FC_F h479_ sm_F1_rf (Int.le_refl _) (Int.le_refl _) (Int.le_refl _) rfl)), ?_⟩
      refine ⟨h486_, ?_⟩
      refine ⟨(la_value_111 h55_ h488_), ?_⟩
      exact (sm_HB_s (sm_HB_F h369_ (sm_F1_le h454_ la_value_43) (Int.le_refl _) (Int.le_refl _) (Int.le_refl _) (la_value_113 h37_ h362_ h478_ h480_)) (sm_HB_1 (by rw [((sm_F1_at h454_ (g3 1046 0) la_value_35).trans rfl)]; exact (la_value_114 h37_ h362_ h478_ h480_)) (sm_HB_F h487_ sm_F1_rf (Int.le_refl _) la_value_43 (Int.le_refl _) (la_value_115 h71_ h362_ h480_))))
    intro g77
    rintro ⟨h489_, ⟨h490_, ⟨h491_, ⟨h492_, ⟨h493_, ⟨h494_, ⟨h495_, ⟨h496_, ⟨h497_, ⟨h498_, ⟨h499_, ⟨h500_, ⟨h501_, ⟨h502_, ⟨h503_, ⟨h504_, ⟨h505_, ⟨h506_, ⟨h507_, ⟨h508_, ⟨h509_, ⟨h510_, ⟨h511_, ⟨h512_, ⟨h513_, ⟨h514_, ⟨h515_, ⟨h516_, h517_⟩⟩⟩⟩⟩⟩⟩⟩⟩⟩⟩⟩⟩⟩⟩⟩⟩⟩⟩⟩⟩⟩⟩⟩⟩⟩⟩⟩
    have h518_ := (h515_ h356_)
    refine ⟨h494_, ?_⟩
    intro h519_
    intro h520_
    intro h521_
    refine ⟨?_, ?_⟩
    · skip
      intro h522_
      have h523_ := (h520_ (sm_LF_w h23_ (sm_F1_le h506_ h522_) (Int.le_refl _) h522_ h494_ (la_value_30 h20_ h34_)))
      have h524_ := (h523_ h7_)
      refine ⟨h489_, ?_⟩
      refine ⟨h490_, ?_⟩
      refine ⟨h491_, ?_⟩
      refine ⟨h492_, ?_⟩
      refine ⟨h493_, ?_⟩
      refine ⟨h494_, ?_⟩
      refine ⟨h495_, ?_⟩
      refine ⟨h496_, ?_⟩
      refine ⟨h497_, ?_⟩
      refine ⟨h498_, ?_⟩
      refine ⟨h499_, ?_⟩
      refine ⟨h500_, ?_⟩
      refine ⟨h501_, ?_⟩
      refine ⟨h502_, ?_⟩
      refine ⟨h503_, ?_⟩
      refine ⟨h504_, ?_⟩
      refine ⟨h507_, ?_⟩
      refine ⟨h508_, ?_⟩
      refine ⟨h509_, ?_⟩
      refine ⟨h510_, ?_⟩
      refine ⟨h511_, ?_⟩
      refine ⟨h512_, ?_⟩
      refine ⟨h513_, ?_⟩
      refine ⟨(la_value_37 h505_ h522_), ?_⟩
      refine ⟨h506_, ?_⟩
      refine ⟨h514_, ?_⟩
      refine ⟨h515_, ?_⟩
      intro h525_
      obtain ⟨h526_, ⟨h527_, ⟨h528_, ⟨h529_, ⟨h530_, ⟨h531_, ⟨h532_, ⟨h533_, ⟨h534_, ⟨h535_, ⟨h536_, ⟨h537_, ⟨h538_, ⟨h539_, ⟨h540_, ⟨h541_, h542_⟩⟩⟩⟩⟩⟩⟩⟩⟩⟩⟩⟩⟩⟩⟩⟩ := (h517_ h525_)
      obtain ⟨h543_, ⟨h544_, h545_⟩⟩ := (h519_ h531_)
      have h546_ := (h545_ (la_value_37 h505_ h522_))
      refine ⟨h356_, ?_⟩
      refine ⟨h527_, ?_⟩
      refine ⟨h528_, ?_⟩
      refine ⟨h529_, ?_⟩
      refine ⟨h530_, ?_⟩
      refine ⟨(la_value_40 h532_ h544_), ?_⟩
      refine ⟨h539_, ?_⟩
      refine ⟨(la_value_41 h544_ h546_), ?_⟩
      refine ⟨h534_, ?_⟩
      refine ⟨h535_, ?_⟩
      refine ⟨h536_, ?_⟩
      refine ⟨h537_, ?_⟩
      refine ⟨h538_, ?_⟩
      refine ⟨h540_, ?_⟩
      refine ⟨(sm_HB_1 (by rw [((sm_F1_at h501_ (S 1046 0) la_value_35).trans rfl)]; exact (la_value_42 h37_ h532_ h544_)) (sm_HB_F h542_ sm_F1_rf (Int.le_refl _) la_value_43 (Int.le_refl _) (la_value_44 h546_))), ?_⟩
      refine ⟨h541_, ?_⟩
      exact trivial
    intro h547_
    have h548_ := (h516_ (la_value_45 h547_))
    have h549_ := (h520_ h548_)
    have h550_ := (h549_ h7_)
    refine ⟨(la_value_46 h8_ h494_ h550_), ?_⟩
    rintro ⟨h551_, h552_⟩
    refine ⟨?_, ?_⟩
    · skip
      intro h553_
      refine ⟨?_, ?_⟩
      · skip
        refine ⟨h489_, ?_⟩
        refine ⟨h490_, ?_⟩
        refine ⟨h491_, ?_⟩
        refine ⟨h492_, ?_⟩
        refine ⟨h493_, ?_⟩
        refine ⟨(la_value_47 h19_ h547_), ?_⟩
        refine ⟨h495_, ?_⟩
        refine ⟨h496_, ?_⟩
        refine ⟨h497_, ?_⟩
        refine ⟨h498_, ?_⟩
        refine ⟨h499_, ?_⟩
        refine ⟨h500_, ?_⟩
        refine ⟨h501_, ?_⟩
        refine ⟨h502_, ?_⟩
        refine ⟨h503_, ?_⟩
        refine ⟨h504_, ?_⟩
        refine ⟨(la_value_48 h547_), ?_⟩
        refine ⟨h506_, ?_⟩
        refine ⟨h507_, ?_⟩
        refine ⟨h508_, ?_⟩
        refine ⟨h509_, ?_⟩
        refine ⟨h510_, ?_⟩
        refine ⟨h511_, ?_⟩
        refine ⟨h512_, ?_⟩
        refine ⟨h513_, ?_⟩
        refine ⟨h514_, ?_⟩
        refine ⟨h515_, ?_⟩
        refine ⟨?_, ?_⟩
        · skip
          intro h554_
          exact (sm_LF_w h548_ sm_F1_rf (Int.le_refl _) la_value_50 (la_value_51 h19_ (la_value_49 (la_value_48 h547_) h554_)) (Int.le_refl _))
        intro h555_
        refine ⟨h356_, ?_⟩
        refine ⟨?_, ?_⟩
        · skip
          have e556_ : S 1100007 (g3 1100023 (g3 1046 0)) = S 1100007 (S 1100023 (S 1046 0)) := congrArg ((S 1100007)) h364_
          have e557_ : S 1100007 (g3 1100025 (g3 1046 0)) = S 1100007 (S 1100025 (S 1046 0)) := congrArg ((S 1100007)) h366_
          exact ((la_value_13 (la_value_9 h491_ h553_) h555_)).elim
        refine ⟨?_, ?_⟩
        · skip
          have e558_ : S 1100007 (g3 1100023 (g3 1046 0)) = S 1100007 (S 1100023 (S 1046 0)) := congrArg ((S 1100007)) h364_
          have e559_ : S 1100007 (g3 1100025 (g3 1046 0)) = S 1100007 (S 1100025 (S 1046 0)) := congrArg ((S 1100007)) h366_
          exact ((la_value_13 (la_value_9 h491_ h553_) h555_)).elim
        refine ⟨?_, ?_⟩
        · skip
          have e560_ : S 1100007 (g3 1100023 (g3 1046 0)) = S 1100007 (S 1100023 (S 1046 0)) := congrArg ((S 1100007)) h364_
          have e561_ : S 1100007 (g3 1100025 (g3 1046 0)) = S 1100007 (S 1100025 (S 1046 0)) := congrArg ((S 1100007)) h366_
          exact ((la_value_13 (la_value_9 h491_ h553_) h555_)).elim
        refine ⟨?_, ?_⟩
        · skip
          have e562_ : S 1100007 (g3 1100023 (g3 1046 0)) = S 1100007 (S 1100023 (S 1046 0)) := congrArg ((S 1100007)) h364_
          have e563_ : S 1100007 (g3 1100025 (g3 1046 0)) = S 1100007 (S 1100025 (S 1046 0)) := congrArg ((S 1100007)) h366_
          exact ((la_value_13 (la_value_9 h491_ h553_) h555_)).elim
        refine ⟨?_, ?_⟩
        · skip
          have e564_ : S 1100007 (g3 1100023 (g3 1046 0)) = S 1100007 (S 1100023 (S 1046 0)) := congrArg ((S 1100007)) h364_
          have e565_ : S 1100007 (g3 1100025 (g3 1046 0)) = S 1100007 (S 1100025 (S 1046 0)) := congrArg ((S 1100007)) h366_
          exact ((la_value_13 (la_value_9 h491_ h553_) h555_)).elim
        refine ⟨?_, ?_⟩
        · skip
          have e566_ : S 1100007 (g3 1100023 (g3 1046 0)) = S 1100007 (S 1100023 (S 1046 0)) := congrArg ((S 1100007)) h364_
          have e567_ : S 1100007 (g3 1100025 (g3 1046 0)) = S 1100007 (S 1100025 (S 1046 0)) := congrArg ((S 1100007)) h366_
          exact ((la_value_13 (la_value_9 h491_ h553_) h555_)).elim
        refine ⟨la_value_32, ?_⟩
        refine ⟨?_, ?_⟩
        · skip
          have e568_ : S 1100007 (g3 1100023 (g3 1046 0)) = S 1100007 (S 1100023 (S 1046 0)) := congrArg ((S 1100007)) h364_
          have e569_ : S 1100007 (g3 1100025 (g3 1046 0)) = S 1100007 (S 1100025 (S 1046 0)) := congrArg ((S 1100007)) h366_
          exact ((la_value_13 (la_value_9 h491_ h553_) h555_)).elim
        refine ⟨?_, ?_⟩
        · skip
          have e570_ : S 1100007 (g3 1100023 (g3 1046 0)) = S 1100007 (S 1100023 (S 1046 0)) := congrArg ((S 1100007)) h364_
          have e571_ : S 1100007 (g3 1100025 (g3 1046 0)) = S 1100007 (S 1100025 (S 1046 0)) := congrArg ((S 1100007)) h366_
          exact ((la_value_13 (la_value_9 h491_ h553_) h555_)).elim
        refine ⟨?_, ?_⟩
        · skip
          have e572_ : S 1100007 (g3 1100023 (g3 1046 0)) = S 1100007 (S 1100023 (S 1046 0)) := congrArg ((S 1100007)) h364_
          have e573_ : S 1100007 (g3 1100025 (g3 1046 0)) = S 1100007 (S 1100025 (S 1046 0)) := congrArg ((S 1100007)) h366_
          exact ((la_value_13 (la_value_9 h491_ h553_) h555_)).elim
        refine ⟨?_, ?_⟩
        · skip
          have e574_ : S 1100007 (g3 1100023 (g3 1046 0)) = S 1100007 (S 1100023 (S 1046 0)) := congrArg ((S 1100007)) h364_
          have e575_ : S 1100007 (g3 1100025 (g3 1046 0)) = S 1100007 (S 1100025 (S 1046 0)) := congrArg ((S 1100007)) h366_
          exact ((la_value_13 (la_value_9 h491_ h553_) h555_)).elim
        refine ⟨?_, ?_⟩
        · skip
          have e576_ : S 1100007 (g3 1100023 (g3 1046 0)) = S 1100007 (S 1100023 (S 1046 0)) := congrArg ((S 1100007)) h364_
          have e577_ : S 1100007 (g3 1100025 (g3 1046 0)) = S 1100007 (S 1100025 (S 1046 0)) := congrArg ((S 1100007)) h366_
          exact ((la_value_13 (la_value_9 h491_ h553_) h555_)).elim
        refine ⟨?_, ?_⟩
        · skip
          have e578_ : S 1100007 (g3 1100023 (g3 1046 0)) = S 1100007 (S 1100023 (S 1046 0)) := congrArg ((S 1100007)) h364_
          have e579_ : S 1100007 (g3 1100025 (g3 1046 0)) = S 1100007 (S 1100025 (S 1046 0)) := congrArg ((S 1100007)) h366_
          exact ((la_value_13 (la_value_9 h491_ h553_) h555_)).elim
        refine ⟨?_, ?_⟩
        · skip
          have e580_ : S 1100007 (g3 1100023 (g3 1046 0)) = S 1100007 (S 1100023 (S 1046 0)) := congrArg ((S 1100007)) h364_
          have e581_ : S 1100007 (g3 1100025 (g3 1046 0)) = S 1100007 (S 1100025 (S 1046 0)) := congrArg ((S 1100007)) h366_
          exact ((la_value_13 (la_value_9 h491_ h553_) h555_)).elim
        refine ⟨?_, ?_⟩
        · skip
          have e582_ : S 1100007 (g3 1100023 (g3 1046 0)) = S 1100007 (S 1100023 (S 1046 0)) := congrArg ((S 1100007)) h364_
          have e583_ : S 1100007 (g3 1100025 (g3 1046 0)) = S 1100007 (S 1100025 (S 1046 0)) := congrArg ((S 1100007)) h366_
          exact ((la_value_13 (la_value_9 h491_ h553_) h555_)).elim
        have e584_ : S 1100007 (g3 1100023 (g3 1046 0)) = S 1100007 (S 1100023 (S 1046 0)) := congrArg ((S 1100007)) h364_
        have e585_ : S 1100007 (g3 1100025 (g3 1046 0)) = S 1100007 (S 1100025 (S 1046 0)) := congrArg ((S 1100007)) h366_
        exact ((la_value_13 (la_value_9 h491_ h553_) h555_)).elim
      exact la_value_56
    intro h586_
    obtain ⟨h587_, ⟨h588_, ⟨h589_, ⟨h590_, ⟨h591_, ⟨h592_, ⟨h593_, ⟨h594_, ⟨h595_, ⟨h596_, ⟨h597_, ⟨h598_, ⟨h599_, ⟨h600_, ⟨h601_, ⟨h602_, h603_⟩⟩⟩⟩⟩⟩⟩⟩⟩⟩⟩⟩⟩⟩⟩⟩ := (h517_ (la_value_58 h491_ h586_))
    obtain ⟨h604_, ⟨h605_, h606_⟩⟩ := (h519_ h592_)
    intro h607_
    have h608_ := (h607_ (sm_LE_F h592_ sm_F1_rf (Int.le_refl _) la_value_59 rfl))
    obtain ⟨⟨h609_, ⟨h610_, ⟨h611_, h612_⟩⟩⟩, h613_⟩ := (h608_ (la_value_48 h547_))
    intro h614_
    have h615_ := (h614_ (sm_LF_w h548_ sm_F1_rf (Int.le_refl _) la_value_60 (la_value_61 h19_ h547_) (Int.le_refl _)))
    obtain ⟨h616_, ⟨h617_, ⟨h618_, h619_⟩⟩⟩ := (h615_ (la_value_47 h19_ h547_))
    intro h620_
    have h621_ := (h620_ h3_)
    have h622_ := (h621_ h617_)
    obtain ⟨h623_, ⟨h624_, ⟨h625_, h626_⟩⟩⟩ := (h622_ h618_)
    obtain ⟨h627_, ⟨h628_, ⟨h629_, h630_⟩⟩⟩ := (h623_ h609_)
    intro h631_
    intro h632_
    intro h633_
    rintro ⟨h634_, h635_⟩
    intro h636_
    obtain ⟨h637_, ⟨h638_, h639_⟩⟩ := (h636_ h613_)
    refine ⟨(la_value_62 h8_ h19_ h547_ h550_), ?_⟩
    intro h640_
    refine ⟨⟨h3_, ⟨h4_, ⟨h5_, ⟨h6_, ⟨h7_, ⟨h8_, ⟨h9_, ⟨h10_, ⟨h11_, ⟨h12_, ⟨h13_, ⟨h489_, ⟨h490_, ⟨h491_, ⟨h492_, ⟨h493_, ⟨(la_value_47 h19_ h547_), ⟨h617_, ⟨h618_, ⟨h609_, ⟨h610_, ⟨h616_, ⟨(la_value_58 h491_ h586_), ⟨(la_value_63 (sm_KC_n h372_).2.1.1 h638_), ⟨(la_value_64 h14_ h593_ h605_), ⟨h588_, (la_value_116 h376_ h377_ h378_ h379_ h589_ h590_ h591_ h593_ h595_ h597_ h598_ h599_ h602_ h611_ h638_)⟩⟩⟩⟩⟩⟩⟩⟩⟩⟩⟩⟩⟩⟩⟩⟩⟩⟩⟩⟩⟩⟩⟩⟩⟩⟩, ?_⟩
    refine ⟨(la_value_117 h25_ e371_ h490_ h593_ h605_ h611_ h627_), ?_⟩
    refine ⟨(la_value_118 e371_ h490_ h593_ h605_ h611_ h627_), ?_⟩
    intro g104
    rintro ⟨h641_, ⟨h642_, ⟨h643_, ⟨h644_, ⟨h645_, ⟨h646_, ⟨h647_, ⟨h648_, ⟨h649_, ⟨h650_, ⟨h651_, ⟨h652_, ⟨h653_, ⟨h654_, ⟨h655_, ⟨h656_, ⟨h657_, ⟨h658_, ⟨h659_, ⟨h660_, ⟨h661_, ⟨h662_, ⟨h663_, ⟨h664_, ⟨h665_, ⟨h666_, ⟨h667_, h668_⟩⟩⟩⟩⟩⟩⟩⟩⟩⟩⟩⟩⟩⟩⟩⟩⟩⟩⟩⟩⟩⟩⟩⟩⟩⟩⟩
    have h669_ := (h667_ (la_value_58 h491_ h586_))
    refine ⟨?_, ?_⟩
    · skip
      refine ⟨h641_, ?_⟩
      refine ⟨h642_, ?_⟩
      refine ⟨h643_, ?_⟩
      refine ⟨h644_, ?_⟩
      refine ⟨h645_, ?_⟩
      refine ⟨h646_, ?_⟩
      refine ⟨(la_value_69 h593_ h605_ h647_), ?_⟩
      refine ⟨(la_value_70 h356_ h644_), ?_⟩
      refine ⟨(sm_F1_tr (sm_F1_le h497_ (Int.le_refl _)) h649_ h495_), ?_⟩
      refine ⟨(sm_F1_tr (sm_F1_le h498_ (Int.le_refl _)) h650_ h495_), ?_⟩
      refine ⟨(sm_F1_tr (sm_F1_le h499_ (Int.le_refl _)) h651_ h495_), ?_⟩
      refine ⟨(sm_F1_tr (sm_F1_le h500_ (Int.le_refl _)) h652_ h495_), ?_⟩
      refine ⟨(sm_F1_tr (sm_F1_le h501_ (Int.le_refl _)) h653_ (la_value_71 h593_ h605_)), ?_⟩
      refine ⟨(sm_F1_tr (sm_F1_le h502_ (Int.le_refl _)) h654_ (la_value_71 h593_ h605_)), ?_⟩
      refine ⟨(sm_F1_tr (sm_F1_le h503_ (Int.le_refl _)) h655_ (la_value_71 h593_ h605_)), ?_⟩
      refine ⟨(sm_F1_tr (sm_F1_le h504_ (Int.le_refl _)) h656_ (la_value_71 h593_ h605_)), ?_⟩
      refine ⟨(la_value_72 h547_ h664_), ?_⟩
      refine ⟨(sm_F1_tr (sm_F1_le h506_ (Int.le_refl _)) h665_ h637_), ?_⟩
      refine ⟨(sm_F1_tr (sm_F1_le h507_ (Int.le_refl _)) h657_ h513_), ?_⟩
      refine ⟨(sm_F1_tr (sm_F1_le h508_ (Int.le_refl _)) h658_ h513_), ?_⟩
      refine ⟨(sm_F1_tr (sm_F1_le h509_ (Int.le_refl _)) h659_ h513_), ?_⟩
      refine ⟨(sm_F1_tr (sm_F1_le h510_ (Int.le_refl _)) h660_ h513_), ?_⟩
      refine ⟨(sm_F1_tr (sm_F1_le h511_ (Int.le_refl _)) h661_ h513_), ?_⟩
      refine ⟨(sm_F1_tr (sm_F1_le h512_ (Int.le_refl _)) h662_ h513_), ?_⟩
      refine ⟨(la_value_22 h513_ h663_), ?_⟩
      refine ⟨(la_value_106 h356_), ?_⟩
      refine ⟨(la_value_74 h602_ h611_ h669_), ?_⟩
      refine ⟨?_, ?_⟩
      · skip
        intro h670_
        exact (sm_LF_w h616_ (sm_F1_le h665_ (la_value_77 h664_)) (Int.le_refl _) (la_value_77 h664_) h646_ (la_value_78 h619_))
      intro h671_
      obtain ⟨h672_, ⟨h673_, ⟨h674_, ⟨h675_, ⟨h676_, ⟨h677_, ⟨h678_, ⟨h679_, ⟨h680_, ⟨h681_, ⟨h682_, ⟨h683_, ⟨h684_, ⟨h685_, ⟨h686_, ⟨h687_, -⟩⟩⟩⟩⟩⟩⟩⟩⟩⟩⟩⟩⟩⟩⟩⟩ := (h668_ h671_)
      refine ⟨h356_, ?_⟩
      refine ⟨h673_, ?_⟩
      refine ⟨h674_, ?_⟩
      refine ⟨h675_, ?_⟩
      refine ⟨h676_, ?_⟩
      refine ⟨(sm_LE_F h613_ (sm_F1_le h665_ (Int.le_refl _)) (Int.le_refl _) h664_ (la_value_79 h679_)), ?_⟩
      refine ⟨(la_value_80 h593_ h634_ h677_ h679_), ?_⟩
      refine ⟨la_value_32, ?_⟩
      refine ⟨(la_value_81 h595_ h680_), ?_⟩
      refine ⟨(la_value_81 h596_ h681_), ?_⟩
      refine ⟨(la_value_81 h597_ h682_), ?_⟩
      refine ⟨(la_value_81 h598_ h683_), ?_⟩
      refine ⟨(la_value_81 h599_ h684_), ?_⟩
      refine ⟨(sm_FC_s (sm_FC_F h600_ (sm_F1_le h652_ (Int.le_refl _)) (Int.le_refl _) (Int.le_refl _) (Int.le_refl _) rfl) (sm_FC_F h678_ sm_F1_rf (Int.le_refl _) (Int.le_refl _) (Int.le_refl _) rfl)), ?_⟩
      refine ⟨(sm_AP_s (sm_AP_F h601_ (sm_F1_le h661_ (Int.le_refl _)) (Int.le_refl _) (Int.le_refl _) (Int.le_refl _)) (sm_AP_F h685_ sm_F1_rf (Int.le_refl _) (Int.le_refl _) (Int.le_refl _))), ?_⟩
      refine ⟨(la_value_83 h602_ h687_), ?_⟩
      exact (sm_HB_1 (by rw [((sm_F1_at h653_ (S 1046 0) (la_value_84 h593_ h605_)).trans ((sm_F1_at h501_ (S 1046 0) la_value_35).trans rfl))]; exact (la_value_85 h37_ h593_ h605_ h638_ h677_ h679_)) (sm_HB_s (sm_HB_F h603_ (sm_F1_le h653_ la_value_43) (Int.le_refl _) la_value_43 (Int.le_refl _) (la_value_87 h635_ h677_ h679_)) (sm_HB_1 (by rw [((sm_F1_at h653_ (g77 1046 0) la_value_35).trans rfl)]; exact (la_value_88 h37_ h593_ h635_ h677_ h679_)) (sm_HB_F h686_ sm_F1_rf (Int.le_refl _) la_value_43 (Int.le_refl _) (la_value_89 h593_ h612_ h679_)))))
    exact (la_value_90 h664_)
  intro h688_
  obtain ⟨h689_, ⟨h690_, ⟨h691_, ⟨h692_, ⟨h693_, h694_⟩⟩⟩⟩⟩ := (h395_ h688_)
  refine ⟨(la_value_121 h8_ h68_ h690_ h691_), ?_⟩
  intro h695_
  refine ⟨?_, ?_⟩
  · skip
    intro h696_
    have h697_ := (h398_ h696_)
    intro h698_
    refine ⟨(la_value_122 h8_ h54_ h405_), ?_⟩
    refine ⟨(la_value_123 h8_ h54_ h405_), ?_⟩
    intro x121
    intro h699_
    refine ⟨?_, ?_⟩
    · skip
      refine ⟨h49_, ?_⟩
      refine ⟨h50_, ?_⟩
      refine ⟨h51_, ?_⟩
      refine ⟨h52_, ?_⟩
      refine ⟨h18_, ?_⟩
      refine ⟨(la_value_124 h54_), ?_⟩
      refine ⟨h55_, ?_⟩
      refine ⟨h56_, ?_⟩
      refine ⟨h57_, ?_⟩
      refine ⟨h58_, ?_⟩
      refine ⟨h59_, ?_⟩
      refine ⟨h60_, ?_⟩
      refine ⟨h61_, ?_⟩
      refine ⟨h62_, ?_⟩
      refine ⟨h63_, ?_⟩
      refine ⟨h64_, ?_⟩
      refine ⟨(la_value_125 h65_), ?_⟩
      refine ⟨(sm_F1_up (sm_F1_le h66_ (Int.le_refl _)) h65_), ?_⟩
      refine ⟨(la_value_126 h690_ h699_), ?_⟩
      refine ⟨(la_value_127 h68_ h691_ h699_), ?_⟩
      refine ⟨?_, ?_⟩
      · skip
        have e700_ : S 1100001 x121 = S 1100001 (sm_lfp (S 11) (S 12) (S 14) l3_4) := congrArg ((S 1100001)) (la_value_128 h699_)
        have e701_ : S 1100007 (g3 1100023 (g3 1046 0)) = S 1100007 (S 1100023 (S 1046 0)) := congrArg ((S 1100007)) h364_
        have e702_ : S 1100007 (g3 1100025 (g3 1046 0)) = S 1100007 (S 1100025 (S 1046 0)) := congrArg ((S 1100007)) h366_
        exact (la_value_129 h692_ e700_)
      refine ⟨?_, ?_⟩
      · skip
        have e703_ : S 1100002 x121 = S 1100002 (sm_lfp (S 11) (S 12) (S 14) l3_4) := congrArg ((S 1100002)) (la_value_128 h699_)
        have e704_ : S 1100007 (g3 1100023 (g3 1046 0)) = S 1100007 (S 1100023 (S 1046 0)) := congrArg ((S 1100007)) h364_
        have e705_ : S 1100007 (g3 1100025 (g3 1046 0)) = S 1100007 (S 1100025 (S 1046 0)) := congrArg ((S 1100007)) h366_
        exact (la_value_130 h70_ h693_ e703_)
      refine ⟨?_, ?_⟩
      · skip
        have e706_ : S 1100005 x121 = S 1100005 (sm_lfp (S 11) (S 12) (S 14) l3_4) := congrArg ((S 1100005)) (la_value_128 h699_)
        have e707_ : S 1100007 (g3 1100023 (g3 1046 0)) = S 1100007 (S 1100023 (S 1046 0)) := congrArg ((S 1100007)) h364_
        have e708_ : S 1100007 (g3 1100025 (g3 1046 0)) = S 1100007 (S 1100025 (S 1046 0)) := congrArg ((S 1100007)) h366_
        exact (la_value_130 h71_ h694_ e706_)
      refine ⟨?_, ?_⟩
      · skip
        have e709_ : S 1100002 x121 = S 1100002 (sm_lfp (S 11) (S 12) (S 14) l3_4) := congrArg ((S 1100002)) (la_value_128 h699_)
        have e710_ : S 1100007 (g3 1100023 (g3 1046 0)) = S 1100007 (S 1100023 (S 1046 0)) := congrArg ((S 1100007)) h364_
        have e711_ : S 1100007 (g3 1100025 (g3 1046 0)) = S 1100007 (S 1100025 (S 1046 0)) := congrArg ((S 1100007)) h366_
        exact (sm_LF_push h72_ h67_ h68_ la_value_131 (la_value_132 h691_ h693_ h699_ e709_) rfl rfl)
      intro h712_
      refine ⟨h356_, ?_⟩
      refine ⟨h357_, ?_⟩
      refine ⟨h358_, ?_⟩
      refine ⟨h359_, ?_⟩
      refine ⟨h360_, ?_⟩
      refine ⟨(sm_LE_push h361_ h69_ h689_ h70_ h71_ rfl rfl (la_value_133 h400_ h697_)), ?_⟩
      refine ⟨h362_, ?_⟩
      refine ⟨h363_, ?_⟩
      refine ⟨h364_, ?_⟩
      refine ⟨h365_, ?_⟩
      refine ⟨h366_, ?_⟩
      refine ⟨h367_, ?_⟩
      refine ⟨h368_, ?_⟩
      refine ⟨h369_, ?_⟩
      exact h370_
    exact (la_value_134 h691_ h699_)
  intro h713_
  have h714_ := (h389_ (la_value_136 h713_))
  have h715_ := (h397_ (la_value_137 h713_))
  have h716_ := (h689_.resolve_left (la_value_135 h713_))
  have h717_ := (h396_ (la_value_137 h713_))
  have h718_ := (h716_.resolve_left (la_value_138 h713_))
  have h719_ := (h717_ h3_)
  have h720_ := (h718_.resolve_right (la_value_139 h713_))
  have h721_ := (h719_ h67_)
  have h722_ := (h721_ h68_)
  obtain ⟨h723_, h724_⟩ := (h722_ h69_)
  refine ⟨(la_value_140 h8_ h68_ h723_ h724_), ?_⟩
  refine ⟨(la_value_141 h15_ h34_ e371_), ?_⟩
  refine ⟨?_, ?_⟩
  · skip
    rintro ⟨h725_, h726_⟩
    have h727_ := (h399_ (la_value_142 h725_ h726_))
    intro h728_
    refine ⟨(la_value_122 h8_ h54_ h405_), ?_⟩
    refine ⟨(la_value_123 h8_ h54_ h405_), ?_⟩
    intro x134
    intro h729_
    refine ⟨?_, ?_⟩
    · skip
      refine ⟨h49_, ?_⟩
      refine ⟨h50_, ?_⟩
      refine ⟨h51_, ?_⟩
      refine ⟨h52_, ?_⟩
      refine ⟨h18_, ?_⟩
      refine ⟨(la_value_124 h54_), ?_⟩
      refine ⟨h55_, ?_⟩
      refine ⟨h56_, ?_⟩
      refine ⟨h57_, ?_⟩
      refine ⟨h58_, ?_⟩
      refine ⟨h59_, ?_⟩
      refine ⟨h60_, ?_⟩
      refine ⟨h61_, ?_⟩
      refine ⟨h62_, ?_⟩
      refine ⟨h63_, ?_⟩
      refine ⟨h64_, ?_⟩
      refine ⟨(la_value_125 h65_), ?_⟩
      refine ⟨(sm_F1_up (sm_F1_le h66_ (Int.le_refl _)) h65_), ?_⟩
      refine ⟨(la_value_126 h690_ h729_), ?_⟩
      refine ⟨(la_value_127 h68_ h691_ h729_), ?_⟩
      refine ⟨?_, ?_⟩
      · skip
        have e730_ : S 1100001 x134 = S 1100001 (sm_lfp (S 11) (S 12) (S 14) l3_4) := congrArg ((S 1100001)) (la_value_128 h729_)
        have e731_ : S 1100007 (g3 1100023 (g3 1046 0)) = S 1100007 (S 1100023 (S 1046 0)) := congrArg ((S 1100007)) h364_
        have e732_ : S 1100007 (g3 1100025 (g3 1046 0)) = S 1100007 (S 1100025 (S 1046 0)) := congrArg ((S 1100007)) h366_
        exact (la_value_129 h692_ e730_)
      refine ⟨?_, ?_⟩
      · skip
        have e733_ : S 1100002 x134 = S 1100002 (sm_lfp (S 11) (S 12) (S 14) l3_4) := congrArg ((S 1100002)) (la_value_128 h729_)
        have e734_ : S 1100007 (g3 1100023 (g3 1046 0)) = S 1100007 (S 1100023 (S 1046 0)) := congrArg ((S 1100007)) h364_
        have e735_ : S 1100007 (g3 1100025 (g3 1046 0)) = S 1100007 (S 1100025 (S 1046 0)) := congrArg ((S 1100007)) h366_
        exact (la_value_130 h70_ h693_ e733_)
      refine ⟨?_, ?_⟩
      · skip
        have e736_ : S 1100005 x134 = S 1100005 (sm_lfp (S 11) (S 12) (S 14) l3_4) := congrArg ((S 1100005)) (la_value_128 h729_)
        have e737_ : S 1100007 (g3 1100023 (g3 1046 0)) = S 1100007 (S 1100023 (S 1046 0)) := congrArg ((S 1100007)) h364_
        have e738_ : S 1100007 (g3 1100025 (g3 1046 0)) = S 1100007 (S 1100025 (S 1046 0)) := congrArg ((S 1100007)) h366_
        exact (la_value_130 h71_ h694_ e736_)
      refine ⟨?_, ?_⟩
      · skip
        have e739_ : S 1100002 x134 = S 1100002 (sm_lfp (S 11) (S 12) (S 14) l3_4) := congrArg ((S 1100002)) (la_value_128 h729_)
        have e740_ : S 1100007 (g3 1100023 (g3 1046 0)) = S 1100007 (S 1100023 (S 1046 0)) := congrArg ((S 1100007)) h364_
        have e741_ : S 1100007 (g3 1100025 (g3 1046 0)) = S 1100007 (S 1100025 (S 1046 0)) := congrArg ((S 1100007)) h366_
        exact (sm_LF_push h72_ h67_ h68_ la_value_131 (la_value_132 h691_ h693_ h729_ e739_) rfl rfl)
      intro h742_
      refine ⟨h356_, ?_⟩
      refine ⟨h357_, ?_⟩
      refine ⟨h358_, ?_⟩
      refine ⟨h359_, ?_⟩
      refine ⟨h360_, ?_⟩
      refine ⟨(sm_LE_push h361_ h69_ h689_ h70_ h71_ rfl rfl (la_value_133 h400_ h727_)), ?_⟩
      refine ⟨h362_, ?_⟩
      refine ⟨h363_, ?_⟩
      refine ⟨h364_, ?_⟩
      refine ⟨h365_, ?_⟩
      refine ⟨h366_, ?_⟩
      refine ⟨h367_, ?_⟩
      refine ⟨h368_, ?_⟩
      refine ⟨h369_, ?_⟩
      exact h370_
    exact (la_value_134 h691_ h729_)
  intro h743_
  have h744_ := (h715_ h743_)
  refine ⟨?_, ?_⟩
  · skip
    refine ⟨h49_, ?_⟩
    refine ⟨h50_, ?_⟩
    refine ⟨h51_, ?_⟩
    refine ⟨h52_, ?_⟩
    intro h745_
    refine ⟨h357_, ?_⟩
    refine ⟨la_value_144, ?_⟩
    refine ⟨la_value_145, ?_⟩
    refine ⟨la_value_146, ?_⟩
    refine ⟨(la_value_147 h55_ h362_ h364_ h367_ h376_), ?_⟩
    intro h746_
    have h747_ := (h377_ (la_value_148 h366_ h746_))
    exact (la_value_149 h55_ h362_ h368_ h747_)
  intro g137
  rintro ⟨h748_, ⟨h749_, ⟨h750_, ⟨h751_, ⟨h752_, ⟨h753_, ⟨h754_, ⟨h755_, ⟨h756_, ⟨h757_, ⟨h758_, ⟨h759_, ⟨h760_, ⟨h761_, ⟨h762_, ⟨h763_, h764_⟩⟩⟩⟩⟩⟩⟩⟩⟩⟩⟩⟩⟩⟩⟩⟩
  intro h765_
  refine ⟨(la_value_122 h8_ h54_ h405_), ?_⟩
  refine ⟨(la_value_123 h8_ h54_ h405_), ?_⟩
  intro x152
  intro h766_
  refine ⟨?_, ?_⟩
  · skip
    refine ⟨(la_value_150 h750_), ?_⟩
    refine ⟨h753_, ?_⟩
    refine ⟨h748_, ?_⟩
    refine ⟨h749_, ?_⟩
    refine ⟨h18_, ?_⟩
    refine ⟨(la_value_124 h54_), ?_⟩
    refine ⟨(la_value_22 h55_ h751_), ?_⟩
    refine ⟨(la_value_70 h356_ h749_), ?_⟩
    refine ⟨(sm_F1_tr (sm_F1_le h57_ (Int.le_refl _)) h756_ h55_), ?_⟩
    refine ⟨(sm_F1_tr (sm_F1_le h58_ (Int.le_refl _)) h757_ h55_), ?_⟩
    refine ⟨(sm_F1_tr (sm_F1_le h59_ (Int.le_refl _)) h758_ h55_), ?_⟩
    refine ⟨(sm_F1_tr (sm_F1_le h60_ (Int.le_refl _)) h759_ h55_), ?_⟩
    refine ⟨(sm_F1_tr (sm_F1_le h61_ (Int.le_refl _)) h760_ (la_value_24 h55_)), ?_⟩
    refine ⟨(sm_F1_tr (sm_F1_le h62_ (Int.le_refl _)) h761_ (la_value_24 h55_)), ?_⟩
    refine ⟨(sm_F1_tr (sm_F1_le h63_ (Int.le_refl _)) h762_ (la_value_24 h55_)), ?_⟩
    refine ⟨(sm_F1_tr (sm_F1_le h64_ (Int.le_refl _)) h763_ (la_value_24 h55_)), ?_⟩
    refine ⟨(la_value_125 h65_), ?_⟩
    refine ⟨(sm_F1_up (sm_F1_le h66_ (Int.le_refl _)) h65_), ?_⟩
    refine ⟨(la_value_126 h690_ h766_), ?_⟩
    refine ⟨(la_value_127 h68_ h691_ h766_), ?_⟩
    refine ⟨?_, ?_⟩
    · skip
      have e767_ : S 1100001 x152 = S 1100001 (sm_lfp (S 11) (S 12) (S 14) l3_4) := congrArg ((S 1100001)) (la_value_128 h766_)
      have e768_ : S 1100007 (g3 1100023 (g3 1046 0)) = S 1100007 (S 1100023 (S 1046 0)) := congrArg ((S 1100007)) h364_
      have e769_ : S 1100007 (g3 1100025 (g3 1046 0)) = S 1100007 (S 1100025 (S 1046 0)) := congrArg ((S 1100007)) h366_
      exact (la_value_129 h692_ e767_)
    refine ⟨?_, ?_⟩
    · skip
      have e770_ : S 1100002 x152 = S 1100002 (sm_lfp (S 11) (S 12) (S 14) l3_4) := congrArg ((S 1100002)) (la_value_128 h766_)
      have e771_ : S 1100007 (g3 1100023 (g3 1046 0)) = S 1100007 (S 1100023 (S 1046 0)) := congrArg ((S 1100007)) h364_
      have e772_ : S 1100007 (g3 1100025 (g3 1046 0)) = S 1100007 (S 1100025 (S 1046 0)) := congrArg ((S 1100007)) h366_
      exact (la_value_130 h70_ h693_ e770_)
    refine ⟨?_, ?_⟩
    · skip
      have e773_ : S 1100005 x152 = S 1100005 (sm_lfp (S 11) (S 12) (S 14) l3_4) := congrArg ((S 1100005)) (la_value_128 h766_)
      have e774_ : S 1100007 (g3 1100023 (g3 1046 0)) = S 1100007 (S 1100023 (S 1046 0)) := congrArg ((S 1100007)) h364_
      have e775_ : S 1100007 (g3 1100025 (g3 1046 0)) = S 1100007 (S 1100025 (S 1046 0)) := congrArg ((S 1100007)) h366_
      exact (la_value_130 h71_ h694_ e773_)
    refine ⟨?_, ?_⟩
    · skip
      have e776_ : S 1100002 x152 = S 1100002 (sm_lfp (S 11) (S 12) (S 14) l3_4) := congrArg ((S 1100002)) (la_value_128 h766_)
      have e777_ : S 1100007 (g3 1100023 (g3 1046 0)) = S 1100007 (S 1100023 (S 1046 0)) := congrArg ((S 1100007)) h364_
      have e778_ : S 1100007 (g3 1100025 (g3 1046 0)) = S 1100007 (S 1100025 (S 1046 0)) := congrArg ((S 1100007)) h366_
      exact (sm_LF_push h72_ h67_ h68_ la_value_131 (la_value_132 h691_ h693_ h766_ e776_) rfl rfl)
    intro h779_
    obtain ⟨h780_, ⟨h781_, ⟨h782_, ⟨h783_, ⟨h784_, ⟨h785_, ⟨h786_, ⟨h787_, ⟨h788_, ⟨h789_, ⟨h790_, ⟨h791_, ⟨h792_, h793_⟩⟩⟩⟩⟩⟩⟩⟩⟩⟩⟩⟩⟩ := (h764_ h779_)
    have h794_ := (h793_ la_value_151)
    have h795_ := (h794_ la_value_153)
    refine ⟨h356_, ?_⟩
    refine ⟨h782_, ?_⟩
    refine ⟨h358_, ?_⟩
    refine ⟨h359_, ?_⟩
    refine ⟨(la_value_154 h360_ h781_), ?_⟩
    refine ⟨(sm_LE_push h361_ h69_ h689_ h70_ h71_ rfl rfl (la_value_155 h744_ h786_ (sm_dl_0 : sm_dl 0 0 = 1))), ?_⟩
    refine ⟨(la_value_156 h362_ h363_ h752_ h781_ h786_ (sm_dl_0 : sm_dl 0 0 = 1)), ?_⟩
    refine ⟨(la_value_157 h362_ h363_ h752_ h781_ h786_ (sm_dl_0 : sm_dl 0 0 = 1)), ?_⟩
    refine ⟨(la_value_158 h364_ h787_ (sm_nt_0 : sm_nt 0 (g3 1046 0) (g3 1100023 (g3 1046 0)) (g3 1100023 (g3 1100023 (g3 1046 0))) = g3 1100023 (g3 1046 0))), ?_⟩
    refine ⟨(la_value_158 h365_ h788_ (sm_nd_0 : sm_nd 0 (g3 1100024 (g3 1046 0)) = g3 1100024 (g3 1046 0))), ?_⟩
    refine ⟨(la_value_158 h366_ h789_ (sm_nl_0 : sm_nl 0 (g3 1046 0) (g3 1100007 (g3 1046 0)) (g3 1100025 (g3 1046 0)) (g3 1100007 (g3 1100025 (g3 1046 0))) (g3 1100025 (g3 1100025 (g3 1046 0))) = g3 1100025 (g3 1046 0))), ?_⟩
    refine ⟨(la_value_158 h367_ h790_ (sm_nt_0 : sm_nt 0 (g3 1100007 (g3 1046 0)) (g3 1100007 (g3 1100023 (g3 1046 0))) (g3 1100007 (g3 1100023 (g3 1100023 (g3 1046 0)))) = g3 1100007 (g3 1100023 (g3 1046 0)))), ?_⟩
    refine ⟨(la_value_81 h368_ h795_), ?_⟩
    refine ⟨(sm_HB_s (sm_HB_F h369_ (sm_F1_le h760_ la_value_43) (Int.le_refl _) (Int.le_refl _) (Int.le_refl _) (la_value_160 h781_)) (sm_HB_1 (by rw [((sm_F1_at h760_ (g3 1046 0) la_value_35).trans rfl)]; exact (la_value_161 h363_ h781_)) (sm_HB_0 h752_))), ?_⟩
    exact (sm_FC_s (sm_FC_F h370_ (sm_F1_le h759_ (Int.le_refl _)) (Int.le_refl _) (Int.le_refl _) (Int.le_refl _) rfl) (sm_FC_1 h785_ (sm_FC_0 h752_)))
  exact (la_value_134 h691_ h766_)
set_option maxRecDepth 8000 in
set_option maxHeartbeats 2000000 in
theorem s_value (d : Int) (h0 : 0 ≤ d) (IH : ∀ d' : Int, 0 ≤ d' → d' < d → P_K d') : T_value d := by
  intro p1 S hok hp1 hpre hd
  have h := f_value d p1 S hok hp1 hpre hd
  have hM := sm_h96
  show sv_T sm_XS sm_cs sm_L sm_sh ((if (S 1047 0) = 0 then (S 1100002 p1) + (600 - (S 1046 0)) + 8 else 4)).toNat (q_value p1 S) 96 0 [(0, .ref 0), (1, sv_I p1)] [] S
  refine sv_aload_n hM dX12_value_0 rfl rfl ?_
  have k1 : sv_R (S 1066 0) := sm_okI hok sm_r1066 0
  have h := h k1
  refine sv_getI hM dX12_value_1 sm_fl_650 (sm_a0 _) sm_k66 rfl (x := (S 1066 0)) rfl ?_
  refine sv_istore_n hM dX12_value_4 (by decide) rfl ?_
  show sv_T sm_XS sm_cs sm_L sm_sh ((if (S 1047 0) = 0 then (S 1100002 p1) + (600 - (S 1046 0)) + 8 else 4)).toNat (q_value p1 S) 96 5 [(0, .ref 0), (1, sv_I p1), (2, sv_I (S 1066 0))] [] S
  refine sv_iload_n hM dX12_value_5 rfl rfl ?_
  have k2 : (sm_WF (S 11) (S 12) (S 13) (S 1100001) (S 1100002) (S 1100005) (S 1100003) (S 1100004) (S 1024 0) (S 1007 0) (S 1009 0) (sm_fn (S 1032 0) (S 21) (S 1056 0)) → 0 ≤ p1 → p1 < (S 1024 0) → ((S 1100001 (p1)) = 1 → 0 ≤ (S 1100002 (p1)) ∧ ((S 11 (p1)) = 3 → (S 12 (5 * (p1) + 1)) < (p1)) ∧ ((S 11 (p1)) = 4 ∨ (S 11 (p1)) = 5 ∨ (S 11 (p1)) = 8 ∨ (S 11 (p1)) = 9 → 17 * (S 1100005 (p1)) + 2 ≤ (S 1100002 (p1))) ∧ 0 ≤ (S 1100005 (p1))) ∧ ((S 1100001 (p1)) = 2 → 0 ≤ (S 1100005 (p1)) ∧ (S 1100002 (p1)) ≤ 17 * (S 1100005 (p1)) + 5 ∧ ((S 11 (p1)) = 33 → 1 ≤ (S 1100005 (p1)))) ∧ ((S 1100001 (p1)) = 6 → 0 ≤ (S 1100002 (p1)) ∧ 1 ≤ (S 1100004 (p1)) ∧ ((S 12 (5 * (p1))) = - 1 → (S 1100004 (p1)) = 2)) ∧ ((S 1100001 (p1)) = 3 → 1 ≤ (S 1100002 (p1)))) := fun h a0 a1 => sm_gx h _ a0 a1
  have h := h k2
  refine sv_istore_n hM dX12_value_6 (by decide) rfl ?_
  show sv_T sm_XS sm_cs sm_L sm_sh ((if (S 1047 0) = 0 then (S 1100002 p1) + (600 - (S 1046 0)) + 8 else 4)).toNat (q_value p1 S) 96 7 [(0, .ref 0), (1, sv_I p1), (2, sv_I (S 1066 0)), (3, sv_I p1)] [] S
  obtain ⟨hin6, h⟩ := h
  have hJ : ∀ a : Int × sv_S, (sv_R a.1 ∧ sm_ok (sv_sts S [26, 27, 28, 29, 1046, 1047, 1100007, 1100023, 1100024, 1100025, 39, 1066] a.2) ∧ (0 ≤ (a.2 1046 0) ∧ (a.2 1046 0) ≤ 600 ∧ 0 ≤ (a.2 1047 0) ∧ (a.2 1047 0) ≤ 1 ∧ 0 ≤ (S 1053 0) ∧ 0 ≤ (a.2 1066 0) ∧ (S 1046 0) ≤ (a.2 1046 0) ∧ ((S 1047 0) = 1 → (a.2 1047 0) = 1) ∧ sm_F1 (S 26) (a.2 26) (S 1046 0) ∧ sm_F1 (S 27) (a.2 27) (S 1046 0) ∧ sm_F1 (S 28) (a.2 28) (S 1046 0) ∧ sm_F1 (S 29) (a.2 29) (S 1046 0) ∧ sm_F1 (S 1100007) (a.2 1100007) ((S 1046 0) + 1) ∧ sm_F1 (S 1100023) (a.2 1100023) ((S 1046 0) + 1) ∧ sm_F1 (S 1100024) (a.2 1100024) ((S 1046 0) + 1) ∧ sm_F1 (S 1100025) (a.2 1100025) ((S 1046 0) + 1) ∧ (S 1066 0) ≤ (a.2 1066 0) ∧ sm_F1 (S 39) (a.2 39) (S 1066 0) ∧ 0 ≤ a.1 ∧ a.1 < (S 1024 0) ∧ (S 1100001 a.1) = 1 ∧ (S 1100002 a.1) ≤ (S 1100002 p1) ∧ (S 1100005 a.1) ≤ (S 1100005 p1) ∧ sm_LF (a.2 39) (S 1100002) (a.2 1066 0) (S 1024 0) (12001 * (S 1100002 a.1) + a.1) ∧ ((a.2 1047 0) = 0 → (S 1047 0) = 0 ∧ sm_KC (a.2 26) (a.2 27) (a.2 28) (a.2 29) (a.2 1100007) (a.2 1100023) (a.2 1100024) (a.2 1100025) (S 31) (S 1100009) (S 1100027) (S 1100028) (S 1100026) (S 1100030) (S 21) (S 32) (S 33) (a.2 1046 0) (S 1053 0) (S 1056 0) (S 1032 0) (S 1007 0) (S 1100033 0) ∧ (S 1100033 0) = (S 1055 0) ∧ 0 ≤ (S 1055 0) ∧ (S 1055 0) ≤ (a.2 1046 0) ∧ sm_LE (a.2 39) (S 11) (S 12) (S 14) (S 1100001) (S 1100002) (S 1100005) (S 1066 0) (a.2 1066 0) (S 1100002 p1) (S 1100005 p1) ((a.2 1100007 (a.2 1046 0)) - (S 1100007 (S 1046 0))) ∧ (a.2 1046 0) - (S 1046 0) = (a.2 1100007 (a.2 1046 0)) - (S 1100007 (S 1046 0)) ∧ (a.2 1100007 (a.2 1046 0)) = (S 1100007 (S 1046 0)) + ((a.2 1046 0) - (S 1046 0)) ∧ (a.2 1100023 (a.2 1046 0)) = (S 1100023 (S 1046 0)) ∧ (a.2 1100024 (a.2 1046 0)) = (S 1100024 (S 1046 0)) ∧ (a.2 1100025 (a.2 1046 0)) = (S 1100025 (S 1046 0)) ∧ (a.2 1100007 (a.2 1100023 (a.2 1046 0))) = (S 1100007 (S 1100023 (S 1046 0))) ∧ (a.2 1100007 (a.2 1100025 (a.2 1046 0))) = (S 1100007 (S 1100025 (S 1046 0))) ∧ sm_HB (a.2 1100007) (S 1046 0) (a.2 1046 0) (2 * (S 1100007 (S 1046 0)) + 2 * ((a.2 1046 0) - (S 1046 0))) ∧ sm_FC (a.2 29) (S 1046 0) (a.2 1046 0) (S 1056 0)))) → sv_T sm_XS sm_cs sm_L sm_sh ((if (S 1047 0) = 0 then (S 1100002 p1) + (600 - (S 1046 0)) + 8 else 4)).toNat (q_value p1 S) 96 7 [(0, .ref 0), (1, sv_I p1), (2, sv_I (S 1066 0)), (3, sv_I a.1)] [] (sv_sts S [26, 27, 28, 29, 1046, 1047, 1100007, 1100023, 1100024, 1100025, 39, 1066] a.2) := by
    refine sv_loop (α := Int × sv_S) (fun a => sv_R a.1 ∧ sm_ok (sv_sts S [26, 27, 28, 29, 1046, 1047, 1100007, 1100023, 1100024, 1100025, 39, 1066] a.2) ∧ (0 ≤ (a.2 1046 0) ∧ (a.2 1046 0) ≤ 600 ∧ 0 ≤ (a.2 1047 0) ∧ (a.2 1047 0) ≤ 1 ∧ 0 ≤ (S 1053 0) ∧ 0 ≤ (a.2 1066 0) ∧ (S 1046 0) ≤ (a.2 1046 0) ∧ ((S 1047 0) = 1 → (a.2 1047 0) = 1) ∧ sm_F1 (S 26) (a.2 26) (S 1046 0) ∧ sm_F1 (S 27) (a.2 27) (S 1046 0) ∧ sm_F1 (S 28) (a.2 28) (S 1046 0) ∧ sm_F1 (S 29) (a.2 29) (S 1046 0) ∧ sm_F1 (S 1100007) (a.2 1100007) ((S 1046 0) + 1) ∧ sm_F1 (S 1100023) (a.2 1100023) ((S 1046 0) + 1) ∧ sm_F1 (S 1100024) (a.2 1100024) ((S 1046 0) + 1) ∧ sm_F1 (S 1100025) (a.2 1100025) ((S 1046 0) + 1) ∧ (S 1066 0) ≤ (a.2 1066 0) ∧ sm_F1 (S 39) (a.2 39) (S 1066 0) ∧ 0 ≤ a.1 ∧ a.1 < (S 1024 0) ∧ (S 1100001 a.1) = 1 ∧ (S 1100002 a.1) ≤ (S 1100002 p1) ∧ (S 1100005 a.1) ≤ (S 1100005 p1) ∧ sm_LF (a.2 39) (S 1100002) (a.2 1066 0) (S 1024 0) (12001 * (S 1100002 a.1) + a.1) ∧ ((a.2 1047 0) = 0 → (S 1047 0) = 0 ∧ sm_KC (a.2 26) (a.2 27) (a.2 28) (a.2 29) (a.2 1100007) (a.2 1100023) (a.2 1100024) (a.2 1100025) (S 31) (S 1100009) (S 1100027) (S 1100028) (S 1100026) (S 1100030) (S 21) (S 32) (S 33) (a.2 1046 0) (S 1053 0) (S 1056 0) (S 1032 0) (S 1007 0) (S 1100033 0) ∧ (S 1100033 0) = (S 1055 0) ∧ 0 ≤ (S 1055 0) ∧ (S 1055 0) ≤ (a.2 1046 0) ∧ sm_LE (a.2 39) (S 11) (S 12) (S 14) (S 1100001) (S 1100002) (S 1100005) (S 1066 0) (a.2 1066 0) (S 1100002 p1) (S 1100005 p1) ((a.2 1100007 (a.2 1046 0)) - (S 1100007 (S 1046 0))) ∧ (a.2 1046 0) - (S 1046 0) = (a.2 1100007 (a.2 1046 0)) - (S 1100007 (S 1046 0)) ∧ (a.2 1100007 (a.2 1046 0)) = (S 1100007 (S 1046 0)) + ((a.2 1046 0) - (S 1046 0)) ∧ (a.2 1100023 (a.2 1046 0)) = (S 1100023 (S 1046 0)) ∧ (a.2 1100024 (a.2 1046 0)) = (S 1100024 (S 1046 0)) ∧ (a.2 1100025 (a.2 1046 0)) = (S 1100025 (S 1046 0)) ∧ (a.2 1100007 (a.2 1100023 (a.2 1046 0))) = (S 1100007 (S 1100023 (S 1046 0))) ∧ (a.2 1100007 (a.2 1100025 (a.2 1046 0))) = (S 1100007 (S 1100025 (S 1046 0))) ∧ sm_HB (a.2 1100007) (S 1046 0) (a.2 1046 0) (2 * (S 1100007 (S 1046 0)) + 2 * ((a.2 1046 0) - (S 1046 0))) ∧ sm_FC (a.2 29) (S 1046 0) (a.2 1046 0) (S 1056 0)))) (fun a => a.1) (fun a => sv_T sm_XS sm_cs sm_L sm_sh ((if (S 1047 0) = 0 then (S 1100002 p1) + (600 - (S 1046 0)) + 8 else 4)).toNat (q_value p1 S) 96 7 [(0, .ref 0), (1, sv_I p1), (2, sv_I (S 1066 0)), (3, sv_I a.1)] [] (sv_sts S [26, 27, 28, 29, 1046, 1047, 1100007, 1100023, 1100024, 1100025, 39, 1066] a.2)) (fun a q => (h a.1 q.1 a.2 q.2.2).1) (fun a q ih5 => ?_)
    obtain ⟨l3_4, g3⟩ := a
    obtain ⟨hl3_4, ok7, hin6i⟩ := q
    have h := (h l3_4 hl3_4 g3 hin6i).2
    show sv_T sm_XS sm_cs sm_L sm_sh ((if (S 1047 0) = 0 then (S 1100002 p1) + (600 - (S 1046 0)) + 8 else 4)).toNat (q_value p1 S) 96 7 [(0, .ref 0), (1, sv_I p1), (2, sv_I (S 1066 0)), (3, sv_I l3_4)] [] (sv_sts S [26, 27, 28, 29, 1046, 1047, 1100007, 1100023, 1100024, 1100025, 39, 1066] g3)
    have md8 : sv_mod [26, 27, 28, 29, 1046, 1047, 1100007, 1100023, 1100024, 1100025, 1053, 31, 1100030, 1100009, 1100027, 1100028, 1100026, 1055, 1100033, 39, 1066] S (sv_sts S [26, 27, 28, 29, 1046, 1047, 1100007, 1100023, 1100024, 1100025, 39, 1066] g3) := sv_mod.sts sv_mod.rf (by decide)
    have md9 : sv_mod [26, 27, 28, 29, 1046, 1047, 1100007, 1100023, 1100024, 1100025, 39, 1066] S (sv_sts S [26, 27, 28, 29, 1046, 1047, 1100007, 1100023, 1100024, 1100025, 39, 1066] g3) := sv_mod.sts sv_mod.rf (by decide)
    refine sv_aload_n hM dX12_value_7 rfl rfl ?_
    have k10 : (0 ≤ (g3 1047 0) ∧ (g3 1047 0) ≤ 1) := sm_okZ ok7 sm_r1047 0
    have h := h k10
    refine sv_getI hM dX12_value_8 sm_fl_609 (sm_a0 _) sm_k47 rfl (x := (g3 1047 0)) rfl ?_
    refine sv_cond_ne hM dX12_value_11 (sv_R01 k10) (t := 77) rfl rfl (fun hc => ?_) (fun hc => ?_)
    · have h := h.1 (hc)
      have k11 : (sm_WF (S 11) (S 12) (S 13) (S 1100001) (S 1100002) (S 1100005) (S 1100003) (S 1100004) (S 1024 0) (S 1007 0) (S 1009 0) (sm_fn (S 1032 0) (S 21) (S 1056 0)) → 0 ≤ l3_4 → l3_4 < (S 1024 0) → (S 1100001 l3_4) = 1 → sm_lfp (S 11) (S 12) (S 14) (l3_4) = -1 → ¬ ((S 11 l3_4) = 3 ∨ (S 11 l3_4) = 7 ∨ (S 11 l3_4) = 8 ∨ (S 11 l3_4) = 11 ∨ (S 11 l3_4) = 12 ∨ (S 11 l3_4) = 13)) := fun h a b d n => sm_lfp_m h _ a b d n
      have h := h k11
      have k12 : (sm_WF (S 11) (S 12) (S 13) (S 1100001) (S 1100002) (S 1100005) (S 1100003) (S 1100004) (S 1024 0) (S 1007 0) (S 1009 0) (sm_fn (S 1032 0) (S 21) (S 1056 0)) → 0 ≤ l3_4 → l3_4 < (S 1024 0) → ((S 1100001 (l3_4)) = 1 → 0 ≤ (S 1100002 (l3_4)) ∧ ((S 11 (l3_4)) = 3 → (S 12 (5 * (l3_4) + 1)) < (l3_4)) ∧ ((S 11 (l3_4)) = 4 ∨ (S 11 (l3_4)) = 5 ∨ (S 11 (l3_4)) = 8 ∨ (S 11 (l3_4)) = 9 → 17 * (S 1100005 (l3_4)) + 2 ≤ (S 1100002 (l3_4))) ∧ 0 ≤ (S 1100005 (l3_4))) ∧ ((S 1100001 (l3_4)) = 2 → 0 ≤ (S 1100005 (l3_4)) ∧ (S 1100002 (l3_4)) ≤ 17 * (S 1100005 (l3_4)) + 5 ∧ ((S 11 (l3_4)) = 33 → 1 ≤ (S 1100005 (l3_4)))) ∧ ((S 1100001 (l3_4)) = 6 → 0 ≤ (S 1100002 (l3_4)) ∧ 1 ≤ (S 1100004 (l3_4)) ∧ ((S 12 (5 * (l3_4))) = - 1 → (S 1100004 (l3_4)) = 2)) ∧ ((S 1100001 (l3_4)) = 3 → 1 ≤ (S 1100002 (l3_4)))) := fun h a0 a1 => sm_gx h _ a0 a1
      have h := h k12
      have k13 : (sm_LE (g3 39) (S 11) (S 12) (S 14) (S 1100001) (S 1100002) (S 1100005) (S 1066 0) (g3 1066 0) (S 1100002 p1) (S 1100005 p1) ((g3 1100007 (g3 1046 0)) - (S 1100007 (S 1046 0))) → (S 1066 0) ≤ (g3 1066 0) ∧ 0 ≤ (g3 1100007 (g3 1046 0)) - (S 1100007 (S 1046 0)) ∧ ((g3 1066 0) = (S 1066 0) → (g3 1100007 (g3 1046 0)) - (S 1100007 (S 1046 0)) = 0)) := sm_LE_c
      have h := h k13
      refine sv_aload_n hM dX12_value_77 rfl rfl ?_
      refine sv_iload_n hM dX12_value_78 rfl rfl ?_
      obtain ⟨o14, h⟩ := h
      obtain ⟨o15, h⟩ := h
      obtain ⟨o16, h⟩ := h
      refine sv_callV hM dX12_value_79 sm_iv_660 (by decide) (sm_a0 _) rfl rfl (Nat.le_of_ble_eq_true rfl) sm_h98 (Nat.le_of_ble_eq_true rfl) (Nat.le_of_ble_eq_true rfl) (F' := (((if (g3 1047 0) = 0 then (S 1100002 l3_4) + (600 - (g3 1046 0)) + 7 else 3))).toNat) (sv_Fe o16) rfl ((IH ((if (g3 1047 0) = 0 then (S 1100002 l3_4) + (600 - (g3 1046 0)) + 7 else 3)) o15.1 o15.2).2.2.1 l3_4 (sv_sts S [26, 27, 28, 29, 1046, 1047, 1100007, 1100023, 1100024, 1100025, 39, 1066] g3) ok7 hl3_4 o14 rfl) (fun v S1 hq => ?_)
      obtain ⟨rfl, ok18, md19, hpo20⟩ := hq
      obtain ⟨g17, rfl⟩ : ∃ g, S1 = sv_sts (sv_sts S [26, 27, 28, 29, 1046, 1047, 1100007, 1100023, 1100024, 1100025, 39, 1066] g3) [26, 27, 28, 29, 1046, 1047, 1100007, 1100023, 1100024, 1100025, 1053, 31, 1100030, 1100009, 1100027, 1100028, 1100026, 1055, 1100033, 39, 1066] g := ⟨_, md19.eq⟩
      show sv_T sm_XS sm_cs sm_L sm_sh ((if (S 1047 0) = 0 then (S 1100002 p1) + (600 - (S 1046 0)) + 8 else 4)).toNat (q_value p1 S) 96 82 [(0, .ref 0), (1, sv_I p1), (2, sv_I (S 1066 0)), (3, sv_I l3_4)] [] (sv_sts (sv_sts S [26, 27, 28, 29, 1046, 1047, 1100007, 1100023, 1100024, 1100025, 39, 1066] g3) [26, 27, 28, 29, 1046, 1047, 1100007, 1100023, 1100024, 1100025, 1053, 31, 1100030, 1100009, 1100027, 1100028, 1100026, 1055, 1100033, 39, 1066] g17)
      have md21 : sv_mod [26, 27, 28, 29, 1046, 1047, 1100007, 1100023, 1100024, 1100025, 1053, 31, 1100030, 1100009, 1100027, 1100028, 1100026, 1055, 1100033, 39, 1066] S (sv_sts (sv_sts S [26, 27, 28, 29, 1046, 1047, 1100007, 1100023, 1100024, 1100025, 39, 1066] g3) [26, 27, 28, 29, 1046, 1047, 1100007, 1100023, 1100024, 1100025, 1053, 31, 1100030, 1100009, 1100027, 1100028, 1100026, 1055, 1100033, 39, 1066] g17) := sv_mod.sts md8 (by decide)
      have h := h g17 hpo20
      obtain ⟨hin24, h⟩ := h
      have hJ : ∀ a : sv_S, (sm_ok (sv_sts (sv_sts (sv_sts S [26, 27, 28, 29, 1046, 1047, 1100007, 1100023, 1100024, 1100025, 39, 1066] g3) [26, 27, 28, 29, 1046, 1047, 1100007, 1100023, 1100024, 1100025, 1053, 31, 1100030, 1100009, 1100027, 1100028, 1100026, 1055, 1100033, 39, 1066] g17) [26, 27, 28, 29, 1046, 1047, 1100007, 1100023, 1100024, 1100025, 1053, 31, 1100030, 1100009, 1100027, 1100028, 1100026, 1055, 1100033, 39, 1066] a) ∧ (0 ≤ (a 1046 0) ∧ (a 1046 0) ≤ 600 ∧ 0 ≤ (a 1047 0) ∧ (a 1047 0) ≤ 1 ∧ 0 ≤ (a 1053 0) ∧ 0 ≤ (a 1066 0) ∧ (S 1046 0) ≤ (a 1046 0) ∧ ((S 1047 0) = 1 → (a 1047 0) = 1) ∧ sm_F1 (S 26) (a 26) (S 1046 0) ∧ sm_F1 (S 27) (a 27) (S 1046 0) ∧ sm_F1 (S 28) (a 28) (S 1046 0) ∧ sm_F1 (S 29) (a 29) (S 1046 0) ∧ sm_F1 (S 1100007) (a 1100007) ((S 1046 0) + 1) ∧ sm_F1 (S 1100023) (a 1100023) ((S 1046 0) + 1) ∧ sm_F1 (S 1100024) (a 1100024) ((S 1046 0) + 1) ∧ sm_F1 (S 1100025) (a 1100025) ((S 1046 0) + 1) ∧ (S 1066 0) ≤ (a 1066 0) ∧ sm_F1 (S 39) (a 39) (S 1066 0) ∧ sm_F1 (S 1100009) (a 1100009) (S 1053 0) ∧ sm_F1 (S 1100027) (a 1100027) (S 1053 0) ∧ sm_F1 (S 1100028) (a 1100028) (S 1053 0) ∧ sm_F1 (S 1100026) (a 1100026) (S 1053 0) ∧ sm_F1 (S 1100030) (a 1100030) (S 1053 0) ∧ sm_F1 (S 31) (a 31) (S 1053 0) ∧ (S 1053 0) ≤ (a 1053 0) ∧ ((S 1047 0) = 1 → (a 1053 0) = (S 1053 0)) ∧ ((S 1047 0) = 0 → (a 1053 0) ≤ (S 1053 0) + 3 * (600 - (S 1046 0)) + (S 1100002 p1)) ∧ (¬ (a 1066 0) = (S 1066 0) → sm_LF (a 39) (S 1100002) (a 1066 0) (S 1024 0) (-1)) ∧ ((a 1047 0) = 0 → (S 1047 0) = 0 ∧ sm_KC (a 26) (a 27) (a 28) (a 29) (a 1100007) (a 1100023) (a 1100024) (a 1100025) (a 31) (a 1100009) (a 1100027) (a 1100028) (a 1100026) (a 1100030) (S 21) (S 32) (S 33) (a 1046 0) (a 1053 0) (S 1056 0) (S 1032 0) (S 1007 0) (a 1100033 0) ∧ (a 1100033 0) = (a 1055 0) ∧ 0 ≤ (a 1055 0) ∧ (a 1055 0) ≤ (a 1046 0) ∧ sm_LE (a 39) (S 11) (S 12) (S 14) (S 1100001) (S 1100002) (S 1100005) (S 1066 0) (a 1066 0) (S 1100002 p1) (S 1100005 p1) ((a 1100007 (a 1046 0)) - (S 1100007 (S 1046 0)) - 1) ∧ (a 1100007 (a 1046 0)) - (S 1100007 (S 1046 0)) ≤ (a 1046 0) - (S 1046 0) ∧ (a 1100007 (a 1046 0)) = (S 1100007 (S 1046 0)) + ((a 1100007 (a 1046 0)) - (S 1100007 (S 1046 0))) ∧ (a 1100023 (a 1046 0)) = (S 1100023 (S 1046 0)) ∧ (a 1100024 (a 1046 0)) = (S 1100024 (S 1046 0)) ∧ (a 1100025 (a 1046 0)) = (S 1100025 (S 1046 0)) ∧ (a 1100007 (a 1100023 (a 1046 0))) = (S 1100007 (S 1100023 (S 1046 0))) ∧ (a 1100007 (a 1100025 (a 1046 0))) = (S 1100007 (S 1100025 (S 1046 0))) ∧ sm_FC (a 29) (S 1046 0) (a 1046 0) (S 1056 0) ∧ sm_AP (a 1100030) (S 1053 0) (a 1053 0) ∧ (a 1053 0) ≤ (S 1053 0) + 3 * ((a 1046 0) - (S 1046 0)) ∧ sm_HB (a 1100007) (S 1046 0) (a 1046 0) (2 * (S 1100007 (S 1046 0)) + ((a 1046 0) - (S 1046 0)) + ((a 1100007 (a 1046 0)) - (S 1100007 (S 1046 0)) - 1) + 8 * (S 1100005 p1) + 10)))) → sv_T sm_XS sm_cs sm_L sm_sh ((if (S 1047 0) = 0 then (S 1100002 p1) + (600 - (S 1046 0)) + 8 else 4)).toNat (q_value p1 S) 96 82 [(0, .ref 0), (1, sv_I p1), (2, sv_I (S 1066 0)), (3, sv_I l3_4)] [] (sv_sts (sv_sts (sv_sts S [26, 27, 28, 29, 1046, 1047, 1100007, 1100023, 1100024, 1100025, 39, 1066] g3) [26, 27, 28, 29, 1046, 1047, 1100007, 1100023, 1100024, 1100025, 1053, 31, 1100030, 1100009, 1100027, 1100028, 1100026, 1055, 1100033, 39, 1066] g17) [26, 27, 28, 29, 1046, 1047, 1100007, 1100023, 1100024, 1100025, 1053, 31, 1100030, 1100009, 1100027, 1100028, 1100026, 1055, 1100033, 39, 1066] a) := by
        refine sv_loop (α := sv_S) (fun a => sm_ok (sv_sts (sv_sts (sv_sts S [26, 27, 28, 29, 1046, 1047, 1100007, 1100023, 1100024, 1100025, 39, 1066] g3) [26, 27, 28, 29, 1046, 1047, 1100007, 1100023, 1100024, 1100025, 1053, 31, 1100030, 1100009, 1100027, 1100028, 1100026, 1055, 1100033, 39, 1066] g17) [26, 27, 28, 29, 1046, 1047, 1100007, 1100023, 1100024, 1100025, 1053, 31, 1100030, 1100009, 1100027, 1100028, 1100026, 1055, 1100033, 39, 1066] a) ∧ (0 ≤ (a 1046 0) ∧ (a 1046 0) ≤ 600 ∧ 0 ≤ (a 1047 0) ∧ (a 1047 0) ≤ 1 ∧ 0 ≤ (a 1053 0) ∧ 0 ≤ (a 1066 0) ∧ (S 1046 0) ≤ (a 1046 0) ∧ ((S 1047 0) = 1 → (a 1047 0) = 1) ∧ sm_F1 (S 26) (a 26) (S 1046 0) ∧ sm_F1 (S 27) (a 27) (S 1046 0) ∧ sm_F1 (S 28) (a 28) (S 1046 0) ∧ sm_F1 (S 29) (a 29) (S 1046 0) ∧ sm_F1 (S 1100007) (a 1100007) ((S 1046 0) + 1) ∧ sm_F1 (S 1100023) (a 1100023) ((S 1046 0) + 1) ∧ sm_F1 (S 1100024) (a 1100024) ((S 1046 0) + 1) ∧ sm_F1 (S 1100025) (a 1100025) ((S 1046 0) + 1) ∧ (S 1066 0) ≤ (a 1066 0) ∧ sm_F1 (S 39) (a 39) (S 1066 0) ∧ sm_F1 (S 1100009) (a 1100009) (S 1053 0) ∧ sm_F1 (S 1100027) (a 1100027) (S 1053 0) ∧ sm_F1 (S 1100028) (a 1100028) (S 1053 0) ∧ sm_F1 (S 1100026) (a 1100026) (S 1053 0) ∧ sm_F1 (S 1100030) (a 1100030) (S 1053 0) ∧ sm_F1 (S 31) (a 31) (S 1053 0) ∧ (S 1053 0) ≤ (a 1053 0) ∧ ((S 1047 0) = 1 → (a 1053 0) = (S 1053 0)) ∧ ((S 1047 0) = 0 → (a 1053 0) ≤ (S 1053 0) + 3 * (600 - (S 1046 0)) + (S 1100002 p1)) ∧ (¬ (a 1066 0) = (S 1066 0) → sm_LF (a 39) (S 1100002) (a 1066 0) (S 1024 0) (-1)) ∧ ((a 1047 0) = 0 → (S 1047 0) = 0 ∧ sm_KC (a 26) (a 27) (a 28) (a 29) (a 1100007) (a 1100023) (a 1100024) (a 1100025) (a 31) (a 1100009) (a 1100027) (a 1100028) (a 1100026) (a 1100030) (S 21) (S 32) (S 33) (a 1046 0) (a 1053 0) (S 1056 0) (S 1032 0) (S 1007 0) (a 1100033 0) ∧ (a 1100033 0) = (a 1055 0) ∧ 0 ≤ (a 1055 0) ∧ (a 1055 0) ≤ (a 1046 0) ∧ sm_LE (a 39) (S 11) (S 12) (S 14) (S 1100001) (S 1100002) (S 1100005) (S 1066 0) (a 1066 0) (S 1100002 p1) (S 1100005 p1) ((a 1100007 (a 1046 0)) - (S 1100007 (S 1046 0)) - 1) ∧ (a 1100007 (a 1046 0)) - (S 1100007 (S 1046 0)) ≤ (a 1046 0) - (S 1046 0) ∧ (a 1100007 (a 1046 0)) = (S 1100007 (S 1046 0)) + ((a 1100007 (a 1046 0)) - (S 1100007 (S 1046 0))) ∧ (a 1100023 (a 1046 0)) = (S 1100023 (S 1046 0)) ∧ (a 1100024 (a 1046 0)) = (S 1100024 (S 1046 0)) ∧ (a 1100025 (a 1046 0)) = (S 1100025 (S 1046 0)) ∧ (a 1100007 (a 1100023 (a 1046 0))) = (S 1100007 (S 1100023 (S 1046 0))) ∧ (a 1100007 (a 1100025 (a 1046 0))) = (S 1100007 (S 1100025 (S 1046 0))) ∧ sm_FC (a 29) (S 1046 0) (a 1046 0) (S 1056 0) ∧ sm_AP (a 1100030) (S 1053 0) (a 1053 0) ∧ (a 1053 0) ≤ (S 1053 0) + 3 * ((a 1046 0) - (S 1046 0)) ∧ sm_HB (a 1100007) (S 1046 0) (a 1046 0) (2 * (S 1100007 (S 1046 0)) + ((a 1046 0) - (S 1046 0)) + ((a 1100007 (a 1046 0)) - (S 1100007 (S 1046 0)) - 1) + 8 * (S 1100005 p1) + 10)))) (fun a => (a 1066 0)) (fun a => sv_T sm_XS sm_cs sm_L sm_sh ((if (S 1047 0) = 0 then (S 1100002 p1) + (600 - (S 1046 0)) + 8 else 4)).toNat (q_value p1 S) 96 82 [(0, .ref 0), (1, sv_I p1), (2, sv_I (S 1066 0)), (3, sv_I l3_4)] [] (sv_sts (sv_sts (sv_sts S [26, 27, 28, 29, 1046, 1047, 1100007, 1100023, 1100024, 1100025, 39, 1066] g3) [26, 27, 28, 29, 1046, 1047, 1100007, 1100023, 1100024, 1100025, 1053, 31, 1100030, 1100009, 1100027, 1100028, 1100026, 1055, 1100033, 39, 1066] g17) [26, 27, 28, 29, 1046, 1047, 1100007, 1100023, 1100024, 1100025, 1053, 31, 1100030, 1100009, 1100027, 1100028, 1100026, 1055, 1100033, 39, 1066] a)) (fun a q => (h a q.2).1) (fun g22 q ih23 => ?_)
        obtain ⟨ok25, hin24i⟩ := q
        have h := (h g22 hin24i).2
        show sv_T sm_XS sm_cs sm_L sm_sh ((if (S 1047 0) = 0 then (S 1100002 p1) + (600 - (S 1046 0)) + 8 else 4)).toNat (q_value p1 S) 96 82 [(0, .ref 0), (1, sv_I p1), (2, sv_I (S 1066 0)), (3, sv_I l3_4)] [] (sv_sts (sv_sts (sv_sts S [26, 27, 28, 29, 1046, 1047, 1100007, 1100023, 1100024, 1100025, 39, 1066] g3) [26, 27, 28, 29, 1046, 1047, 1100007, 1100023, 1100024, 1100025, 1053, 31, 1100030, 1100009, 1100027, 1100028, 1100026, 1055, 1100033, 39, 1066] g17) [26, 27, 28, 29, 1046, 1047, 1100007, 1100023, 1100024, 1100025, 1053, 31, 1100030, 1100009, 1100027, 1100028, 1100026, 1055, 1100033, 39, 1066] g22)
        have md26 : sv_mod [26, 27, 28, 29, 1046, 1047, 1100007, 1100023, 1100024, 1100025, 1053, 31, 1100030, 1100009, 1100027, 1100028, 1100026, 1055, 1100033, 39, 1066] S (sv_sts (sv_sts (sv_sts S [26, 27, 28, 29, 1046, 1047, 1100007, 1100023, 1100024, 1100025, 39, 1066] g3) [26, 27, 28, 29, 1046, 1047, 1100007, 1100023, 1100024, 1100025, 1053, 31, 1100030, 1100009, 1100027, 1100028, 1100026, 1055, 1100033, 39, 1066] g17) [26, 27, 28, 29, 1046, 1047, 1100007, 1100023, 1100024, 1100025, 1053, 31, 1100030, 1100009, 1100027, 1100028, 1100026, 1055, 1100033, 39, 1066] g22) := sv_mod.sts md21 (by decide)
        have md27 : sv_mod [26, 27, 28, 29, 1046, 1047, 1100007, 1100023, 1100024, 1100025, 1053, 31, 1100030, 1100009, 1100027, 1100028, 1100026, 1055, 1100033, 39, 1066] (sv_sts (sv_sts S [26, 27, 28, 29, 1046, 1047, 1100007, 1100023, 1100024, 1100025, 39, 1066] g3) [26, 27, 28, 29, 1046, 1047, 1100007, 1100023, 1100024, 1100025, 1053, 31, 1100030, 1100009, 1100027, 1100028, 1100026, 1055, 1100033, 39, 1066] g17) (sv_sts (sv_sts (sv_sts S [26, 27, 28, 29, 1046, 1047, 1100007, 1100023, 1100024, 1100025, 39, 1066] g3) [26, 27, 28, 29, 1046, 1047, 1100007, 1100023, 1100024, 1100025, 1053, 31, 1100030, 1100009, 1100027, 1100028, 1100026, 1055, 1100033, 39, 1066] g17) [26, 27, 28, 29, 1046, 1047, 1100007, 1100023, 1100024, 1100025, 1053, 31, 1100030, 1100009, 1100027, 1100028, 1100026, 1055, 1100033, 39, 1066] g22) := sv_mod.sts sv_mod.rf (by decide)
        have k28 : (sm_LE (g22 39) (S 11) (S 12) (S 14) (S 1100001) (S 1100002) (S 1100005) (S 1066 0) (g22 1066 0) (S 1100002 p1) (S 1100005 p1) ((g22 1100007 (g22 1046 0)) - (S 1100007 (S 1046 0)) - 1) → (S 1066 0) ≤ (g22 1066 0) ∧ 0 ≤ (g22 1100007 (g22 1046 0)) - (S 1100007 (S 1046 0)) - 1 ∧ ((g22 1066 0) = (S 1066 0) → (g22 1100007 (g22 1046 0)) - (S 1100007 (S 1046 0)) - 1 = 0)) := sm_LE_c
        have h := h k28
        have k29 : (sm_LF (g22 39) (S 1100002) (g22 1066 0) (S 1024 0) (-1) → 0 ≤ (S 1024 0) → (g22 1066 0) ≤ (S 1024 0)) := sm_LF_n
        have h := h k29
        refine sv_aload_n hM dX12_value_82 rfl rfl ?_
        have k30 : sv_R (g22 1066 0) := sm_okI ok25 sm_r1066 0
        have h := h k30
        refine sv_getI hM dX12_value_83 sm_fl_650 (sm_a0 _) sm_k66 rfl (x := (g22 1066 0)) rfl ?_
        refine sv_iload_n hM dX12_value_86 rfl rfl ?_
        refine sv_icmp_le hM dX12_value_87 k30 k1 (t := 123) rfl rfl (fun hc => ?_) (fun hc => ?_)
        · have h := h.1 (hc)
          exact sv_vret hM dX12_value_123 rfl ⟨rfl, ok25, md26, h⟩
        · have h := h.2 (hc)
          refine sv_aload_n hM dX12_value_90 rfl rfl ?_
          refine sv_dupA hM dX12_value_91 rfl ?_
          refine sv_getI hM dX12_value_92 sm_fl_650 (sm_a0 _) sm_k66 rfl (x := (g22 1066 0)) rfl ?_
          refine sv_iconst (d := (1 : Int)) hM dX12_value_95 rfl rfl ?_
          refine sv_isub hM dX12_value_96 rfl ?_
          obtain ⟨o31, h⟩ := h
          refine sv_putI sm_X hM dX12_value_97 sm_fp_650 (sm_a0 _) sm_q66 (Or.inl rfl) rfl rfl rfl rfl ?_
          have ok32 : sm_ok (sv_up (sv_sts (sv_sts (sv_sts S [26, 27, 28, 29, 1046, 1047, 1100007, 1100023, 1100024, 1100025, 39, 1066] g3) [26, 27, 28, 29, 1046, 1047, 1100007, 1100023, 1100024, 1100025, 1053, 31, 1100030, 1100009, 1100027, 1100028, 1100026, 1055, 1100033, 39, 1066] g17) [26, 27, 28, 29, 1046, 1047, 1100007, 1100023, 1100024, 1100025, 1053, 31, 1100030, 1100009, 1100027, 1100028, 1100026, 1055, 1100033, 39, 1066] g22) 1066 0 ((g22 1066 0) - (1 : Int))) := sm_upI ok25 sm_r1066 o31
          have md33 : sv_mod [26, 27, 28, 29, 1046, 1047, 1100007, 1100023, 1100024, 1100025, 1053, 31, 1100030, 1100009, 1100027, 1100028, 1100026, 1055, 1100033, 39, 1066] S (sv_up (sv_sts (sv_sts (sv_sts S [26, 27, 28, 29, 1046, 1047, 1100007, 1100023, 1100024, 1100025, 39, 1066] g3) [26, 27, 28, 29, 1046, 1047, 1100007, 1100023, 1100024, 1100025, 1053, 31, 1100030, 1100009, 1100027, 1100028, 1100026, 1055, 1100033, 39, 1066] g17) [26, 27, 28, 29, 1046, 1047, 1100007, 1100023, 1100024, 1100025, 1053, 31, 1100030, 1100009, 1100027, 1100028, 1100026, 1055, 1100033, 39, 1066] g22) 1066 0 ((g22 1066 0) - (1 : Int))) := sv_mod.up md26 (by decide)
          have md34 : sv_mod [26, 27, 28, 29, 1046, 1047, 1100007, 1100023, 1100024, 1100025, 1053, 31, 1100030, 1100009, 1100027, 1100028, 1100026, 1055, 1100033, 39, 1066] (sv_sts (sv_sts S [26, 27, 28, 29, 1046, 1047, 1100007, 1100023, 1100024, 1100025, 39, 1066] g3) [26, 27, 28, 29, 1046, 1047, 1100007, 1100023, 1100024, 1100025, 1053, 31, 1100030, 1100009, 1100027, 1100028, 1100026, 1055, 1100033, 39, 1066] g17) (sv_up (sv_sts (sv_sts (sv_sts S [26, 27, 28, 29, 1046, 1047, 1100007, 1100023, 1100024, 1100025, 39, 1066] g3) [26, 27, 28, 29, 1046, 1047, 1100007, 1100023, 1100024, 1100025, 1053, 31, 1100030, 1100009, 1100027, 1100028, 1100026, 1055, 1100033, 39, 1066] g17) [26, 27, 28, 29, 1046, 1047, 1100007, 1100023, 1100024, 1100025, 1053, 31, 1100030, 1100009, 1100027, 1100028, 1100026, 1055, 1100033, 39, 1066] g22) 1066 0 ((g22 1066 0) - (1 : Int))) := sv_mod.up md27 (by decide)
          refine sv_aload_n hM dX12_value_100 rfl rfl ?_
          have k35 : (0 ≤ (g22 1047 0) ∧ (g22 1047 0) ≤ 1) := sm_okZ ok32 sm_r1047 0
          have h := h k35
          refine sv_getI hM dX12_value_101 sm_fl_609 (sm_a0 _) sm_k47 rfl (x := (g22 1047 0)) rfl ?_
          refine sv_cond_ne hM dX12_value_104 (sv_R01 k35) (t := 82) rfl rfl (fun hc => ?_) (fun hc => ?_)
          · have h := h.1 (hc)
            have eS := sv_mod.eq md34
            have hb := ih23 ((sv_up (sv_sts (sv_sts (sv_sts S [26, 27, 28, 29, 1046, 1047, 1100007, 1100023, 1100024, 1100025, 39, 1066] g3) [26, 27, 28, 29, 1046, 1047, 1100007, 1100023, 1100024, 1100025, 1053, 31, 1100030, 1100009, 1100027, 1100028, 1100026, 1055, 1100033, 39, 1066] g17) [26, 27, 28, 29, 1046, 1047, 1100007, 1100023, 1100024, 1100025, 1053, 31, 1100030, 1100009, 1100027, 1100028, 1100026, 1055, 1100033, 39, 1066] g22) 1066 0 ((g22 1066 0) - (1 : Int)))) ⟨(by rw [← eS]; exact ok32), h.1⟩ h.2
            have hb : sv_T sm_XS sm_cs sm_L sm_sh ((if (S 1047 0) = 0 then (S 1100002 p1) + (600 - (S 1046 0)) + 8 else 4)).toNat (q_value p1 S) 96 82 [(0, .ref 0), (1, sv_I p1), (2, sv_I (S 1066 0)), (3, sv_I l3_4)] [] (sv_up (sv_sts (sv_sts (sv_sts S [26, 27, 28, 29, 1046, 1047, 1100007, 1100023, 1100024, 1100025, 39, 1066] g3) [26, 27, 28, 29, 1046, 1047, 1100007, 1100023, 1100024, 1100025, 1053, 31, 1100030, 1100009, 1100027, 1100028, 1100026, 1055, 1100033, 39, 1066] g17) [26, 27, 28, 29, 1046, 1047, 1100007, 1100023, 1100024, 1100025, 1053, 31, 1100030, 1100009, 1100027, 1100028, 1100026, 1055, 1100033, 39, 1066] g22) 1066 0 ((g22 1066 0) - (1 : Int))) := Eq.mpr (congrArg (fun Z => sv_T sm_XS sm_cs sm_L sm_sh ((if (S 1047 0) = 0 then (S 1100002 p1) + (600 - (S 1046 0)) + 8 else 4)).toNat (q_value p1 S) 96 82 [(0, .ref 0), (1, sv_I p1), (2, sv_I (S 1066 0)), (3, sv_I l3_4)] [] Z) eS) hb
            exact sv_less (lv := [(0, .ref 0), (1, sv_I p1), (2, sv_I (S 1066 0)), (3, sv_I l3_4)]) (sv_Sub_cons rfl (sv_Sub_cons rfl (sv_Sub_cons rfl (sv_Sub_cons rfl sv_Sub_nil)))) hb
          · have h := h.2 (hc)
            have k36 : (sm_LE (g22 39) (S 11) (S 12) (S 14) (S 1100001) (S 1100002) (S 1100005) (S 1066 0) (((g22 1066 0) - (1 : Int)) + 1) (S 1100002 p1) (S 1100005 p1) ((g22 1100007 (g22 1046 0)) - (S 1100007 (S 1046 0)) - 1) → (S 1066 0) ≤ ((g22 1066 0) - (1 : Int)) → ((S 1100001 (g22 39 ((g22 1066 0) - (1 : Int)))) = 1 ∧ ((S 11 (g22 39 ((g22 1066 0) - (1 : Int)))) = 3 ∨ (S 11 (g22 39 ((g22 1066 0) - (1 : Int)))) = 7 ∨ (S 11 (g22 39 ((g22 1066 0) - (1 : Int)))) = 8 ∨ (S 11 (g22 39 ((g22 1066 0) - (1 : Int)))) = 11 ∨ (S 11 (g22 39 ((g22 1066 0) - (1 : Int)))) = 12 ∨ (S 11 (g22 39 ((g22 1066 0) - (1 : Int)))) = 13) ∧ (S 1100002 (g22 39 ((g22 1066 0) - (1 : Int)))) ≤ (S 1100002 p1) ∧ (S 1100005 (g22 39 ((g22 1066 0) - (1 : Int)))) ≤ (S 1100005 p1)) ∧ sm_LE (g22 39) (S 11) (S 12) (S 14) (S 1100001) (S 1100002) (S 1100005) (S 1066 0) ((g22 1066 0) - (1 : Int)) (S 1100002 p1) (S 1100005 p1) ((g22 1100007 (g22 1046 0)) - (S 1100007 (S 1046 0)) - 1 - sm_cd (S 11) (S 12) (S 14) ((g22 39 ((g22 1066 0) - (1 : Int)))))) := fun h a => sm_LE_pop h rfl a
            have h := h k36
            have k37 : (sm_LF (g22 39) (S 1100002) (((g22 1066 0) - (1 : Int)) + 1) (S 1024 0) (-1) → 0 ≤ ((g22 1066 0) - (1 : Int)) → sm_LF (g22 39) (S 1100002) ((g22 1066 0) - (1 : Int)) (S 1024 0) (12001 * (S 1100002 (g22 39 ((g22 1066 0) - (1 : Int)))) + (g22 39 ((g22 1066 0) - (1 : Int)))) ∧ 0 ≤ (g22 39 ((g22 1066 0) - (1 : Int))) ∧ (g22 39 ((g22 1066 0) - (1 : Int))) < (S 1024 0) ∧ -1 < 12001 * (S 1100002 (g22 39 ((g22 1066 0) - (1 : Int)))) + (g22 39 ((g22 1066 0) - (1 : Int)))) := fun h a => sm_LF_pop h rfl a
            have h := h k37
            have k38 : (sm_WF (S 11) (S 12) (S 13) (S 1100001) (S 1100002) (S 1100005) (S 1100003) (S 1100004) (S 1024 0) (S 1007 0) (S 1009 0) (sm_fn (S 1032 0) (S 21) (S 1056 0)) → 0 ≤ (g22 39 ((g22 1066 0) - (1 : Int))) → (g22 39 ((g22 1066 0) - (1 : Int))) < (S 1024 0) → ((S 1100001 ((g22 39 ((g22 1066 0) - (1 : Int))))) = 1 → 0 ≤ (S 1100002 ((g22 39 ((g22 1066 0) - (1 : Int))))) ∧ ((S 11 ((g22 39 ((g22 1066 0) - (1 : Int))))) = 3 → (S 12 (5 * ((g22 39 ((g22 1066 0) - (1 : Int)))) + 1)) < ((g22 39 ((g22 1066 0) - (1 : Int))))) ∧ ((S 11 ((g22 39 ((g22 1066 0) - (1 : Int))))) = 4 ∨ (S 11 ((g22 39 ((g22 1066 0) - (1 : Int))))) = 5 ∨ (S 11 ((g22 39 ((g22 1066 0) - (1 : Int))))) = 8 ∨ (S 11 ((g22 39 ((g22 1066 0) - (1 : Int))))) = 9 → 17 * (S 1100005 ((g22 39 ((g22 1066 0) - (1 : Int))))) + 2 ≤ (S 1100002 ((g22 39 ((g22 1066 0) - (1 : Int)))))) ∧ 0 ≤ (S 1100005 ((g22 39 ((g22 1066 0) - (1 : Int)))))) ∧ ((S 1100001 ((g22 39 ((g22 1066 0) - (1 : Int))))) = 2 → 0 ≤ (S 1100005 ((g22 39 ((g22 1066 0) - (1 : Int))))) ∧ (S 1100002 ((g22 39 ((g22 1066 0) - (1 : Int))))) ≤ 17 * (S 1100005 ((g22 39 ((g22 1066 0) - (1 : Int))))) + 5 ∧ ((S 11 ((g22 39 ((g22 1066 0) - (1 : Int))))) = 33 → 1 ≤ (S 1100005 ((g22 39 ((g22 1066 0) - (1 : Int))))))) ∧ ((S 1100001 ((g22 39 ((g22 1066 0) - (1 : Int))))) = 6 → 0 ≤ (S 1100002 ((g22 39 ((g22 1066 0) - (1 : Int))))) ∧ 1 ≤ (S 1100004 ((g22 39 ((g22 1066 0) - (1 : Int))))) ∧ ((S 12 (5 * ((g22 39 ((g22 1066 0) - (1 : Int)))))) = - 1 → (S 1100004 ((g22 39 ((g22 1066 0) - (1 : Int))))) = 2)) ∧ ((S 1100001 ((g22 39 ((g22 1066 0) - (1 : Int))))) = 3 → 1 ≤ (S 1100002 ((g22 39 ((g22 1066 0) - (1 : Int))))))) := fun h a0 a1 => sm_gx h _ a0 a1
            have h := h k38
            have k39 : ((S 11 (g22 39 ((g22 1066 0) - (1 : Int)))) = 8 → ¬ ((S 11 (S 12 (5 * (g22 39 ((g22 1066 0) - (1 : Int)))))) = 7 ∧ (S 14 (S 12 (5 * (g22 39 ((g22 1066 0) - (1 : Int)))))) = 0) → sm_cd (S 11) (S 12) (S 14) ((g22 39 ((g22 1066 0) - (1 : Int)))) = 1) := sm_cd_1
            have h := h k39
            have k40 : (¬ (S 11 (g22 39 ((g22 1066 0) - (1 : Int)))) = 8 → sm_cd (S 11) (S 12) (S 14) ((g22 39 ((g22 1066 0) - (1 : Int)))) = 0) := sm_cd_0
            have h := h k40
            have k41 : ((S 11 (S 12 (5 * (g22 39 ((g22 1066 0) - (1 : Int)))))) = 7 ∧ (S 14 (S 12 (5 * (g22 39 ((g22 1066 0) - (1 : Int)))))) = 0 → sm_cd (S 11) (S 12) (S 14) ((g22 39 ((g22 1066 0) - (1 : Int)))) = 0) := sm_cd_m
            have h := h k41
            have k42 : (0 ≤ sm_cd (S 11) (S 12) (S 14) ((g22 39 ((g22 1066 0) - (1 : Int)))) ∧ sm_cd (S 11) (S 12) (S 14) ((g22 39 ((g22 1066 0) - (1 : Int)))) ≤ 1) := sm_cd_r
            have h := h k42
            have k43 : (sm_LE (g22 39) (S 11) (S 12) (S 14) (S 1100001) (S 1100002) (S 1100005) (S 1066 0) ((g22 1066 0) - (1 : Int)) (S 1100002 p1) (S 1100005 p1) ((g22 1100007 (g22 1046 0)) - (S 1100007 (S 1046 0)) - 1 - sm_cd (S 11) (S 12) (S 14) ((g22 39 ((g22 1066 0) - (1 : Int))))) → (S 1066 0) ≤ ((g22 1066 0) - (1 : Int)) ∧ 0 ≤ (g22 1100007 (g22 1046 0)) - (S 1100007 (S 1046 0)) - 1 - sm_cd (S 11) (S 12) (S 14) ((g22 39 ((g22 1066 0) - (1 : Int)))) ∧ (((g22 1066 0) - (1 : Int)) = (S 1066 0) → (g22 1100007 (g22 1046 0)) - (S 1100007 (S 1046 0)) - 1 - sm_cd (S 11) (S 12) (S 14) ((g22 39 ((g22 1066 0) - (1 : Int)))) = 0)) := sm_LE_c
            have h := h k43
            refine sv_aload_n hM dX12_value_107 rfl rfl ?_
            refine sv_aload_n hM dX12_value_108 rfl rfl ?_
            refine sv_getA hM dX12_value_109 sm_fl_128 (sm_a0 _) sm_k67 rfl ?_
            refine sv_aload_n hM dX12_value_112 rfl rfl ?_
            refine sv_getI hM dX12_value_113 sm_fl_650 (sm_a0 _) sm_k66 rfl (x := ((g22 1066 0) - (1 : Int))) rfl ?_
            obtain ⟨o44, h⟩ := h
            have k45 : sv_R (g22 39 ((g22 1066 0) - (1 : Int))) := sm_okI ok32 sm_r39 ((g22 1066 0) - (1 : Int))
            have h := h k45
            refine sv_iald hM dX12_value_116 (sm_a39 _) (by decide) o44.1 o44.2 rfl (x := (g22 39 ((g22 1066 0) - (1 : Int)))) rfl ?_
            obtain ⟨o46, h⟩ := h
            obtain ⟨o47, h⟩ := h
            obtain ⟨o48, h⟩ := h
            refine sv_callV hM dX12_value_117 sm_iv_663 (by decide) (sm_a0 _) rfl rfl (Nat.le_of_ble_eq_true rfl) sm_h97 (Nat.le_of_ble_eq_true rfl) (Nat.le_of_ble_eq_true rfl) (F' := (((S 1100002 (g22 39 ((g22 1066 0) - (1 : Int)))) + (600 - (g22 1046 0)) + 8)).toNat) (sv_Fe o48) rfl ((IH ((S 1100002 (g22 39 ((g22 1066 0) - (1 : Int)))) + (600 - (g22 1046 0)) + 8) o47.1 o47.2).2.1 (g22 39 ((g22 1066 0) - (1 : Int))) (sv_up (sv_sts (sv_sts (sv_sts S [26, 27, 28, 29, 1046, 1047, 1100007, 1100023, 1100024, 1100025, 39, 1066] g3) [26, 27, 28, 29, 1046, 1047, 1100007, 1100023, 1100024, 1100025, 1053, 31, 1100030, 1100009, 1100027, 1100028, 1100026, 1055, 1100033, 39, 1066] g17) [26, 27, 28, 29, 1046, 1047, 1100007, 1100023, 1100024, 1100025, 1053, 31, 1100030, 1100009, 1100027, 1100028, 1100026, 1055, 1100033, 39, 1066] g22) 1066 0 ((g22 1066 0) - (1 : Int))) ok32 k45 o46 rfl) (fun v S1 hq => ?_)
            obtain ⟨rfl, ok50, md51, hpo52⟩ := hq
            obtain ⟨g49, rfl⟩ : ∃ g, S1 = sv_sts (sv_up (sv_sts (sv_sts (sv_sts S [26, 27, 28, 29, 1046, 1047, 1100007, 1100023, 1100024, 1100025, 39, 1066] g3) [26, 27, 28, 29, 1046, 1047, 1100007, 1100023, 1100024, 1100025, 1053, 31, 1100030, 1100009, 1100027, 1100028, 1100026, 1055, 1100033, 39, 1066] g17) [26, 27, 28, 29, 1046, 1047, 1100007, 1100023, 1100024, 1100025, 1053, 31, 1100030, 1100009, 1100027, 1100028, 1100026, 1055, 1100033, 39, 1066] g22) 1066 0 ((g22 1066 0) - (1 : Int))) [26, 27, 28, 29, 1046, 1047, 1100007, 1100023, 1100024, 1100025, 1053, 31, 1100030, 1100009, 1100027, 1100028, 1100026, 1055, 1100033, 39, 1066] g := ⟨_, md51.eq⟩
            show sv_T sm_XS sm_cs sm_L sm_sh ((if (S 1047 0) = 0 then (S 1100002 p1) + (600 - (S 1046 0)) + 8 else 4)).toNat (q_value p1 S) 96 120 [(0, .ref 0), (1, sv_I p1), (2, sv_I (S 1066 0)), (3, sv_I l3_4)] [] (sv_sts (sv_up (sv_sts (sv_sts (sv_sts S [26, 27, 28, 29, 1046, 1047, 1100007, 1100023, 1100024, 1100025, 39, 1066] g3) [26, 27, 28, 29, 1046, 1047, 1100007, 1100023, 1100024, 1100025, 1053, 31, 1100030, 1100009, 1100027, 1100028, 1100026, 1055, 1100033, 39, 1066] g17) [26, 27, 28, 29, 1046, 1047, 1100007, 1100023, 1100024, 1100025, 1053, 31, 1100030, 1100009, 1100027, 1100028, 1100026, 1055, 1100033, 39, 1066] g22) 1066 0 ((g22 1066 0) - (1 : Int))) [26, 27, 28, 29, 1046, 1047, 1100007, 1100023, 1100024, 1100025, 1053, 31, 1100030, 1100009, 1100027, 1100028, 1100026, 1055, 1100033, 39, 1066] g49)
            have md53 : sv_mod [26, 27, 28, 29, 1046, 1047, 1100007, 1100023, 1100024, 1100025, 1053, 31, 1100030, 1100009, 1100027, 1100028, 1100026, 1055, 1100033, 39, 1066] S (sv_sts (sv_up (sv_sts (sv_sts (sv_sts S [26, 27, 28, 29, 1046, 1047, 1100007, 1100023, 1100024, 1100025, 39, 1066] g3) [26, 27, 28, 29, 1046, 1047, 1100007, 1100023, 1100024, 1100025, 1053, 31, 1100030, 1100009, 1100027, 1100028, 1100026, 1055, 1100033, 39, 1066] g17) [26, 27, 28, 29, 1046, 1047, 1100007, 1100023, 1100024, 1100025, 1053, 31, 1100030, 1100009, 1100027, 1100028, 1100026, 1055, 1100033, 39, 1066] g22) 1066 0 ((g22 1066 0) - (1 : Int))) [26, 27, 28, 29, 1046, 1047, 1100007, 1100023, 1100024, 1100025, 1053, 31, 1100030, 1100009, 1100027, 1100028, 1100026, 1055, 1100033, 39, 1066] g49) := sv_mod.sts md33 (by decide)
            have md54 : sv_mod [26, 27, 28, 29, 1046, 1047, 1100007, 1100023, 1100024, 1100025, 1053, 31, 1100030, 1100009, 1100027, 1100028, 1100026, 1055, 1100033, 39, 1066] (sv_sts (sv_sts S [26, 27, 28, 29, 1046, 1047, 1100007, 1100023, 1100024, 1100025, 39, 1066] g3) [26, 27, 28, 29, 1046, 1047, 1100007, 1100023, 1100024, 1100025, 1053, 31, 1100030, 1100009, 1100027, 1100028, 1100026, 1055, 1100033, 39, 1066] g17) (sv_sts (sv_up (sv_sts (sv_sts (sv_sts S [26, 27, 28, 29, 1046, 1047, 1100007, 1100023, 1100024, 1100025, 39, 1066] g3) [26, 27, 28, 29, 1046, 1047, 1100007, 1100023, 1100024, 1100025, 1053, 31, 1100030, 1100009, 1100027, 1100028, 1100026, 1055, 1100033, 39, 1066] g17) [26, 27, 28, 29, 1046, 1047, 1100007, 1100023, 1100024, 1100025, 1053, 31, 1100030, 1100009, 1100027, 1100028, 1100026, 1055, 1100033, 39, 1066] g22) 1066 0 ((g22 1066 0) - (1 : Int))) [26, 27, 28, 29, 1046, 1047, 1100007, 1100023, 1100024, 1100025, 1053, 31, 1100030, 1100009, 1100027, 1100028, 1100026, 1055, 1100033, 39, 1066] g49) := sv_mod.sts md34 (by decide)
            have h := h g49 hpo52
            refine sv_goto hM dX12_value_120 (pc' := 82) rfl ?_
            have eS := sv_mod.eq md54
            have hb := ih23 ((sv_sts (sv_up (sv_sts (sv_sts (sv_sts S [26, 27, 28, 29, 1046, 1047, 1100007, 1100023, 1100024, 1100025, 39, 1066] g3) [26, 27, 28, 29, 1046, 1047, 1100007, 1100023, 1100024, 1100025, 1053, 31, 1100030, 1100009, 1100027, 1100028, 1100026, 1055, 1100033, 39, 1066] g17) [26, 27, 28, 29, 1046, 1047, 1100007, 1100023, 1100024, 1100025, 1053, 31, 1100030, 1100009, 1100027, 1100028, 1100026, 1055, 1100033, 39, 1066] g22) 1066 0 ((g22 1066 0) - (1 : Int))) [26, 27, 28, 29, 1046, 1047, 1100007, 1100023, 1100024, 1100025, 1053, 31, 1100030, 1100009, 1100027, 1100028, 1100026, 1055, 1100033, 39, 1066] g49)) ⟨(by rw [← eS]; exact ok50), h.1⟩ h.2
            have hb : sv_T sm_XS sm_cs sm_L sm_sh ((if (S 1047 0) = 0 then (S 1100002 p1) + (600 - (S 1046 0)) + 8 else 4)).toNat (q_value p1 S) 96 82 [(0, .ref 0), (1, sv_I p1), (2, sv_I (S 1066 0)), (3, sv_I l3_4)] [] (sv_sts (sv_up (sv_sts (sv_sts (sv_sts S [26, 27, 28, 29, 1046, 1047, 1100007, 1100023, 1100024, 1100025, 39, 1066] g3) [26, 27, 28, 29, 1046, 1047, 1100007, 1100023, 1100024, 1100025, 1053, 31, 1100030, 1100009, 1100027, 1100028, 1100026, 1055, 1100033, 39, 1066] g17) [26, 27, 28, 29, 1046, 1047, 1100007, 1100023, 1100024, 1100025, 1053, 31, 1100030, 1100009, 1100027, 1100028, 1100026, 1055, 1100033, 39, 1066] g22) 1066 0 ((g22 1066 0) - (1 : Int))) [26, 27, 28, 29, 1046, 1047, 1100007, 1100023, 1100024, 1100025, 1053, 31, 1100030, 1100009, 1100027, 1100028, 1100026, 1055, 1100033, 39, 1066] g49) := Eq.mpr (congrArg (fun Z => sv_T sm_XS sm_cs sm_L sm_sh ((if (S 1047 0) = 0 then (S 1100002 p1) + (600 - (S 1046 0)) + 8 else 4)).toNat (q_value p1 S) 96 82 [(0, .ref 0), (1, sv_I p1), (2, sv_I (S 1066 0)), (3, sv_I l3_4)] [] Z) eS) hb
            exact sv_less (lv := [(0, .ref 0), (1, sv_I p1), (2, sv_I (S 1066 0)), (3, sv_I l3_4)]) (sv_Sub_cons rfl (sv_Sub_cons rfl (sv_Sub_cons rfl (sv_Sub_cons rfl sv_Sub_nil)))) hb
      have eS := sv_mod.eq (sv_mod.rf (l := [26, 27, 28, 29, 1046, 1047, 1100007, 1100023, 1100024, 1100025, 1053, 31, 1100030, 1100009, 1100027, 1100028, 1100026, 1055, 1100033, 39, 1066]) (S := (sv_sts (sv_sts S [26, 27, 28, 29, 1046, 1047, 1100007, 1100023, 1100024, 1100025, 39, 1066] g3) [26, 27, 28, 29, 1046, 1047, 1100007, 1100023, 1100024, 1100025, 1053, 31, 1100030, 1100009, 1100027, 1100028, 1100026, 1055, 1100033, 39, 1066] g17)))
      have hb := hJ ((sv_sts (sv_sts S [26, 27, 28, 29, 1046, 1047, 1100007, 1100023, 1100024, 1100025, 39, 1066] g3) [26, 27, 28, 29, 1046, 1047, 1100007, 1100023, 1100024, 1100025, 1053, 31, 1100030, 1100009, 1100027, 1100028, 1100026, 1055, 1100033, 39, 1066] g17)) ⟨(by rw [← eS]; exact ok18), hin24⟩
      have hb : sv_T sm_XS sm_cs sm_L sm_sh ((if (S 1047 0) = 0 then (S 1100002 p1) + (600 - (S 1046 0)) + 8 else 4)).toNat (q_value p1 S) 96 82 [(0, .ref 0), (1, sv_I p1), (2, sv_I (S 1066 0)), (3, sv_I l3_4)] [] (sv_sts (sv_sts S [26, 27, 28, 29, 1046, 1047, 1100007, 1100023, 1100024, 1100025, 39, 1066] g3) [26, 27, 28, 29, 1046, 1047, 1100007, 1100023, 1100024, 1100025, 1053, 31, 1100030, 1100009, 1100027, 1100028, 1100026, 1055, 1100033, 39, 1066] g17) := Eq.mpr (congrArg (fun Z => sv_T sm_XS sm_cs sm_L sm_sh ((if (S 1047 0) = 0 then (S 1100002 p1) + (600 - (S 1046 0)) + 8 else 4)).toNat (q_value p1 S) 96 82 [(0, .ref 0), (1, sv_I p1), (2, sv_I (S 1066 0)), (3, sv_I l3_4)] [] Z) eS) hb
      exact hb
    · have h := h.2 (hc)
      have k55 : (sm_WF (S 11) (S 12) (S 13) (S 1100001) (S 1100002) (S 1100005) (S 1100003) (S 1100004) (S 1024 0) (S 1007 0) (S 1009 0) (sm_fn (S 1032 0) (S 21) (S 1056 0)) → 0 ≤ l3_4 → l3_4 < (S 1024 0) → ((S 1100001 (l3_4)) = 1 → 0 ≤ (S 1100002 (l3_4)) ∧ ((S 11 (l3_4)) = 3 → (S 12 (5 * (l3_4) + 1)) < (l3_4)) ∧ ((S 11 (l3_4)) = 4 ∨ (S 11 (l3_4)) = 5 ∨ (S 11 (l3_4)) = 8 ∨ (S 11 (l3_4)) = 9 → 17 * (S 1100005 (l3_4)) + 2 ≤ (S 1100002 (l3_4))) ∧ 0 ≤ (S 1100005 (l3_4))) ∧ ((S 1100001 (l3_4)) = 2 → 0 ≤ (S 1100005 (l3_4)) ∧ (S 1100002 (l3_4)) ≤ 17 * (S 1100005 (l3_4)) + 5 ∧ ((S 11 (l3_4)) = 33 → 1 ≤ (S 1100005 (l3_4)))) ∧ ((S 1100001 (l3_4)) = 6 → 0 ≤ (S 1100002 (l3_4)) ∧ 1 ≤ (S 1100004 (l3_4)) ∧ ((S 12 (5 * (l3_4))) = - 1 → (S 1100004 (l3_4)) = 2)) ∧ ((S 1100001 (l3_4)) = 3 → 1 ≤ (S 1100002 (l3_4)))) := fun h a0 a1 => sm_gx h _ a0 a1
      have h := h k55
      have k56 : (sm_WF (S 11) (S 12) (S 13) (S 1100001) (S 1100002) (S 1100005) (S 1100003) (S 1100004) (S 1024 0) (S 1007 0) (S 1009 0) (sm_fn (S 1032 0) (S 21) (S 1056 0)) → 0 ≤ l3_4 → l3_4 < (S 1024 0) → (S 1100001 l3_4) = 1 → ¬ sm_lfp (S 11) (S 12) (S 14) (l3_4) = -1 → ((S 11 l3_4) = 3 ∨ (S 11 l3_4) = 7 ∨ (S 11 l3_4) = 8 ∨ (S 11 l3_4) = 11 ∨ (S 11 l3_4) = 12 ∨ (S 11 l3_4) = 13) ∧ 0 ≤ sm_lfp (S 11) (S 12) (S 14) (l3_4) ∧ sm_lfp (S 11) (S 12) (S 14) (l3_4) < l3_4 ∧ (S 1100001 (sm_lfp (S 11) (S 12) (S 14) (l3_4))) = 1 ∧ (S 1100002 (sm_lfp (S 11) (S 12) (S 14) (l3_4))) ≤ (S 1100002 l3_4) ∧ (S 1100005 (sm_lfp (S 11) (S 12) (S 14) (l3_4))) ≤ (S 1100005 l3_4)) := fun h a b d n => sm_lfp_e h _ a b d n
      have h := h k56
      have k57 : ((S 11 l3_4) = 8 → sm_WF (S 11) (S 12) (S 13) (S 1100001) (S 1100002) (S 1100005) (S 1100003) (S 1100004) (S 1024 0) (S 1007 0) (S 1009 0) (sm_fn (S 1032 0) (S 21) (S 1056 0)) → 0 ≤ l3_4 → l3_4 < (S 1024 0) → (S 1100001 l3_4) = 1 → 0 ≤ (S 12 (5 * l3_4)) ∧ (S 12 (5 * l3_4)) < l3_4) := fun z h a b d => sm_h_v14 h _ a b d z
      have h := h k57
      have k58 : ((S 11 l3_4) = 8 → ¬ ((S 11 (S 12 (5 * l3_4))) = 7 ∧ (S 14 (S 12 (5 * l3_4))) = 0) → sm_cd (S 11) (S 12) (S 14) (l3_4) = 1) := sm_cd_1
      have h := h k58
      have k59 : (¬ (S 11 l3_4) = 8 → sm_cd (S 11) (S 12) (S 14) (l3_4) = 0) := sm_cd_0
      have h := h k59
      have k60 : ((S 11 (S 12 (5 * l3_4))) = 7 ∧ (S 14 (S 12 (5 * l3_4))) = 0 → sm_cd (S 11) (S 12) (S 14) (l3_4) = 0) := sm_cd_m
      have h := h k60
      have k61 : (0 ≤ sm_cd (S 11) (S 12) (S 14) (l3_4) ∧ sm_cd (S 11) (S 12) (S 14) (l3_4) ≤ 1) := sm_cd_r
      have h := h k61
      have k62 : (sm_LF (g3 39) (S 1100002) (g3 1066 0) (S 1024 0) (12001 * (S 1100002 l3_4) + l3_4) → 0 ≤ l3_4 → l3_4 < (S 1024 0) → (g3 1066 0) + 1 ≤ (S 1024 0)) := fun h a b => sm_LF_e h a b (Int.le_refl _)
      have h := h k62
      refine sv_aload_n hM dX12_value_14 rfl rfl ?_
      refine sv_iload_n hM dX12_value_15 rfl rfl ?_
      obtain ⟨o63, h⟩ := h
      obtain ⟨o64, h⟩ := h
      refine sv_callV hM dX12_value_16 sm_iv_653 (by decide) (sm_a0 _) rfl rfl (Nat.le_of_ble_eq_true rfl) sm_h94 (Nat.le_of_ble_eq_true rfl) (Nat.le_of_ble_eq_true rfl) (F' := 2) (sv_Fn (n := 2) o64) rfl (t_leftPart l3_4 (sv_sts S [26, 27, 28, 29, 1046, 1047, 1100007, 1100023, 1100024, 1100025, 39, 1066] g3) ok7 hl3_4 o63) (fun v S1 hq => ?_)
      obtain ⟨rfl, hS1⟩ := hq
      obtain rfl : (sv_sts S [26, 27, 28, 29, 1046, 1047, 1100007, 1100023, 1100024, 1100025, 39, 1066] g3) = S1 := hS1.symm
      show sv_T sm_XS sm_cs sm_L sm_sh ((if (S 1047 0) = 0 then (S 1100002 p1) + (600 - (S 1046 0)) + 8 else 4)).toNat (q_value p1 S) 96 19 [(0, .ref 0), (1, sv_I p1), (2, sv_I (S 1066 0)), (3, sv_I l3_4)] [sv_I (sm_lfp (S 11) (S 12) (S 14) (l3_4))] (sv_sts S [26, 27, 28, 29, 1046, 1047, 1100007, 1100023, 1100024, 1100025, 39, 1066] g3)
      refine sv_iconst (d := (-1 : Int)) hM dX12_value_19 rfl rfl ?_
      obtain ⟨o65, h⟩ := h
      refine sv_icmp_eq hM dX12_value_20 o65 (⟨by decide, by decide⟩ : sv_R (-1 : Int)) (t := 77) rfl rfl (fun hc => ?_) (fun hc => ?_)
      · have h := h.1 (hc)
        have k66 : (sm_WF (S 11) (S 12) (S 13) (S 1100001) (S 1100002) (S 1100005) (S 1100003) (S 1100004) (S 1024 0) (S 1007 0) (S 1009 0) (sm_fn (S 1032 0) (S 21) (S 1056 0)) → 0 ≤ l3_4 → l3_4 < (S 1024 0) → (S 1100001 l3_4) = 1 → sm_lfp (S 11) (S 12) (S 14) (l3_4) = -1 → ¬ ((S 11 l3_4) = 3 ∨ (S 11 l3_4) = 7 ∨ (S 11 l3_4) = 8 ∨ (S 11 l3_4) = 11 ∨ (S 11 l3_4) = 12 ∨ (S 11 l3_4) = 13)) := fun h a b d n => sm_lfp_m h _ a b d n
        have h := h k66
        have k67 : (sm_WF (S 11) (S 12) (S 13) (S 1100001) (S 1100002) (S 1100005) (S 1100003) (S 1100004) (S 1024 0) (S 1007 0) (S 1009 0) (sm_fn (S 1032 0) (S 21) (S 1056 0)) → 0 ≤ l3_4 → l3_4 < (S 1024 0) → ((S 1100001 (l3_4)) = 1 → 0 ≤ (S 1100002 (l3_4)) ∧ ((S 11 (l3_4)) = 3 → (S 12 (5 * (l3_4) + 1)) < (l3_4)) ∧ ((S 11 (l3_4)) = 4 ∨ (S 11 (l3_4)) = 5 ∨ (S 11 (l3_4)) = 8 ∨ (S 11 (l3_4)) = 9 → 17 * (S 1100005 (l3_4)) + 2 ≤ (S 1100002 (l3_4))) ∧ 0 ≤ (S 1100005 (l3_4))) ∧ ((S 1100001 (l3_4)) = 2 → 0 ≤ (S 1100005 (l3_4)) ∧ (S 1100002 (l3_4)) ≤ 17 * (S 1100005 (l3_4)) + 5 ∧ ((S 11 (l3_4)) = 33 → 1 ≤ (S 1100005 (l3_4)))) ∧ ((S 1100001 (l3_4)) = 6 → 0 ≤ (S 1100002 (l3_4)) ∧ 1 ≤ (S 1100004 (l3_4)) ∧ ((S 12 (5 * (l3_4))) = - 1 → (S 1100004 (l3_4)) = 2)) ∧ ((S 1100001 (l3_4)) = 3 → 1 ≤ (S 1100002 (l3_4)))) := fun h a0 a1 => sm_gx h _ a0 a1
        have h := h k67
        have k68 : (sm_LE (g3 39) (S 11) (S 12) (S 14) (S 1100001) (S 1100002) (S 1100005) (S 1066 0) (g3 1066 0) (S 1100002 p1) (S 1100005 p1) ((g3 1100007 (g3 1046 0)) - (S 1100007 (S 1046 0))) → (S 1066 0) ≤ (g3 1066 0) ∧ 0 ≤ (g3 1100007 (g3 1046 0)) - (S 1100007 (S 1046 0)) ∧ ((g3 1066 0) = (S 1066 0) → (g3 1100007 (g3 1046 0)) - (S 1100007 (S 1046 0)) = 0)) := sm_LE_c
        have h := h k68
        refine sv_aload_n hM dX12_value_77 rfl rfl ?_
        refine sv_iload_n hM dX12_value_78 rfl rfl ?_
        obtain ⟨o69, h⟩ := h
        obtain ⟨o70, h⟩ := h
        obtain ⟨o71, h⟩ := h
        refine sv_callV hM dX12_value_79 sm_iv_660 (by decide) (sm_a0 _) rfl rfl (Nat.le_of_ble_eq_true rfl) sm_h98 (Nat.le_of_ble_eq_true rfl) (Nat.le_of_ble_eq_true rfl) (F' := (((if (g3 1047 0) = 0 then (S 1100002 l3_4) + (600 - (g3 1046 0)) + 7 else 3))).toNat) (sv_Fe o71) rfl ((IH ((if (g3 1047 0) = 0 then (S 1100002 l3_4) + (600 - (g3 1046 0)) + 7 else 3)) o70.1 o70.2).2.2.1 l3_4 (sv_sts S [26, 27, 28, 29, 1046, 1047, 1100007, 1100023, 1100024, 1100025, 39, 1066] g3) ok7 hl3_4 o69 rfl) (fun v S1 hq => ?_)
        obtain ⟨rfl, ok73, md74, hpo75⟩ := hq
        obtain ⟨g72, rfl⟩ : ∃ g, S1 = sv_sts (sv_sts S [26, 27, 28, 29, 1046, 1047, 1100007, 1100023, 1100024, 1100025, 39, 1066] g3) [26, 27, 28, 29, 1046, 1047, 1100007, 1100023, 1100024, 1100025, 1053, 31, 1100030, 1100009, 1100027, 1100028, 1100026, 1055, 1100033, 39, 1066] g := ⟨_, md74.eq⟩
        show sv_T sm_XS sm_cs sm_L sm_sh ((if (S 1047 0) = 0 then (S 1100002 p1) + (600 - (S 1046 0)) + 8 else 4)).toNat (q_value p1 S) 96 82 [(0, .ref 0), (1, sv_I p1), (2, sv_I (S 1066 0)), (3, sv_I l3_4)] [] (sv_sts (sv_sts S [26, 27, 28, 29, 1046, 1047, 1100007, 1100023, 1100024, 1100025, 39, 1066] g3) [26, 27, 28, 29, 1046, 1047, 1100007, 1100023, 1100024, 1100025, 1053, 31, 1100030, 1100009, 1100027, 1100028, 1100026, 1055, 1100033, 39, 1066] g72)
        have md76 : sv_mod [26, 27, 28, 29, 1046, 1047, 1100007, 1100023, 1100024, 1100025, 1053, 31, 1100030, 1100009, 1100027, 1100028, 1100026, 1055, 1100033, 39, 1066] S (sv_sts (sv_sts S [26, 27, 28, 29, 1046, 1047, 1100007, 1100023, 1100024, 1100025, 39, 1066] g3) [26, 27, 28, 29, 1046, 1047, 1100007, 1100023, 1100024, 1100025, 1053, 31, 1100030, 1100009, 1100027, 1100028, 1100026, 1055, 1100033, 39, 1066] g72) := sv_mod.sts md8 (by decide)
        have h := h g72 hpo75
        obtain ⟨hin79, h⟩ := h
        have hJ : ∀ a : sv_S, (sm_ok (sv_sts (sv_sts (sv_sts S [26, 27, 28, 29, 1046, 1047, 1100007, 1100023, 1100024, 1100025, 39, 1066] g3) [26, 27, 28, 29, 1046, 1047, 1100007, 1100023, 1100024, 1100025, 1053, 31, 1100030, 1100009, 1100027, 1100028, 1100026, 1055, 1100033, 39, 1066] g72) [26, 27, 28, 29, 1046, 1047, 1100007, 1100023, 1100024, 1100025, 1053, 31, 1100030, 1100009, 1100027, 1100028, 1100026, 1055, 1100033, 39, 1066] a) ∧ (0 ≤ (a 1046 0) ∧ (a 1046 0) ≤ 600 ∧ 0 ≤ (a 1047 0) ∧ (a 1047 0) ≤ 1 ∧ 0 ≤ (a 1053 0) ∧ 0 ≤ (a 1066 0) ∧ (S 1046 0) ≤ (a 1046 0) ∧ ((S 1047 0) = 1 → (a 1047 0) = 1) ∧ sm_F1 (S 26) (a 26) (S 1046 0) ∧ sm_F1 (S 27) (a 27) (S 1046 0) ∧ sm_F1 (S 28) (a 28) (S 1046 0) ∧ sm_F1 (S 29) (a 29) (S 1046 0) ∧ sm_F1 (S 1100007) (a 1100007) ((S 1046 0) + 1) ∧ sm_F1 (S 1100023) (a 1100023) ((S 1046 0) + 1) ∧ sm_F1 (S 1100024) (a 1100024) ((S 1046 0) + 1) ∧ sm_F1 (S 1100025) (a 1100025) ((S 1046 0) + 1) ∧ (S 1066 0) ≤ (a 1066 0) ∧ sm_F1 (S 39) (a 39) (S 1066 0) ∧ sm_F1 (S 1100009) (a 1100009) (S 1053 0) ∧ sm_F1 (S 1100027) (a 1100027) (S 1053 0) ∧ sm_F1 (S 1100028) (a 1100028) (S 1053 0) ∧ sm_F1 (S 1100026) (a 1100026) (S 1053 0) ∧ sm_F1 (S 1100030) (a 1100030) (S 1053 0) ∧ sm_F1 (S 31) (a 31) (S 1053 0) ∧ (S 1053 0) ≤ (a 1053 0) ∧ ((S 1047 0) = 1 → (a 1053 0) = (S 1053 0)) ∧ ((S 1047 0) = 0 → (a 1053 0) ≤ (S 1053 0) + 3 * (600 - (S 1046 0)) + (S 1100002 p1)) ∧ (¬ (a 1066 0) = (S 1066 0) → sm_LF (a 39) (S 1100002) (a 1066 0) (S 1024 0) (-1)) ∧ ((a 1047 0) = 0 → (S 1047 0) = 0 ∧ sm_KC (a 26) (a 27) (a 28) (a 29) (a 1100007) (a 1100023) (a 1100024) (a 1100025) (a 31) (a 1100009) (a 1100027) (a 1100028) (a 1100026) (a 1100030) (S 21) (S 32) (S 33) (a 1046 0) (a 1053 0) (S 1056 0) (S 1032 0) (S 1007 0) (a 1100033 0) ∧ (a 1100033 0) = (a 1055 0) ∧ 0 ≤ (a 1055 0) ∧ (a 1055 0) ≤ (a 1046 0) ∧ sm_LE (a 39) (S 11) (S 12) (S 14) (S 1100001) (S 1100002) (S 1100005) (S 1066 0) (a 1066 0) (S 1100002 p1) (S 1100005 p1) ((a 1100007 (a 1046 0)) - (S 1100007 (S 1046 0)) - 1) ∧ (a 1100007 (a 1046 0)) - (S 1100007 (S 1046 0)) ≤ (a 1046 0) - (S 1046 0) ∧ (a 1100007 (a 1046 0)) = (S 1100007 (S 1046 0)) + ((a 1100007 (a 1046 0)) - (S 1100007 (S 1046 0))) ∧ (a 1100023 (a 1046 0)) = (S 1100023 (S 1046 0)) ∧ (a 1100024 (a 1046 0)) = (S 1100024 (S 1046 0)) ∧ (a 1100025 (a 1046 0)) = (S 1100025 (S 1046 0)) ∧ (a 1100007 (a 1100023 (a 1046 0))) = (S 1100007 (S 1100023 (S 1046 0))) ∧ (a 1100007 (a 1100025 (a 1046 0))) = (S 1100007 (S 1100025 (S 1046 0))) ∧ sm_FC (a 29) (S 1046 0) (a 1046 0) (S 1056 0) ∧ sm_AP (a 1100030) (S 1053 0) (a 1053 0) ∧ (a 1053 0) ≤ (S 1053 0) + 3 * ((a 1046 0) - (S 1046 0)) ∧ sm_HB (a 1100007) (S 1046 0) (a 1046 0) (2 * (S 1100007 (S 1046 0)) + ((a 1046 0) - (S 1046 0)) + ((a 1100007 (a 1046 0)) - (S 1100007 (S 1046 0)) - 1) + 8 * (S 1100005 p1) + 10)))) → sv_T sm_XS sm_cs sm_L sm_sh ((if (S 1047 0) = 0 then (S 1100002 p1) + (600 - (S 1046 0)) + 8 else 4)).toNat (q_value p1 S) 96 82 [(0, .ref 0), (1, sv_I p1), (2, sv_I (S 1066 0)), (3, sv_I l3_4)] [] (sv_sts (sv_sts (sv_sts S [26, 27, 28, 29, 1046, 1047, 1100007, 1100023, 1100024, 1100025, 39, 1066] g3) [26, 27, 28, 29, 1046, 1047, 1100007, 1100023, 1100024, 1100025, 1053, 31, 1100030, 1100009, 1100027, 1100028, 1100026, 1055, 1100033, 39, 1066] g72) [26, 27, 28, 29, 1046, 1047, 1100007, 1100023, 1100024, 1100025, 1053, 31, 1100030, 1100009, 1100027, 1100028, 1100026, 1055, 1100033, 39, 1066] a) := by
          refine sv_loop (α := sv_S) (fun a => sm_ok (sv_sts (sv_sts (sv_sts S [26, 27, 28, 29, 1046, 1047, 1100007, 1100023, 1100024, 1100025, 39, 1066] g3) [26, 27, 28, 29, 1046, 1047, 1100007, 1100023, 1100024, 1100025, 1053, 31, 1100030, 1100009, 1100027, 1100028, 1100026, 1055, 1100033, 39, 1066] g72) [26, 27, 28, 29, 1046, 1047, 1100007, 1100023, 1100024, 1100025, 1053, 31, 1100030, 1100009, 1100027, 1100028, 1100026, 1055, 1100033, 39, 1066] a) ∧ (0 ≤ (a 1046 0) ∧ (a 1046 0) ≤ 600 ∧ 0 ≤ (a 1047 0) ∧ (a 1047 0) ≤ 1 ∧ 0 ≤ (a 1053 0) ∧ 0 ≤ (a 1066 0) ∧ (S 1046 0) ≤ (a 1046 0) ∧ ((S 1047 0) = 1 → (a 1047 0) = 1) ∧ sm_F1 (S 26) (a 26) (S 1046 0) ∧ sm_F1 (S 27) (a 27) (S 1046 0) ∧ sm_F1 (S 28) (a 28) (S 1046 0) ∧ sm_F1 (S 29) (a 29) (S 1046 0) ∧ sm_F1 (S 1100007) (a 1100007) ((S 1046 0) + 1) ∧ sm_F1 (S 1100023) (a 1100023) ((S 1046 0) + 1) ∧ sm_F1 (S 1100024) (a 1100024) ((S 1046 0) + 1) ∧ sm_F1 (S 1100025) (a 1100025) ((S 1046 0) + 1) ∧ (S 1066 0) ≤ (a 1066 0) ∧ sm_F1 (S 39) (a 39) (S 1066 0) ∧ sm_F1 (S 1100009) (a 1100009) (S 1053 0) ∧ sm_F1 (S 1100027) (a 1100027) (S 1053 0) ∧ sm_F1 (S 1100028) (a 1100028) (S 1053 0) ∧ sm_F1 (S 1100026) (a 1100026) (S 1053 0) ∧ sm_F1 (S 1100030) (a 1100030) (S 1053 0) ∧ sm_F1 (S 31) (a 31) (S 1053 0) ∧ (S 1053 0) ≤ (a 1053 0) ∧ ((S 1047 0) = 1 → (a 1053 0) = (S 1053 0)) ∧ ((S 1047 0) = 0 → (a 1053 0) ≤ (S 1053 0) + 3 * (600 - (S 1046 0)) + (S 1100002 p1)) ∧ (¬ (a 1066 0) = (S 1066 0) → sm_LF (a 39) (S 1100002) (a 1066 0) (S 1024 0) (-1)) ∧ ((a 1047 0) = 0 → (S 1047 0) = 0 ∧ sm_KC (a 26) (a 27) (a 28) (a 29) (a 1100007) (a 1100023) (a 1100024) (a 1100025) (a 31) (a 1100009) (a 1100027) (a 1100028) (a 1100026) (a 1100030) (S 21) (S 32) (S 33) (a 1046 0) (a 1053 0) (S 1056 0) (S 1032 0) (S 1007 0) (a 1100033 0) ∧ (a 1100033 0) = (a 1055 0) ∧ 0 ≤ (a 1055 0) ∧ (a 1055 0) ≤ (a 1046 0) ∧ sm_LE (a 39) (S 11) (S 12) (S 14) (S 1100001) (S 1100002) (S 1100005) (S 1066 0) (a 1066 0) (S 1100002 p1) (S 1100005 p1) ((a 1100007 (a 1046 0)) - (S 1100007 (S 1046 0)) - 1) ∧ (a 1100007 (a 1046 0)) - (S 1100007 (S 1046 0)) ≤ (a 1046 0) - (S 1046 0) ∧ (a 1100007 (a 1046 0)) = (S 1100007 (S 1046 0)) + ((a 1100007 (a 1046 0)) - (S 1100007 (S 1046 0))) ∧ (a 1100023 (a 1046 0)) = (S 1100023 (S 1046 0)) ∧ (a 1100024 (a 1046 0)) = (S 1100024 (S 1046 0)) ∧ (a 1100025 (a 1046 0)) = (S 1100025 (S 1046 0)) ∧ (a 1100007 (a 1100023 (a 1046 0))) = (S 1100007 (S 1100023 (S 1046 0))) ∧ (a 1100007 (a 1100025 (a 1046 0))) = (S 1100007 (S 1100025 (S 1046 0))) ∧ sm_FC (a 29) (S 1046 0) (a 1046 0) (S 1056 0) ∧ sm_AP (a 1100030) (S 1053 0) (a 1053 0) ∧ (a 1053 0) ≤ (S 1053 0) + 3 * ((a 1046 0) - (S 1046 0)) ∧ sm_HB (a 1100007) (S 1046 0) (a 1046 0) (2 * (S 1100007 (S 1046 0)) + ((a 1046 0) - (S 1046 0)) + ((a 1100007 (a 1046 0)) - (S 1100007 (S 1046 0)) - 1) + 8 * (S 1100005 p1) + 10)))) (fun a => (a 1066 0)) (fun a => sv_T sm_XS sm_cs sm_L sm_sh ((if (S 1047 0) = 0 then (S 1100002 p1) + (600 - (S 1046 0)) + 8 else 4)).toNat (q_value p1 S) 96 82 [(0, .ref 0), (1, sv_I p1), (2, sv_I (S 1066 0)), (3, sv_I l3_4)] [] (sv_sts (sv_sts (sv_sts S [26, 27, 28, 29, 1046, 1047, 1100007, 1100023, 1100024, 1100025, 39, 1066] g3) [26, 27, 28, 29, 1046, 1047, 1100007, 1100023, 1100024, 1100025, 1053, 31, 1100030, 1100009, 1100027, 1100028, 1100026, 1055, 1100033, 39, 1066] g72) [26, 27, 28, 29, 1046, 1047, 1100007, 1100023, 1100024, 1100025, 1053, 31, 1100030, 1100009, 1100027, 1100028, 1100026, 1055, 1100033, 39, 1066] a)) (fun a q => (h a q.2).1) (fun g77 q ih78 => ?_)
          obtain ⟨ok80, hin79i⟩ := q
          have h := (h g77 hin79i).2
          show sv_T sm_XS sm_cs sm_L sm_sh ((if (S 1047 0) = 0 then (S 1100002 p1) + (600 - (S 1046 0)) + 8 else 4)).toNat (q_value p1 S) 96 82 [(0, .ref 0), (1, sv_I p1), (2, sv_I (S 1066 0)), (3, sv_I l3_4)] [] (sv_sts (sv_sts (sv_sts S [26, 27, 28, 29, 1046, 1047, 1100007, 1100023, 1100024, 1100025, 39, 1066] g3) [26, 27, 28, 29, 1046, 1047, 1100007, 1100023, 1100024, 1100025, 1053, 31, 1100030, 1100009, 1100027, 1100028, 1100026, 1055, 1100033, 39, 1066] g72) [26, 27, 28, 29, 1046, 1047, 1100007, 1100023, 1100024, 1100025, 1053, 31, 1100030, 1100009, 1100027, 1100028, 1100026, 1055, 1100033, 39, 1066] g77)
          have md81 : sv_mod [26, 27, 28, 29, 1046, 1047, 1100007, 1100023, 1100024, 1100025, 1053, 31, 1100030, 1100009, 1100027, 1100028, 1100026, 1055, 1100033, 39, 1066] S (sv_sts (sv_sts (sv_sts S [26, 27, 28, 29, 1046, 1047, 1100007, 1100023, 1100024, 1100025, 39, 1066] g3) [26, 27, 28, 29, 1046, 1047, 1100007, 1100023, 1100024, 1100025, 1053, 31, 1100030, 1100009, 1100027, 1100028, 1100026, 1055, 1100033, 39, 1066] g72) [26, 27, 28, 29, 1046, 1047, 1100007, 1100023, 1100024, 1100025, 1053, 31, 1100030, 1100009, 1100027, 1100028, 1100026, 1055, 1100033, 39, 1066] g77) := sv_mod.sts md76 (by decide)
          have md82 : sv_mod [26, 27, 28, 29, 1046, 1047, 1100007, 1100023, 1100024, 1100025, 1053, 31, 1100030, 1100009, 1100027, 1100028, 1100026, 1055, 1100033, 39, 1066] (sv_sts (sv_sts S [26, 27, 28, 29, 1046, 1047, 1100007, 1100023, 1100024, 1100025, 39, 1066] g3) [26, 27, 28, 29, 1046, 1047, 1100007, 1100023, 1100024, 1100025, 1053, 31, 1100030, 1100009, 1100027, 1100028, 1100026, 1055, 1100033, 39, 1066] g72) (sv_sts (sv_sts (sv_sts S [26, 27, 28, 29, 1046, 1047, 1100007, 1100023, 1100024, 1100025, 39, 1066] g3) [26, 27, 28, 29, 1046, 1047, 1100007, 1100023, 1100024, 1100025, 1053, 31, 1100030, 1100009, 1100027, 1100028, 1100026, 1055, 1100033, 39, 1066] g72) [26, 27, 28, 29, 1046, 1047, 1100007, 1100023, 1100024, 1100025, 1053, 31, 1100030, 1100009, 1100027, 1100028, 1100026, 1055, 1100033, 39, 1066] g77) := sv_mod.sts sv_mod.rf (by decide)
          have k83 : (sm_LE (g77 39) (S 11) (S 12) (S 14) (S 1100001) (S 1100002) (S 1100005) (S 1066 0) (g77 1066 0) (S 1100002 p1) (S 1100005 p1) ((g77 1100007 (g77 1046 0)) - (S 1100007 (S 1046 0)) - 1) → (S 1066 0) ≤ (g77 1066 0) ∧ 0 ≤ (g77 1100007 (g77 1046 0)) - (S 1100007 (S 1046 0)) - 1 ∧ ((g77 1066 0) = (S 1066 0) → (g77 1100007 (g77 1046 0)) - (S 1100007 (S 1046 0)) - 1 = 0)) := sm_LE_c
          have h := h k83
          have k84 : (sm_LF (g77 39) (S 1100002) (g77 1066 0) (S 1024 0) (-1) → 0 ≤ (S 1024 0) → (g77 1066 0) ≤ (S 1024 0)) := sm_LF_n
          have h := h k84
          refine sv_aload_n hM dX12_value_82 rfl rfl ?_
          have k85 : sv_R (g77 1066 0) := sm_okI ok80 sm_r1066 0
          have h := h k85
          refine sv_getI hM dX12_value_83 sm_fl_650 (sm_a0 _) sm_k66 rfl (x := (g77 1066 0)) rfl ?_
          refine sv_iload_n hM dX12_value_86 rfl rfl ?_
          refine sv_icmp_le hM dX12_value_87 k85 k1 (t := 123) rfl rfl (fun hc => ?_) (fun hc => ?_)
          · have h := h.1 (hc)
            exact sv_vret hM dX12_value_123 rfl ⟨rfl, ok80, md81, h⟩
          · have h := h.2 (hc)
            refine sv_aload_n hM dX12_value_90 rfl rfl ?_
            refine sv_dupA hM dX12_value_91 rfl ?_
            refine sv_getI hM dX12_value_92 sm_fl_650 (sm_a0 _) sm_k66 rfl (x := (g77 1066 0)) rfl ?_
            refine sv_iconst (d := (1 : Int)) hM dX12_value_95 rfl rfl ?_
            refine sv_isub hM dX12_value_96 rfl ?_
            obtain ⟨o86, h⟩ := h
            refine sv_putI sm_X hM dX12_value_97 sm_fp_650 (sm_a0 _) sm_q66 (Or.inl rfl) rfl rfl rfl rfl ?_
            have ok87 : sm_ok (sv_up (sv_sts (sv_sts (sv_sts S [26, 27, 28, 29, 1046, 1047, 1100007, 1100023, 1100024, 1100025, 39, 1066] g3) [26, 27, 28, 29, 1046, 1047, 1100007, 1100023, 1100024, 1100025, 1053, 31, 1100030, 1100009, 1100027, 1100028, 1100026, 1055, 1100033, 39, 1066] g72) [26, 27, 28, 29, 1046, 1047, 1100007, 1100023, 1100024, 1100025, 1053, 31, 1100030, 1100009, 1100027, 1100028, 1100026, 1055, 1100033, 39, 1066] g77) 1066 0 ((g77 1066 0) - (1 : Int))) := sm_upI ok80 sm_r1066 o86
            have md88 : sv_mod [26, 27, 28, 29, 1046, 1047, 1100007, 1100023, 1100024, 1100025, 1053, 31, 1100030, 1100009, 1100027, 1100028, 1100026, 1055, 1100033, 39, 1066] S (sv_up (sv_sts (sv_sts (sv_sts S [26, 27, 28, 29, 1046, 1047, 1100007, 1100023, 1100024, 1100025, 39, 1066] g3) [26, 27, 28, 29, 1046, 1047, 1100007, 1100023, 1100024, 1100025, 1053, 31, 1100030, 1100009, 1100027, 1100028, 1100026, 1055, 1100033, 39, 1066] g72) [26, 27, 28, 29, 1046, 1047, 1100007, 1100023, 1100024, 1100025, 1053, 31, 1100030, 1100009, 1100027, 1100028, 1100026, 1055, 1100033, 39, 1066] g77) 1066 0 ((g77 1066 0) - (1 : Int))) := sv_mod.up md81 (by decide)
            have md89 : sv_mod [26, 27, 28, 29, 1046, 1047, 1100007, 1100023, 1100024, 1100025, 1053, 31, 1100030, 1100009, 1100027, 1100028, 1100026, 1055, 1100033, 39, 1066] (sv_sts (sv_sts S [26, 27, 28, 29, 1046, 1047, 1100007, 1100023, 1100024, 1100025, 39, 1066] g3) [26, 27, 28, 29, 1046, 1047, 1100007, 1100023, 1100024, 1100025, 1053, 31, 1100030, 1100009, 1100027, 1100028, 1100026, 1055, 1100033, 39, 1066] g72) (sv_up (sv_sts (sv_sts (sv_sts S [26, 27, 28, 29, 1046, 1047, 1100007, 1100023, 1100024, 1100025, 39, 1066] g3) [26, 27, 28, 29, 1046, 1047, 1100007, 1100023, 1100024, 1100025, 1053, 31, 1100030, 1100009, 1100027, 1100028, 1100026, 1055, 1100033, 39, 1066] g72) [26, 27, 28, 29, 1046, 1047, 1100007, 1100023, 1100024, 1100025, 1053, 31, 1100030, 1100009, 1100027, 1100028, 1100026, 1055, 1100033, 39, 1066] g77) 1066 0 ((g77 1066 0) - (1 : Int))) := sv_mod.up md82 (by decide)
            refine sv_aload_n hM dX12_value_100 rfl rfl ?_
            have k90 : (0 ≤ (g77 1047 0) ∧ (g77 1047 0) ≤ 1) := sm_okZ ok87 sm_r1047 0
            have h := h k90
            refine sv_getI hM dX12_value_101 sm_fl_609 (sm_a0 _) sm_k47 rfl (x := (g77 1047 0)) rfl ?_
            refine sv_cond_ne hM dX12_value_104 (sv_R01 k90) (t := 82) rfl rfl (fun hc => ?_) (fun hc => ?_)
            · have h := h.1 (hc)
              have eS := sv_mod.eq md89
              have hb := ih78 ((sv_up (sv_sts (sv_sts (sv_sts S [26, 27, 28, 29, 1046, 1047, 1100007, 1100023, 1100024, 1100025, 39, 1066] g3) [26, 27, 28, 29, 1046, 1047, 1100007, 1100023, 1100024, 1100025, 1053, 31, 1100030, 1100009, 1100027, 1100028, 1100026, 1055, 1100033, 39, 1066] g72) [26, 27, 28, 29, 1046, 1047, 1100007, 1100023, 1100024, 1100025, 1053, 31, 1100030, 1100009, 1100027, 1100028, 1100026, 1055, 1100033, 39, 1066] g77) 1066 0 ((g77 1066 0) - (1 : Int)))) ⟨(by rw [← eS]; exact ok87), h.1⟩ h.2
              have hb : sv_T sm_XS sm_cs sm_L sm_sh ((if (S 1047 0) = 0 then (S 1100002 p1) + (600 - (S 1046 0)) + 8 else 4)).toNat (q_value p1 S) 96 82 [(0, .ref 0), (1, sv_I p1), (2, sv_I (S 1066 0)), (3, sv_I l3_4)] [] (sv_up (sv_sts (sv_sts (sv_sts S [26, 27, 28, 29, 1046, 1047, 1100007, 1100023, 1100024, 1100025, 39, 1066] g3) [26, 27, 28, 29, 1046, 1047, 1100007, 1100023, 1100024, 1100025, 1053, 31, 1100030, 1100009, 1100027, 1100028, 1100026, 1055, 1100033, 39, 1066] g72) [26, 27, 28, 29, 1046, 1047, 1100007, 1100023, 1100024, 1100025, 1053, 31, 1100030, 1100009, 1100027, 1100028, 1100026, 1055, 1100033, 39, 1066] g77) 1066 0 ((g77 1066 0) - (1 : Int))) := Eq.mpr (congrArg (fun Z => sv_T sm_XS sm_cs sm_L sm_sh ((if (S 1047 0) = 0 then (S 1100002 p1) + (600 - (S 1046 0)) + 8 else 4)).toNat (q_value p1 S) 96 82 [(0, .ref 0), (1, sv_I p1), (2, sv_I (S 1066 0)), (3, sv_I l3_4)] [] Z) eS) hb
              exact sv_less (lv := [(0, .ref 0), (1, sv_I p1), (2, sv_I (S 1066 0)), (3, sv_I l3_4)]) (sv_Sub_cons rfl (sv_Sub_cons rfl (sv_Sub_cons rfl (sv_Sub_cons rfl sv_Sub_nil)))) hb
            · have h := h.2 (hc)
              have k91 : (sm_LE (g77 39) (S 11) (S 12) (S 14) (S 1100001) (S 1100002) (S 1100005) (S 1066 0) (((g77 1066 0) - (1 : Int)) + 1) (S 1100002 p1) (S 1100005 p1) ((g77 1100007 (g77 1046 0)) - (S 1100007 (S 1046 0)) - 1) → (S 1066 0) ≤ ((g77 1066 0) - (1 : Int)) → ((S 1100001 (g77 39 ((g77 1066 0) - (1 : Int)))) = 1 ∧ ((S 11 (g77 39 ((g77 1066 0) - (1 : Int)))) = 3 ∨ (S 11 (g77 39 ((g77 1066 0) - (1 : Int)))) = 7 ∨ (S 11 (g77 39 ((g77 1066 0) - (1 : Int)))) = 8 ∨ (S 11 (g77 39 ((g77 1066 0) - (1 : Int)))) = 11 ∨ (S 11 (g77 39 ((g77 1066 0) - (1 : Int)))) = 12 ∨ (S 11 (g77 39 ((g77 1066 0) - (1 : Int)))) = 13) ∧ (S 1100002 (g77 39 ((g77 1066 0) - (1 : Int)))) ≤ (S 1100002 p1) ∧ (S 1100005 (g77 39 ((g77 1066 0) - (1 : Int)))) ≤ (S 1100005 p1)) ∧ sm_LE (g77 39) (S 11) (S 12) (S 14) (S 1100001) (S 1100002) (S 1100005) (S 1066 0) ((g77 1066 0) - (1 : Int)) (S 1100002 p1) (S 1100005 p1) ((g77 1100007 (g77 1046 0)) - (S 1100007 (S 1046 0)) - 1 - sm_cd (S 11) (S 12) (S 14) ((g77 39 ((g77 1066 0) - (1 : Int)))))) := fun h a => sm_LE_pop h rfl a
              have h := h k91
              have k92 : (sm_LF (g77 39) (S 1100002) (((g77 1066 0) - (1 : Int)) + 1) (S 1024 0) (-1) → 0 ≤ ((g77 1066 0) - (1 : Int)) → sm_LF (g77 39) (S 1100002) ((g77 1066 0) - (1 : Int)) (S 1024 0) (12001 * (S 1100002 (g77 39 ((g77 1066 0) - (1 : Int)))) + (g77 39 ((g77 1066 0) - (1 : Int)))) ∧ 0 ≤ (g77 39 ((g77 1066 0) - (1 : Int))) ∧ (g77 39 ((g77 1066 0) - (1 : Int))) < (S 1024 0) ∧ -1 < 12001 * (S 1100002 (g77 39 ((g77 1066 0) - (1 : Int)))) + (g77 39 ((g77 1066 0) - (1 : Int)))) := fun h a => sm_LF_pop h rfl a
              have h := h k92
              have k93 : (sm_WF (S 11) (S 12) (S 13) (S 1100001) (S 1100002) (S 1100005) (S 1100003) (S 1100004) (S 1024 0) (S 1007 0) (S 1009 0) (sm_fn (S 1032 0) (S 21) (S 1056 0)) → 0 ≤ (g77 39 ((g77 1066 0) - (1 : Int))) → (g77 39 ((g77 1066 0) - (1 : Int))) < (S 1024 0) → ((S 1100001 ((g77 39 ((g77 1066 0) - (1 : Int))))) = 1 → 0 ≤ (S 1100002 ((g77 39 ((g77 1066 0) - (1 : Int))))) ∧ ((S 11 ((g77 39 ((g77 1066 0) - (1 : Int))))) = 3 → (S 12 (5 * ((g77 39 ((g77 1066 0) - (1 : Int)))) + 1)) < ((g77 39 ((g77 1066 0) - (1 : Int))))) ∧ ((S 11 ((g77 39 ((g77 1066 0) - (1 : Int))))) = 4 ∨ (S 11 ((g77 39 ((g77 1066 0) - (1 : Int))))) = 5 ∨ (S 11 ((g77 39 ((g77 1066 0) - (1 : Int))))) = 8 ∨ (S 11 ((g77 39 ((g77 1066 0) - (1 : Int))))) = 9 → 17 * (S 1100005 ((g77 39 ((g77 1066 0) - (1 : Int))))) + 2 ≤ (S 1100002 ((g77 39 ((g77 1066 0) - (1 : Int)))))) ∧ 0 ≤ (S 1100005 ((g77 39 ((g77 1066 0) - (1 : Int)))))) ∧ ((S 1100001 ((g77 39 ((g77 1066 0) - (1 : Int))))) = 2 → 0 ≤ (S 1100005 ((g77 39 ((g77 1066 0) - (1 : Int))))) ∧ (S 1100002 ((g77 39 ((g77 1066 0) - (1 : Int))))) ≤ 17 * (S 1100005 ((g77 39 ((g77 1066 0) - (1 : Int))))) + 5 ∧ ((S 11 ((g77 39 ((g77 1066 0) - (1 : Int))))) = 33 → 1 ≤ (S 1100005 ((g77 39 ((g77 1066 0) - (1 : Int))))))) ∧ ((S 1100001 ((g77 39 ((g77 1066 0) - (1 : Int))))) = 6 → 0 ≤ (S 1100002 ((g77 39 ((g77 1066 0) - (1 : Int))))) ∧ 1 ≤ (S 1100004 ((g77 39 ((g77 1066 0) - (1 : Int))))) ∧ ((S 12 (5 * ((g77 39 ((g77 1066 0) - (1 : Int)))))) = - 1 → (S 1100004 ((g77 39 ((g77 1066 0) - (1 : Int))))) = 2)) ∧ ((S 1100001 ((g77 39 ((g77 1066 0) - (1 : Int))))) = 3 → 1 ≤ (S 1100002 ((g77 39 ((g77 1066 0) - (1 : Int))))))) := fun h a0 a1 => sm_gx h _ a0 a1
              have h := h k93
              have k94 : ((S 11 (g77 39 ((g77 1066 0) - (1 : Int)))) = 8 → ¬ ((S 11 (S 12 (5 * (g77 39 ((g77 1066 0) - (1 : Int)))))) = 7 ∧ (S 14 (S 12 (5 * (g77 39 ((g77 1066 0) - (1 : Int)))))) = 0) → sm_cd (S 11) (S 12) (S 14) ((g77 39 ((g77 1066 0) - (1 : Int)))) = 1) := sm_cd_1
              have h := h k94
              have k95 : (¬ (S 11 (g77 39 ((g77 1066 0) - (1 : Int)))) = 8 → sm_cd (S 11) (S 12) (S 14) ((g77 39 ((g77 1066 0) - (1 : Int)))) = 0) := sm_cd_0
              have h := h k95
              have k96 : ((S 11 (S 12 (5 * (g77 39 ((g77 1066 0) - (1 : Int)))))) = 7 ∧ (S 14 (S 12 (5 * (g77 39 ((g77 1066 0) - (1 : Int)))))) = 0 → sm_cd (S 11) (S 12) (S 14) ((g77 39 ((g77 1066 0) - (1 : Int)))) = 0) := sm_cd_m
              have h := h k96
              have k97 : (0 ≤ sm_cd (S 11) (S 12) (S 14) ((g77 39 ((g77 1066 0) - (1 : Int)))) ∧ sm_cd (S 11) (S 12) (S 14) ((g77 39 ((g77 1066 0) - (1 : Int)))) ≤ 1) := sm_cd_r
              have h := h k97
              have k98 : (sm_LE (g77 39) (S 11) (S 12) (S 14) (S 1100001) (S 1100002) (S 1100005) (S 1066 0) ((g77 1066 0) - (1 : Int)) (S 1100002 p1) (S 1100005 p1) ((g77 1100007 (g77 1046 0)) - (S 1100007 (S 1046 0)) - 1 - sm_cd (S 11) (S 12) (S 14) ((g77 39 ((g77 1066 0) - (1 : Int))))) → (S 1066 0) ≤ ((g77 1066 0) - (1 : Int)) ∧ 0 ≤ (g77 1100007 (g77 1046 0)) - (S 1100007 (S 1046 0)) - 1 - sm_cd (S 11) (S 12) (S 14) ((g77 39 ((g77 1066 0) - (1 : Int)))) ∧ (((g77 1066 0) - (1 : Int)) = (S 1066 0) → (g77 1100007 (g77 1046 0)) - (S 1100007 (S 1046 0)) - 1 - sm_cd (S 11) (S 12) (S 14) ((g77 39 ((g77 1066 0) - (1 : Int)))) = 0)) := sm_LE_c
              have h := h k98
              refine sv_aload_n hM dX12_value_107 rfl rfl ?_
              refine sv_aload_n hM dX12_value_108 rfl rfl ?_
              refine sv_getA hM dX12_value_109 sm_fl_128 (sm_a0 _) sm_k67 rfl ?_
              refine sv_aload_n hM dX12_value_112 rfl rfl ?_
              refine sv_getI hM dX12_value_113 sm_fl_650 (sm_a0 _) sm_k66 rfl (x := ((g77 1066 0) - (1 : Int))) rfl ?_
              obtain ⟨o99, h⟩ := h
              have k100 : sv_R (g77 39 ((g77 1066 0) - (1 : Int))) := sm_okI ok87 sm_r39 ((g77 1066 0) - (1 : Int))
              have h := h k100
              refine sv_iald hM dX12_value_116 (sm_a39 _) (by decide) o99.1 o99.2 rfl (x := (g77 39 ((g77 1066 0) - (1 : Int)))) rfl ?_
              obtain ⟨o101, h⟩ := h
              obtain ⟨o102, h⟩ := h
              obtain ⟨o103, h⟩ := h
              refine sv_callV hM dX12_value_117 sm_iv_663 (by decide) (sm_a0 _) rfl rfl (Nat.le_of_ble_eq_true rfl) sm_h97 (Nat.le_of_ble_eq_true rfl) (Nat.le_of_ble_eq_true rfl) (F' := (((S 1100002 (g77 39 ((g77 1066 0) - (1 : Int)))) + (600 - (g77 1046 0)) + 8)).toNat) (sv_Fe o103) rfl ((IH ((S 1100002 (g77 39 ((g77 1066 0) - (1 : Int)))) + (600 - (g77 1046 0)) + 8) o102.1 o102.2).2.1 (g77 39 ((g77 1066 0) - (1 : Int))) (sv_up (sv_sts (sv_sts (sv_sts S [26, 27, 28, 29, 1046, 1047, 1100007, 1100023, 1100024, 1100025, 39, 1066] g3) [26, 27, 28, 29, 1046, 1047, 1100007, 1100023, 1100024, 1100025, 1053, 31, 1100030, 1100009, 1100027, 1100028, 1100026, 1055, 1100033, 39, 1066] g72) [26, 27, 28, 29, 1046, 1047, 1100007, 1100023, 1100024, 1100025, 1053, 31, 1100030, 1100009, 1100027, 1100028, 1100026, 1055, 1100033, 39, 1066] g77) 1066 0 ((g77 1066 0) - (1 : Int))) ok87 k100 o101 rfl) (fun v S1 hq => ?_)
              obtain ⟨rfl, ok105, md106, hpo107⟩ := hq
              obtain ⟨g104, rfl⟩ : ∃ g, S1 = sv_sts (sv_up (sv_sts (sv_sts (sv_sts S [26, 27, 28, 29, 1046, 1047, 1100007, 1100023, 1100024, 1100025, 39, 1066] g3) [26, 27, 28, 29, 1046, 1047, 1100007, 1100023, 1100024, 1100025, 1053, 31, 1100030, 1100009, 1100027, 1100028, 1100026, 1055, 1100033, 39, 1066] g72) [26, 27, 28, 29, 1046, 1047, 1100007, 1100023, 1100024, 1100025, 1053, 31, 1100030, 1100009, 1100027, 1100028, 1100026, 1055, 1100033, 39, 1066] g77) 1066 0 ((g77 1066 0) - (1 : Int))) [26, 27, 28, 29, 1046, 1047, 1100007, 1100023, 1100024, 1100025, 1053, 31, 1100030, 1100009, 1100027, 1100028, 1100026, 1055, 1100033, 39, 1066] g := ⟨_, md106.eq⟩
              show sv_T sm_XS sm_cs sm_L sm_sh ((if (S 1047 0) = 0 then (S 1100002 p1) + (600 - (S 1046 0)) + 8 else 4)).toNat (q_value p1 S) 96 120 [(0, .ref 0), (1, sv_I p1), (2, sv_I (S 1066 0)), (3, sv_I l3_4)] [] (sv_sts (sv_up (sv_sts (sv_sts (sv_sts S [26, 27, 28, 29, 1046, 1047, 1100007, 1100023, 1100024, 1100025, 39, 1066] g3) [26, 27, 28, 29, 1046, 1047, 1100007, 1100023, 1100024, 1100025, 1053, 31, 1100030, 1100009, 1100027, 1100028, 1100026, 1055, 1100033, 39, 1066] g72) [26, 27, 28, 29, 1046, 1047, 1100007, 1100023, 1100024, 1100025, 1053, 31, 1100030, 1100009, 1100027, 1100028, 1100026, 1055, 1100033, 39, 1066] g77) 1066 0 ((g77 1066 0) - (1 : Int))) [26, 27, 28, 29, 1046, 1047, 1100007, 1100023, 1100024, 1100025, 1053, 31, 1100030, 1100009, 1100027, 1100028, 1100026, 1055, 1100033, 39, 1066] g104)
              have md108 : sv_mod [26, 27, 28, 29, 1046, 1047, 1100007, 1100023, 1100024, 1100025, 1053, 31, 1100030, 1100009, 1100027, 1100028, 1100026, 1055, 1100033, 39, 1066] S (sv_sts (sv_up (sv_sts (sv_sts (sv_sts S [26, 27, 28, 29, 1046, 1047, 1100007, 1100023, 1100024, 1100025, 39, 1066] g3) [26, 27, 28, 29, 1046, 1047, 1100007, 1100023, 1100024, 1100025, 1053, 31, 1100030, 1100009, 1100027, 1100028, 1100026, 1055, 1100033, 39, 1066] g72) [26, 27, 28, 29, 1046, 1047, 1100007, 1100023, 1100024, 1100025, 1053, 31, 1100030, 1100009, 1100027, 1100028, 1100026, 1055, 1100033, 39, 1066] g77) 1066 0 ((g77 1066 0) - (1 : Int))) [26, 27, 28, 29, 1046, 1047, 1100007, 1100023, 1100024, 1100025, 1053, 31, 1100030, 1100009, 1100027, 1100028, 1100026, 1055, 1100033, 39, 1066] g104) := sv_mod.sts md88 (by decide)
              have md109 : sv_mod [26, 27, 28, 29, 1046, 1047, 1100007, 1100023, 1100024, 1100025, 1053, 31, 1100030, 1100009, 1100027, 1100028, 1100026, 1055, 1100033, 39, 1066] (sv_sts (sv_sts S [26, 27, 28, 29, 1046, 1047, 1100007, 1100023, 1100024, 1100025, 39, 1066] g3) [26, 27, 28, 29, 1046, 1047, 1100007, 1100023, 1100024, 1100025, 1053, 31, 1100030, 1100009, 1100027, 1100028, 1100026, 1055, 1100033, 39, 1066] g72) (sv_sts (sv_up (sv_sts (sv_sts (sv_sts S [26, 27, 28, 29, 1046, 1047, 1100007, 1100023, 1100024, 1100025, 39, 1066] g3) [26, 27, 28, 29, 1046, 1047, 1100007, 1100023, 1100024, 1100025, 1053, 31, 1100030, 1100009, 1100027, 1100028, 1100026, 1055, 1100033, 39, 1066] g72) [26, 27, 28, 29, 1046, 1047, 1100007, 1100023, 1100024, 1100025, 1053, 31, 1100030, 1100009, 1100027, 1100028, 1100026, 1055, 1100033, 39, 1066] g77) 1066 0 ((g77 1066 0) - (1 : Int))) [26, 27, 28, 29, 1046, 1047, 1100007, 1100023, 1100024, 1100025, 1053, 31, 1100030, 1100009, 1100027, 1100028, 1100026, 1055, 1100033, 39, 1066] g104) := sv_mod.sts md89 (by decide)
              have h := h g104 hpo107
              refine sv_goto hM dX12_value_120 (pc' := 82) rfl ?_
              have eS := sv_mod.eq md109
              have hb := ih78 ((sv_sts (sv_up (sv_sts (sv_sts (sv_sts S [26, 27, 28, 29, 1046, 1047, 1100007, 1100023, 1100024, 1100025, 39, 1066] g3) [26, 27, 28, 29, 1046, 1047, 1100007, 1100023, 1100024, 1100025, 1053, 31, 1100030, 1100009, 1100027, 1100028, 1100026, 1055, 1100033, 39, 1066] g72) [26, 27, 28, 29, 1046, 1047, 1100007, 1100023, 1100024, 1100025, 1053, 31, 1100030, 1100009, 1100027, 1100028, 1100026, 1055, 1100033, 39, 1066] g77) 1066 0 ((g77 1066 0) - (1 : Int))) [26, 27, 28, 29, 1046, 1047, 1100007, 1100023, 1100024, 1100025, 1053, 31, 1100030, 1100009, 1100027, 1100028, 1100026, 1055, 1100033, 39, 1066] g104)) ⟨(by rw [← eS]; exact ok105), h.1⟩ h.2
              have hb : sv_T sm_XS sm_cs sm_L sm_sh ((if (S 1047 0) = 0 then (S 1100002 p1) + (600 - (S 1046 0)) + 8 else 4)).toNat (q_value p1 S) 96 82 [(0, .ref 0), (1, sv_I p1), (2, sv_I (S 1066 0)), (3, sv_I l3_4)] [] (sv_sts (sv_up (sv_sts (sv_sts (sv_sts S [26, 27, 28, 29, 1046, 1047, 1100007, 1100023, 1100024, 1100025, 39, 1066] g3) [26, 27, 28, 29, 1046, 1047, 1100007, 1100023, 1100024, 1100025, 1053, 31, 1100030, 1100009, 1100027, 1100028, 1100026, 1055, 1100033, 39, 1066] g72) [26, 27, 28, 29, 1046, 1047, 1100007, 1100023, 1100024, 1100025, 1053, 31, 1100030, 1100009, 1100027, 1100028, 1100026, 1055, 1100033, 39, 1066] g77) 1066 0 ((g77 1066 0) - (1 : Int))) [26, 27, 28, 29, 1046, 1047, 1100007, 1100023, 1100024, 1100025, 1053, 31, 1100030, 1100009, 1100027, 1100028, 1100026, 1055, 1100033, 39, 1066] g104) := Eq.mpr (congrArg (fun Z => sv_T sm_XS sm_cs sm_L sm_sh ((if (S 1047 0) = 0 then (S 1100002 p1) + (600 - (S 1046 0)) + 8 else 4)).toNat (q_value p1 S) 96 82 [(0, .ref 0), (1, sv_I p1), (2, sv_I (S 1066 0)), (3, sv_I l3_4)] [] Z) eS) hb
              exact sv_less (lv := [(0, .ref 0), (1, sv_I p1), (2, sv_I (S 1066 0)), (3, sv_I l3_4)]) (sv_Sub_cons rfl (sv_Sub_cons rfl (sv_Sub_cons rfl (sv_Sub_cons rfl sv_Sub_nil)))) hb
        have eS := sv_mod.eq (sv_mod.rf (l := [26, 27, 28, 29, 1046, 1047, 1100007, 1100023, 1100024, 1100025, 1053, 31, 1100030, 1100009, 1100027, 1100028, 1100026, 1055, 1100033, 39, 1066]) (S := (sv_sts (sv_sts S [26, 27, 28, 29, 1046, 1047, 1100007, 1100023, 1100024, 1100025, 39, 1066] g3) [26, 27, 28, 29, 1046, 1047, 1100007, 1100023, 1100024, 1100025, 1053, 31, 1100030, 1100009, 1100027, 1100028, 1100026, 1055, 1100033, 39, 1066] g72)))
        have hb := hJ ((sv_sts (sv_sts S [26, 27, 28, 29, 1046, 1047, 1100007, 1100023, 1100024, 1100025, 39, 1066] g3) [26, 27, 28, 29, 1046, 1047, 1100007, 1100023, 1100024, 1100025, 1053, 31, 1100030, 1100009, 1100027, 1100028, 1100026, 1055, 1100033, 39, 1066] g72)) ⟨(by rw [← eS]; exact ok73), hin79⟩
        have hb : sv_T sm_XS sm_cs sm_L sm_sh ((if (S 1047 0) = 0 then (S 1100002 p1) + (600 - (S 1046 0)) + 8 else 4)).toNat (q_value p1 S) 96 82 [(0, .ref 0), (1, sv_I p1), (2, sv_I (S 1066 0)), (3, sv_I l3_4)] [] (sv_sts (sv_sts S [26, 27, 28, 29, 1046, 1047, 1100007, 1100023, 1100024, 1100025, 39, 1066] g3) [26, 27, 28, 29, 1046, 1047, 1100007, 1100023, 1100024, 1100025, 1053, 31, 1100030, 1100009, 1100027, 1100028, 1100026, 1055, 1100033, 39, 1066] g72) := Eq.mpr (congrArg (fun Z => sv_T sm_XS sm_cs sm_L sm_sh ((if (S 1047 0) = 0 then (S 1100002 p1) + (600 - (S 1046 0)) + 8 else 4)).toNat (q_value p1 S) 96 82 [(0, .ref 0), (1, sv_I p1), (2, sv_I (S 1066 0)), (3, sv_I l3_4)] [] Z) eS) hb
        exact hb
      · have h := h.2 (hc)
        refine sv_aload_n hM dX12_value_23 rfl rfl ?_
        refine sv_getA hM dX12_value_24 sm_fl_42 (sm_a0 _) sm_k25 rfl ?_
        refine sv_iload_n hM dX12_value_27 rfl rfl ?_
        obtain ⟨o110, h⟩ := h
        have k111 : sv_R (S 11 l3_4) := sm_okI ok7 sm_r11 l3_4
        have h := h k111
        refine sv_iald hM dX12_value_28 (sm_a11 _) (by decide) o110.1 o110.2 rfl (x := (S 11 l3_4)) rfl ?_
        refine sv_bipush (d := (8 : Int)) hM dX12_value_29 rfl rfl ?_
        refine sv_icmp_ne hM dX12_value_31 k111 (⟨by decide, by decide⟩ : sv_R (8 : Int)) (t := 48) rfl rfl (fun hc => ?_) (fun hc => ?_)
        · have h := h.1 (hc)
          refine sv_aload_n hM dX12_value_48 rfl rfl ?_
          refine sv_getA hM dX12_value_49 sm_fl_128 (sm_a0 _) sm_k67 rfl ?_
          refine sv_aload_n hM dX12_value_52 rfl rfl ?_
          have k112 : sv_R (g3 1066 0) := sm_okI ok7 sm_r1066 0
          have h := h k112
          refine sv_getI hM dX12_value_53 sm_fl_650 (sm_a0 _) sm_k66 rfl (x := (g3 1066 0)) rfl ?_
          refine sv_iload_n hM dX12_value_56 rfl rfl ?_
          obtain ⟨o113, h⟩ := h
          refine sv_iast sm_X hM dX12_value_57 (sm_a39 _) (by decide) o113.1 o113.2 rfl ?_
          have ok114 : sm_ok (sv_up (sv_sts S [26, 27, 28, 29, 1046, 1047, 1100007, 1100023, 1100024, 1100025, 39, 1066] g3) 39 (g3 1066 0) l3_4) := sm_upI ok7 sm_r39 hl3_4
          have md115 : sv_mod [26, 27, 28, 29, 1046, 1047, 1100007, 1100023, 1100024, 1100025, 1053, 31, 1100030, 1100009, 1100027, 1100028, 1100026, 1055, 1100033, 39, 1066] S (sv_up (sv_sts S [26, 27, 28, 29, 1046, 1047, 1100007, 1100023, 1100024, 1100025, 39, 1066] g3) 39 (g3 1066 0) l3_4) := sv_mod.up md8 (by decide)
          have md116 : sv_mod [26, 27, 28, 29, 1046, 1047, 1100007, 1100023, 1100024, 1100025, 39, 1066] S (sv_up (sv_sts S [26, 27, 28, 29, 1046, 1047, 1100007, 1100023, 1100024, 1100025, 39, 1066] g3) 39 (g3 1066 0) l3_4) := sv_mod.up md9 (by decide)
          refine sv_aload_n hM dX12_value_58 rfl rfl ?_
          refine sv_dupA hM dX12_value_59 rfl ?_
          refine sv_getI hM dX12_value_60 sm_fl_650 (sm_a0 _) sm_k66 rfl (x := (g3 1066 0)) rfl ?_
          refine sv_iconst (d := (1 : Int)) hM dX12_value_63 rfl rfl ?_
          refine sv_iadd hM dX12_value_64 rfl ?_
          obtain ⟨o117, h⟩ := h
          refine sv_putI sm_X hM dX12_value_65 sm_fp_650 (sm_a0 _) sm_q66 (Or.inl rfl) rfl rfl rfl rfl ?_
          have ok118 : sm_ok (sv_up (sv_up (sv_sts S [26, 27, 28, 29, 1046, 1047, 1100007, 1100023, 1100024, 1100025, 39, 1066] g3) 39 (g3 1066 0) l3_4) 1066 0 ((g3 1066 0) + (1 : Int))) := sm_upI ok114 sm_r1066 o117
          have md119 : sv_mod [26, 27, 28, 29, 1046, 1047, 1100007, 1100023, 1100024, 1100025, 1053, 31, 1100030, 1100009, 1100027, 1100028, 1100026, 1055, 1100033, 39, 1066] S (sv_up (sv_up (sv_sts S [26, 27, 28, 29, 1046, 1047, 1100007, 1100023, 1100024, 1100025, 39, 1066] g3) 39 (g3 1066 0) l3_4) 1066 0 ((g3 1066 0) + (1 : Int))) := sv_mod.up md115 (by decide)
          have md120 : sv_mod [26, 27, 28, 29, 1046, 1047, 1100007, 1100023, 1100024, 1100025, 39, 1066] S (sv_up (sv_up (sv_sts S [26, 27, 28, 29, 1046, 1047, 1100007, 1100023, 1100024, 1100025, 39, 1066] g3) 39 (g3 1066 0) l3_4) 1066 0 ((g3 1066 0) + (1 : Int))) := sv_mod.up md116 (by decide)
          refine sv_aload_n hM dX12_value_68 rfl rfl ?_
          refine sv_iload_n hM dX12_value_69 rfl rfl ?_
          refine sv_callV hM dX12_value_70 sm_iv_653 (by decide) (sm_a0 _) rfl rfl (Nat.le_of_ble_eq_true rfl) sm_h94 (Nat.le_of_ble_eq_true rfl) (Nat.le_of_ble_eq_true rfl) (F' := 2) (sv_Fn (n := 2) o64) rfl (t_leftPart l3_4 (sv_up (sv_up (sv_sts S [26, 27, 28, 29, 1046, 1047, 1100007, 1100023, 1100024, 1100025, 39, 1066] g3) 39 (g3 1066 0) l3_4) 1066 0 ((g3 1066 0) + (1 : Int))) ok118 hl3_4 o63) (fun v S1 hq => ?_)
          obtain ⟨rfl, hS1⟩ := hq
          obtain rfl : (sv_up (sv_up (sv_sts S [26, 27, 28, 29, 1046, 1047, 1100007, 1100023, 1100024, 1100025, 39, 1066] g3) 39 (g3 1066 0) l3_4) 1066 0 ((g3 1066 0) + (1 : Int))) = S1 := hS1.symm
          show sv_T sm_XS sm_cs sm_L sm_sh ((if (S 1047 0) = 0 then (S 1100002 p1) + (600 - (S 1046 0)) + 8 else 4)).toNat (q_value p1 S) 96 73 [(0, .ref 0), (1, sv_I p1), (2, sv_I (S 1066 0)), (3, sv_I l3_4)] [sv_I (sm_lfp (S 11) (S 12) (S 14) (l3_4))] (sv_up (sv_up (sv_sts S [26, 27, 28, 29, 1046, 1047, 1100007, 1100023, 1100024, 1100025, 39, 1066] g3) 39 (g3 1066 0) l3_4) 1066 0 ((g3 1066 0) + (1 : Int)))
          obtain ⟨x121, e122⟩ : ∃ x : Int, (sm_lfp (S 11) (S 12) (S 14) (l3_4)) = x := ⟨_, rfl⟩
          have h := h x121 e122
          have e122r : sv_R x121 := e122 ▸ o65
          refine sv_nameI e122 ?_
          refine sv_istore_n hM dX12_value_73 (by decide) rfl ?_
          show sv_T sm_XS sm_cs sm_L sm_sh ((if (S 1047 0) = 0 then (S 1100002 p1) + (600 - (S 1046 0)) + 8 else 4)).toNat (q_value p1 S) 96 74 [(0, .ref 0), (1, sv_I p1), (2, sv_I (S 1066 0)), (3, sv_I x121)] [] (sv_up (sv_up (sv_sts S [26, 27, 28, 29, 1046, 1047, 1100007, 1100023, 1100024, 1100025, 39, 1066] g3) 39 (g3 1066 0) l3_4) 1066 0 ((g3 1066 0) + (1 : Int)))
          refine sv_goto hM dX12_value_74 (pc' := 7) rfl ?_
          have eS := sv_mod.eq md120
          have hb := ih5 (x121, (sv_up (sv_up (sv_sts S [26, 27, 28, 29, 1046, 1047, 1100007, 1100023, 1100024, 1100025, 39, 1066] g3) 39 (g3 1066 0) l3_4) 1066 0 ((g3 1066 0) + (1 : Int)))) ⟨e122r, (by rw [← eS]; exact ok118), h.1⟩ h.2
          have hb : sv_T sm_XS sm_cs sm_L sm_sh ((if (S 1047 0) = 0 then (S 1100002 p1) + (600 - (S 1046 0)) + 8 else 4)).toNat (q_value p1 S) 96 7 [(0, .ref 0), (1, sv_I p1), (2, sv_I (S 1066 0)), (3, sv_I x121)] [] (sv_up (sv_up (sv_sts S [26, 27, 28, 29, 1046, 1047, 1100007, 1100023, 1100024, 1100025, 39, 1066] g3) 39 (g3 1066 0) l3_4) 1066 0 ((g3 1066 0) + (1 : Int))) := Eq.mpr (congrArg (fun Z => sv_T sm_XS sm_cs sm_L sm_sh ((if (S 1047 0) = 0 then (S 1100002 p1) + (600 - (S 1046 0)) + 8 else 4)).toNat (q_value p1 S) 96 7 [(0, .ref 0), (1, sv_I p1), (2, sv_I (S 1066 0)), (3, sv_I x121)] [] Z) eS) hb
          exact sv_less (lv := [(0, .ref 0), (1, sv_I p1), (2, sv_I (S 1066 0)), (3, sv_I x121)]) (sv_Sub_cons rfl (sv_Sub_cons rfl (sv_Sub_cons rfl (sv_Sub_cons rfl sv_Sub_nil)))) hb
        · have h := h.2 (hc)
          refine sv_aload_n hM dX12_value_34 rfl rfl ?_
          refine sv_iload_n hM dX12_value_35 rfl rfl ?_
          obtain ⟨o123, h⟩ := h
          obtain ⟨o124, h⟩ := h
          refine sv_callV hM dX12_value_36 sm_iv_647 (by decide) (sm_a0 _) rfl rfl (Nat.le_of_ble_eq_true rfl) sm_h95 (Nat.le_of_ble_eq_true rfl) (Nat.le_of_ble_eq_true rfl) (F' := 1) (sv_Fn (n := 1) o124) rfl (t_isMemberCall l3_4 (sv_sts S [26, 27, 28, 29, 1046, 1047, 1100007, 1100023, 1100024, 1100025, 39, 1066] g3) ok7 hl3_4 o123) (fun v S1 hq => ?_)
          obtain ⟨rfl, hS1⟩ := hq
          obtain rfl : (sv_sts S [26, 27, 28, 29, 1046, 1047, 1100007, 1100023, 1100024, 1100025, 39, 1066] g3) = S1 := hS1.symm
          show sv_T sm_XS sm_cs sm_L sm_sh ((if (S 1047 0) = 0 then (S 1100002 p1) + (600 - (S 1046 0)) + 8 else 4)).toNat (q_value p1 S) 96 39 [(0, .ref 0), (1, sv_I p1), (2, sv_I (S 1066 0)), (3, sv_I l3_4)] [sv_I (if ((S 11 (S 12 (5 * l3_4))) = 7 ∧ (S 14 (S 12 (5 * l3_4))) = 0) then 1 else 0)] (sv_sts S [26, 27, 28, 29, 1046, 1047, 1100007, 1100023, 1100024, 1100025, 39, 1066] g3)
          refine sv_cond_ne hM dX12_value_39 (sv_Rite : sv_R (if ((S 11 (S 12 (5 * l3_4))) = 7 ∧ (S 14 (S 12 (5 * l3_4))) = 0) then 1 else 0)) (t := 48) rfl rfl (fun hc => ?_) (fun hc => ?_)
          · have h := h.1 (sv_itep hc)
            refine sv_aload_n hM dX12_value_48 rfl rfl ?_
            refine sv_getA hM dX12_value_49 sm_fl_128 (sm_a0 _) sm_k67 rfl ?_
            refine sv_aload_n hM dX12_value_52 rfl rfl ?_
            have k125 : sv_R (g3 1066 0) := sm_okI ok7 sm_r1066 0
            have h := h k125
            refine sv_getI hM dX12_value_53 sm_fl_650 (sm_a0 _) sm_k66 rfl (x := (g3 1066 0)) rfl ?_
            refine sv_iload_n hM dX12_value_56 rfl rfl ?_
            obtain ⟨o126, h⟩ := h
            refine sv_iast sm_X hM dX12_value_57 (sm_a39 _) (by decide) o126.1 o126.2 rfl ?_
            have ok127 : sm_ok (sv_up (sv_sts S [26, 27, 28, 29, 1046, 1047, 1100007, 1100023, 1100024, 1100025, 39, 1066] g3) 39 (g3 1066 0) l3_4) := sm_upI ok7 sm_r39 hl3_4
            have md128 : sv_mod [26, 27, 28, 29, 1046, 1047, 1100007, 1100023, 1100024, 1100025, 1053, 31, 1100030, 1100009, 1100027, 1100028, 1100026, 1055, 1100033, 39, 1066] S (sv_up (sv_sts S [26, 27, 28, 29, 1046, 1047, 1100007, 1100023, 1100024, 1100025, 39, 1066] g3) 39 (g3 1066 0) l3_4) := sv_mod.up md8 (by decide)
            have md129 : sv_mod [26, 27, 28, 29, 1046, 1047, 1100007, 1100023, 1100024, 1100025, 39, 1066] S (sv_up (sv_sts S [26, 27, 28, 29, 1046, 1047, 1100007, 1100023, 1100024, 1100025, 39, 1066] g3) 39 (g3 1066 0) l3_4) := sv_mod.up md9 (by decide)
            refine sv_aload_n hM dX12_value_58 rfl rfl ?_
            refine sv_dupA hM dX12_value_59 rfl ?_
            refine sv_getI hM dX12_value_60 sm_fl_650 (sm_a0 _) sm_k66 rfl (x := (g3 1066 0)) rfl ?_
            refine sv_iconst (d := (1 : Int)) hM dX12_value_63 rfl rfl ?_
            refine sv_iadd hM dX12_value_64 rfl ?_
            obtain ⟨o130, h⟩ := h
            refine sv_putI sm_X hM dX12_value_65 sm_fp_650 (sm_a0 _) sm_q66 (Or.inl rfl) rfl rfl rfl rfl ?_
            have ok131 : sm_ok (sv_up (sv_up (sv_sts S [26, 27, 28, 29, 1046, 1047, 1100007, 1100023, 1100024, 1100025, 39, 1066] g3) 39 (g3 1066 0) l3_4) 1066 0 ((g3 1066 0) + (1 : Int))) := sm_upI ok127 sm_r1066 o130
            have md132 : sv_mod [26, 27, 28, 29, 1046, 1047, 1100007, 1100023, 1100024, 1100025, 1053, 31, 1100030, 1100009, 1100027, 1100028, 1100026, 1055, 1100033, 39, 1066] S (sv_up (sv_up (sv_sts S [26, 27, 28, 29, 1046, 1047, 1100007, 1100023, 1100024, 1100025, 39, 1066] g3) 39 (g3 1066 0) l3_4) 1066 0 ((g3 1066 0) + (1 : Int))) := sv_mod.up md128 (by decide)
            have md133 : sv_mod [26, 27, 28, 29, 1046, 1047, 1100007, 1100023, 1100024, 1100025, 39, 1066] S (sv_up (sv_up (sv_sts S [26, 27, 28, 29, 1046, 1047, 1100007, 1100023, 1100024, 1100025, 39, 1066] g3) 39 (g3 1066 0) l3_4) 1066 0 ((g3 1066 0) + (1 : Int))) := sv_mod.up md129 (by decide)
            refine sv_aload_n hM dX12_value_68 rfl rfl ?_
            refine sv_iload_n hM dX12_value_69 rfl rfl ?_
            refine sv_callV hM dX12_value_70 sm_iv_653 (by decide) (sm_a0 _) rfl rfl (Nat.le_of_ble_eq_true rfl) sm_h94 (Nat.le_of_ble_eq_true rfl) (Nat.le_of_ble_eq_true rfl) (F' := 2) (sv_Fn (n := 2) o64) rfl (t_leftPart l3_4 (sv_up (sv_up (sv_sts S [26, 27, 28, 29, 1046, 1047, 1100007, 1100023, 1100024, 1100025, 39, 1066] g3) 39 (g3 1066 0) l3_4) 1066 0 ((g3 1066 0) + (1 : Int))) ok131 hl3_4 o63) (fun v S1 hq => ?_)
            obtain ⟨rfl, hS1⟩ := hq
            obtain rfl : (sv_up (sv_up (sv_sts S [26, 27, 28, 29, 1046, 1047, 1100007, 1100023, 1100024, 1100025, 39, 1066] g3) 39 (g3 1066 0) l3_4) 1066 0 ((g3 1066 0) + (1 : Int))) = S1 := hS1.symm
            show sv_T sm_XS sm_cs sm_L sm_sh ((if (S 1047 0) = 0 then (S 1100002 p1) + (600 - (S 1046 0)) + 8 else 4)).toNat (q_value p1 S) 96 73 [(0, .ref 0), (1, sv_I p1), (2, sv_I (S 1066 0)), (3, sv_I l3_4)] [sv_I (sm_lfp (S 11) (S 12) (S 14) (l3_4))] (sv_up (sv_up (sv_sts S [26, 27, 28, 29, 1046, 1047, 1100007, 1100023, 1100024, 1100025, 39, 1066] g3) 39 (g3 1066 0) l3_4) 1066 0 ((g3 1066 0) + (1 : Int)))
            obtain ⟨x134, e135⟩ : ∃ x : Int, (sm_lfp (S 11) (S 12) (S 14) (l3_4)) = x := ⟨_, rfl⟩
            have h := h x134 e135
            have e135r : sv_R x134 := e135 ▸ o65
            refine sv_nameI e135 ?_
            refine sv_istore_n hM dX12_value_73 (by decide) rfl ?_
            show sv_T sm_XS sm_cs sm_L sm_sh ((if (S 1047 0) = 0 then (S 1100002 p1) + (600 - (S 1046 0)) + 8 else 4)).toNat (q_value p1 S) 96 74 [(0, .ref 0), (1, sv_I p1), (2, sv_I (S 1066 0)), (3, sv_I x134)] [] (sv_up (sv_up (sv_sts S [26, 27, 28, 29, 1046, 1047, 1100007, 1100023, 1100024, 1100025, 39, 1066] g3) 39 (g3 1066 0) l3_4) 1066 0 ((g3 1066 0) + (1 : Int)))
            refine sv_goto hM dX12_value_74 (pc' := 7) rfl ?_
            have eS := sv_mod.eq md133
            have hb := ih5 (x134, (sv_up (sv_up (sv_sts S [26, 27, 28, 29, 1046, 1047, 1100007, 1100023, 1100024, 1100025, 39, 1066] g3) 39 (g3 1066 0) l3_4) 1066 0 ((g3 1066 0) + (1 : Int)))) ⟨e135r, (by rw [← eS]; exact ok131), h.1⟩ h.2
            have hb : sv_T sm_XS sm_cs sm_L sm_sh ((if (S 1047 0) = 0 then (S 1100002 p1) + (600 - (S 1046 0)) + 8 else 4)).toNat (q_value p1 S) 96 7 [(0, .ref 0), (1, sv_I p1), (2, sv_I (S 1066 0)), (3, sv_I x134)] [] (sv_up (sv_up (sv_sts S [26, 27, 28, 29, 1046, 1047, 1100007, 1100023, 1100024, 1100025, 39, 1066] g3) 39 (g3 1066 0) l3_4) 1066 0 ((g3 1066 0) + (1 : Int))) := Eq.mpr (congrArg (fun Z => sv_T sm_XS sm_cs sm_L sm_sh ((if (S 1047 0) = 0 then (S 1100002 p1) + (600 - (S 1046 0)) + 8 else 4)).toNat (q_value p1 S) 96 7 [(0, .ref 0), (1, sv_I p1), (2, sv_I (S 1066 0)), (3, sv_I x134)] [] Z) eS) hb
            exact sv_less (lv := [(0, .ref 0), (1, sv_I p1), (2, sv_I (S 1066 0)), (3, sv_I x134)]) (sv_Sub_cons rfl (sv_Sub_cons rfl (sv_Sub_cons rfl (sv_Sub_cons rfl sv_Sub_nil)))) hb
          · have h := h.2 (fun q => hc (by rw [if_pos q]; decide))
            refine sv_aload_n hM dX12_value_42 rfl rfl ?_
            refine sv_iconst (d := (0 : Int)) hM dX12_value_43 rfl rfl ?_
            refine sv_iconst (d := (0 : Int)) hM dX12_value_44 rfl rfl ?_
            obtain ⟨o136, h⟩ := h
            refine sv_callV hM dX12_value_45 sm_iv_656 (by decide) (sm_a0 _) rfl rfl (Nat.le_of_ble_eq_true rfl) sm_h90 (Nat.le_of_ble_eq_true rfl) (Nat.le_of_ble_eq_true rfl) (F' := 1) (sv_Fn (n := 1) o124) rfl (t_constant (0 : Int) (0 : Int) (sv_sts S [26, 27, 28, 29, 1046, 1047, 1100007, 1100023, 1100024, 1100025, 39, 1066] g3) ok7 (⟨by decide, by decide⟩ : sv_R (0 : Int)) (⟨by decide, by decide⟩ : sv_R (0 : Int)) o136) (fun v S1 hq => ?_)
            obtain ⟨rfl, ok138, md139, hpo140⟩ := hq
            obtain ⟨g137, rfl⟩ : ∃ g, S1 = sv_sts (sv_sts S [26, 27, 28, 29, 1046, 1047, 1100007, 1100023, 1100024, 1100025, 39, 1066] g3) [26, 27, 28, 29, 1046, 1047, 1100007, 1100023, 1100024, 1100025] g := ⟨_, md139.eq⟩
            show sv_T sm_XS sm_cs sm_L sm_sh ((if (S 1047 0) = 0 then (S 1100002 p1) + (600 - (S 1046 0)) + 8 else 4)).toNat (q_value p1 S) 96 48 [(0, .ref 0), (1, sv_I p1), (2, sv_I (S 1066 0)), (3, sv_I l3_4)] [] (sv_sts (sv_sts S [26, 27, 28, 29, 1046, 1047, 1100007, 1100023, 1100024, 1100025, 39, 1066] g3) [26, 27, 28, 29, 1046, 1047, 1100007, 1100023, 1100024, 1100025] g137)
            have md141 : sv_mod [26, 27, 28, 29, 1046, 1047, 1100007, 1100023, 1100024, 1100025, 1053, 31, 1100030, 1100009, 1100027, 1100028, 1100026, 1055, 1100033, 39, 1066] S (sv_sts (sv_sts S [26, 27, 28, 29, 1046, 1047, 1100007, 1100023, 1100024, 1100025, 39, 1066] g3) [26, 27, 28, 29, 1046, 1047, 1100007, 1100023, 1100024, 1100025] g137) := sv_mod.sts md8 (by decide)
            have md142 : sv_mod [26, 27, 28, 29, 1046, 1047, 1100007, 1100023, 1100024, 1100025, 39, 1066] S (sv_sts (sv_sts S [26, 27, 28, 29, 1046, 1047, 1100007, 1100023, 1100024, 1100025, 39, 1066] g3) [26, 27, 28, 29, 1046, 1047, 1100007, 1100023, 1100024, 1100025] g137) := sv_mod.sts md9 (by decide)
            have h := h g137 hpo140
            refine sv_aload_n hM dX12_value_48 rfl rfl ?_
            refine sv_getA hM dX12_value_49 sm_fl_128 (sm_a0 _) sm_k67 rfl ?_
            refine sv_aload_n hM dX12_value_52 rfl rfl ?_
            have k143 : sv_R (g3 1066 0) := sm_okI ok138 sm_r1066 0
            have h := h k143
            refine sv_getI hM dX12_value_53 sm_fl_650 (sm_a0 _) sm_k66 rfl (x := (g3 1066 0)) rfl ?_
            refine sv_iload_n hM dX12_value_56 rfl rfl ?_
            obtain ⟨o144, h⟩ := h
            refine sv_iast sm_X hM dX12_value_57 (sm_a39 _) (by decide) o144.1 o144.2 rfl ?_
            have ok145 : sm_ok (sv_up (sv_sts (sv_sts S [26, 27, 28, 29, 1046, 1047, 1100007, 1100023, 1100024, 1100025, 39, 1066] g3) [26, 27, 28, 29, 1046, 1047, 1100007, 1100023, 1100024, 1100025] g137) 39 (g3 1066 0) l3_4) := sm_upI ok138 sm_r39 hl3_4
            have md146 : sv_mod [26, 27, 28, 29, 1046, 1047, 1100007, 1100023, 1100024, 1100025, 1053, 31, 1100030, 1100009, 1100027, 1100028, 1100026, 1055, 1100033, 39, 1066] S (sv_up (sv_sts (sv_sts S [26, 27, 28, 29, 1046, 1047, 1100007, 1100023, 1100024, 1100025, 39, 1066] g3) [26, 27, 28, 29, 1046, 1047, 1100007, 1100023, 1100024, 1100025] g137) 39 (g3 1066 0) l3_4) := sv_mod.up md141 (by decide)
            have md147 : sv_mod [26, 27, 28, 29, 1046, 1047, 1100007, 1100023, 1100024, 1100025, 39, 1066] S (sv_up (sv_sts (sv_sts S [26, 27, 28, 29, 1046, 1047, 1100007, 1100023, 1100024, 1100025, 39, 1066] g3) [26, 27, 28, 29, 1046, 1047, 1100007, 1100023, 1100024, 1100025] g137) 39 (g3 1066 0) l3_4) := sv_mod.up md142 (by decide)
            refine sv_aload_n hM dX12_value_58 rfl rfl ?_
            refine sv_dupA hM dX12_value_59 rfl ?_
            refine sv_getI hM dX12_value_60 sm_fl_650 (sm_a0 _) sm_k66 rfl (x := (g3 1066 0)) rfl ?_
            refine sv_iconst (d := (1 : Int)) hM dX12_value_63 rfl rfl ?_
            refine sv_iadd hM dX12_value_64 rfl ?_
            obtain ⟨o148, h⟩ := h
            refine sv_putI sm_X hM dX12_value_65 sm_fp_650 (sm_a0 _) sm_q66 (Or.inl rfl) rfl rfl rfl rfl ?_
            have ok149 : sm_ok (sv_up (sv_up (sv_sts (sv_sts S [26, 27, 28, 29, 1046, 1047, 1100007, 1100023, 1100024, 1100025, 39, 1066] g3) [26, 27, 28, 29, 1046, 1047, 1100007, 1100023, 1100024, 1100025] g137) 39 (g3 1066 0) l3_4) 1066 0 ((g3 1066 0) + (1 : Int))) := sm_upI ok145 sm_r1066 o148
            have md150 : sv_mod [26, 27, 28, 29, 1046, 1047, 1100007, 1100023, 1100024, 1100025, 1053, 31, 1100030, 1100009, 1100027, 1100028, 1100026, 1055, 1100033, 39, 1066] S (sv_up (sv_up (sv_sts (sv_sts S [26, 27, 28, 29, 1046, 1047, 1100007, 1100023, 1100024, 1100025, 39, 1066] g3) [26, 27, 28, 29, 1046, 1047, 1100007, 1100023, 1100024, 1100025] g137) 39 (g3 1066 0) l3_4) 1066 0 ((g3 1066 0) + (1 : Int))) := sv_mod.up md146 (by decide)
            have md151 : sv_mod [26, 27, 28, 29, 1046, 1047, 1100007, 1100023, 1100024, 1100025, 39, 1066] S (sv_up (sv_up (sv_sts (sv_sts S [26, 27, 28, 29, 1046, 1047, 1100007, 1100023, 1100024, 1100025, 39, 1066] g3) [26, 27, 28, 29, 1046, 1047, 1100007, 1100023, 1100024, 1100025] g137) 39 (g3 1066 0) l3_4) 1066 0 ((g3 1066 0) + (1 : Int))) := sv_mod.up md147 (by decide)
            refine sv_aload_n hM dX12_value_68 rfl rfl ?_
            refine sv_iload_n hM dX12_value_69 rfl rfl ?_
            refine sv_callV hM dX12_value_70 sm_iv_653 (by decide) (sm_a0 _) rfl rfl (Nat.le_of_ble_eq_true rfl) sm_h94 (Nat.le_of_ble_eq_true rfl) (Nat.le_of_ble_eq_true rfl) (F' := 2) (sv_Fn (n := 2) o64) rfl (t_leftPart l3_4 (sv_up (sv_up (sv_sts (sv_sts S [26, 27, 28, 29, 1046, 1047, 1100007, 1100023, 1100024, 1100025, 39, 1066] g3) [26, 27, 28, 29, 1046, 1047, 1100007, 1100023, 1100024, 1100025] g137) 39 (g3 1066 0) l3_4) 1066 0 ((g3 1066 0) + (1 : Int))) ok149 hl3_4 o63) (fun v S1 hq => ?_)
            obtain ⟨rfl, hS1⟩ := hq
            obtain rfl : (sv_up (sv_up (sv_sts (sv_sts S [26, 27, 28, 29, 1046, 1047, 1100007, 1100023, 1100024, 1100025, 39, 1066] g3) [26, 27, 28, 29, 1046, 1047, 1100007, 1100023, 1100024, 1100025] g137) 39 (g3 1066 0) l3_4) 1066 0 ((g3 1066 0) + (1 : Int))) = S1 := hS1.symm
            show sv_T sm_XS sm_cs sm_L sm_sh ((if (S 1047 0) = 0 then (S 1100002 p1) + (600 - (S 1046 0)) + 8 else 4)).toNat (q_value p1 S) 96 73 [(0, .ref 0), (1, sv_I p1), (2, sv_I (S 1066 0)), (3, sv_I l3_4)] [sv_I (sm_lfp (S 11) (S 12) (S 14) (l3_4))] (sv_up (sv_up (sv_sts (sv_sts S [26, 27, 28, 29, 1046, 1047, 1100007, 1100023, 1100024, 1100025, 39, 1066] g3) [26, 27, 28, 29, 1046, 1047, 1100007, 1100023, 1100024, 1100025] g137) 39 (g3 1066 0) l3_4) 1066 0 ((g3 1066 0) + (1 : Int)))
            obtain ⟨x152, e153⟩ : ∃ x : Int, (sm_lfp (S 11) (S 12) (S 14) (l3_4)) = x := ⟨_, rfl⟩
            have h := h x152 e153
            have e153r : sv_R x152 := e153 ▸ o65
            refine sv_nameI e153 ?_
            refine sv_istore_n hM dX12_value_73 (by decide) rfl ?_
            show sv_T sm_XS sm_cs sm_L sm_sh ((if (S 1047 0) = 0 then (S 1100002 p1) + (600 - (S 1046 0)) + 8 else 4)).toNat (q_value p1 S) 96 74 [(0, .ref 0), (1, sv_I p1), (2, sv_I (S 1066 0)), (3, sv_I x152)] [] (sv_up (sv_up (sv_sts (sv_sts S [26, 27, 28, 29, 1046, 1047, 1100007, 1100023, 1100024, 1100025, 39, 1066] g3) [26, 27, 28, 29, 1046, 1047, 1100007, 1100023, 1100024, 1100025] g137) 39 (g3 1066 0) l3_4) 1066 0 ((g3 1066 0) + (1 : Int)))
            refine sv_goto hM dX12_value_74 (pc' := 7) rfl ?_
            have eS := sv_mod.eq md151
            have hb := ih5 (x152, (sv_up (sv_up (sv_sts (sv_sts S [26, 27, 28, 29, 1046, 1047, 1100007, 1100023, 1100024, 1100025, 39, 1066] g3) [26, 27, 28, 29, 1046, 1047, 1100007, 1100023, 1100024, 1100025] g137) 39 (g3 1066 0) l3_4) 1066 0 ((g3 1066 0) + (1 : Int)))) ⟨e153r, (by rw [← eS]; exact ok149), h.1⟩ h.2
            have hb : sv_T sm_XS sm_cs sm_L sm_sh ((if (S 1047 0) = 0 then (S 1100002 p1) + (600 - (S 1046 0)) + 8 else 4)).toNat (q_value p1 S) 96 7 [(0, .ref 0), (1, sv_I p1), (2, sv_I (S 1066 0)), (3, sv_I x152)] [] (sv_up (sv_up (sv_sts (sv_sts S [26, 27, 28, 29, 1046, 1047, 1100007, 1100023, 1100024, 1100025, 39, 1066] g3) [26, 27, 28, 29, 1046, 1047, 1100007, 1100023, 1100024, 1100025] g137) 39 (g3 1066 0) l3_4) 1066 0 ((g3 1066 0) + (1 : Int))) := Eq.mpr (congrArg (fun Z => sv_T sm_XS sm_cs sm_L sm_sh ((if (S 1047 0) = 0 then (S 1100002 p1) + (600 - (S 1046 0)) + 8 else 4)).toNat (q_value p1 S) 96 7 [(0, .ref 0), (1, sv_I p1), (2, sv_I (S 1066 0)), (3, sv_I x152)] [] Z) eS) hb
            exact sv_less (lv := [(0, .ref 0), (1, sv_I p1), (2, sv_I (S 1066 0)), (3, sv_I x152)]) (sv_Sub_cons rfl (sv_Sub_cons rfl (sv_Sub_cons rfl (sv_Sub_cons rfl sv_Sub_nil)))) hb
  have eS := sv_mod.eq (sv_mod.rf (l := [26, 27, 28, 29, 1046, 1047, 1100007, 1100023, 1100024, 1100025, 39, 1066]) (S := S))
  have hb := hJ (p1, S) ⟨hp1, (by rw [← eS]; exact hok), hin6⟩
  have hb : sv_T sm_XS sm_cs sm_L sm_sh ((if (S 1047 0) = 0 then (S 1100002 p1) + (600 - (S 1046 0)) + 8 else 4)).toNat (q_value p1 S) 96 7 [(0, .ref 0), (1, sv_I p1), (2, sv_I (S 1066 0)), (3, sv_I p1)] [] S := Eq.mpr (congrArg (fun Z => sv_T sm_XS sm_cs sm_L sm_sh ((if (S 1047 0) = 0 then (S 1100002 p1) + (600 - (S 1046 0)) + 8 else 4)).toNat (q_value p1 S) 96 7 [(0, .ref 0), (1, sv_I p1), (2, sv_I (S 1066 0)), (3, sv_I p1)] [] Z) eS) hb
  exact hb
