theorem dX12_values_0 : decode cX12_values 0 = .ok (.iconst 0, 1) := by decide +kernel
theorem dX12_values_1 : decode cX12_values 1 = .ok (.istore_n 2, 1) := by decide +kernel
theorem dX12_values_2 : decode cX12_values 2 = .ok (.iload_n 1, 1) := by decide +kernel
theorem dX12_values_3 : decode cX12_values 3 = .ok (.istore_n 3, 1) := by decide +kernel
theorem dX12_values_4 : decode cX12_values 4 = .ok (.iload_n 3, 1) := by decide +kernel
theorem dX12_values_5 : decode cX12_values 5 = .ok (.iconst (-1), 1) := by decide +kernel
theorem dX12_values_6 : decode cX12_values 6 = .ok (.if_icmp .eq 26, 3) := by decide +kernel
theorem dX12_values_9 : decode cX12_values 9 = .ok (.aload_n 0, 1) := by decide +kernel
theorem dX12_values_10 : decode cX12_values 10 = .ok (.aload_n 0, 1) := by decide +kernel
theorem dX12_values_11 : decode cX12_values 11 = .ok (.iload_n 3, 1) := by decide +kernel
theorem dX12_values_12 : decode cX12_values 12 = .ok (.iconst 0, 1) := by decide +kernel
theorem dX12_values_13 : decode cX12_values 13 = .ok (.invokevirtual 644, 3) := by decide +kernel
theorem dX12_values_16 : decode cX12_values 16 = .ok (.invokevirtual 668, 3) := by decide +kernel
theorem dX12_values_19 : decode cX12_values 19 = .ok (.iinc 2 1, 3) := by decide +kernel
theorem dX12_values_22 : decode cX12_values 22 = .ok (.aload_n 0, 1) := by decide +kernel
theorem dX12_values_23 : decode cX12_values 23 = .ok (.getfield 49, 3) := by decide +kernel
theorem dX12_values_26 : decode cX12_values 26 = .ok (.iload_n 3, 1) := by decide +kernel
theorem dX12_values_27 : decode cX12_values 27 = .ok (.iaload, 1) := by decide +kernel
theorem dX12_values_28 : decode cX12_values 28 = .ok (.istore_n 3, 1) := by decide +kernel
theorem dX12_values_29 : decode cX12_values 29 = .ok (.goto (-25), 3) := by decide +kernel
theorem dX12_values_32 : decode cX12_values 32 = .ok (.iload_n 2, 1) := by decide +kernel
theorem dX12_values_33 : decode cX12_values 33 = .ok (.ireturn, 1) := by decide +kernel

theorem la_values_0 : (0 : Int) ≤ 0 := by omega
theorem la_values_1 : (0 : Int) ≤ 8 := by omega
theorem la_values_2 {x0 : Int} (h0 : (-1) ≤ x0) : x0 = (-1) → (0 : Int) = 0 ∧ x0 = (-1) := by omega
theorem la_values_3 {x0 : Int} (h0 : (-1) ≤ x0) (h1 : ¬ x0 = (-1)) : (-1) < x0 := by omega
theorem la_values_4 {x0 x1 x2 x3 x4 : Int} (h0 : (-1) < x0) (h1 : x0 < x1) (h2 : x2 = 3) : x0 = (-1) ∨ 0 ≤ x0 ∧ x0 < x1 ∧ x2 = 3 ∧ 0 + x3 ≤ x3 ∧ x4 ≤ x4 := by omega
theorem la_values_5 {x0 : Int} : x0 ≤ x0 := by omega
theorem la_values_6 {x0 : Int} : x0 = 1 → x0 = 1 := by omega
theorem la_values_7 {x0 : Int} : x0 = x0 := by omega
theorem la_values_8 {x0 x1 : Int} : x0 = 1 → x1 = x1 := by omega
theorem la_values_9 {x0 : Int} (h0 : x0 = (-1)) : ¬ ¬ x0 = (-1) := by omega
theorem la_values_10 {x0 x1 x2 : Int} (h0 : x0 ≤ 600) (h1 : x1 = 0) : x2 ≤ x2 + 3 * (600 - x0) + x1 := by omega
theorem la_values_11 {x0 x1 x2 x3 : Int} (h0 : x0 ≤ 600) (h1 : x1 = 17 * x2 + 17) (h2 : 0 ≤ x2) : x3 ≤ x3 + 3 * (600 - x0) + x1 := by omega
theorem la_values_12 {x0 : Int} : x0 + 0 ≤ x0 := by omega
theorem la_values_13 {x0 : Int} : x0 = x0 + 0 := by omega
theorem la_values_14 {x0 x1 : Int} : x0 ≤ x0 + 3 * (x1 - x1) := by omega
theorem la_values_15 {x0 : Int} (h0 : x0 = 0) : 0 ≤ x0 := by omega
theorem la_values_16 {x0 x1 x2 x3 x4 x5 x6 x7 x8 x9 : Int} (h0 : 0 ≤ x0) (h1 : (-1) ≤ x1) (h2 : x1 = (-1) → x2 = 0 ∧ x3 = (-1)) (h3 : ¬ x1 = (-1) → x3 = (-1) ∨ 0 ≤ x3 ∧ x3 < x0 ∧ x4 = 3 ∧ x2 + x5 ≤ x6 ∧ x7 ≤ x8) (h4 : x9 = x0 - x3) : 0 ≤ x9 := by omega
theorem la_values_17 {x0 : Int} (h0 : x0 = 0) : ¬ x0 = 1 := by omega
theorem la_values_18 {x0 : Int} (h0 : x0 ≤ 1) (h1 : ¬ x0 = 1) : x0 < 1 := by omega
theorem la_values_19 {x0 : Int} (h0 : 0 ≤ x0) : (-1) ≤ x0 := by omega
theorem la_values_20 {x0 : Int} (h0 : x0 = 3) : ¬ x0 = 1 := by omega
theorem la_values_21 {x0 : Int} (h0 : x0 = 3) : ¬ x0 = 2 := by omega
theorem la_values_22 {x0 : Int} (h0 : x0 = 3) : ¬ x0 = 6 := by omega
theorem la_values_23 {x0 : Int} (h0 : x0 = 3) : 2 ≤ x0 := by omega
theorem la_values_24 {x0 : Int} (h0 : x0 = 1) : ¬ x0 = 2 := by omega
theorem la_values_25 {x0 : Int} (h0 : x0 = 1) : ¬ x0 = 6 := by omega
theorem la_values_26 {x0 : Int} (h0 : x0 = 1) : ¬ x0 = 3 := by omega
theorem la_values_27 {x0 x1 : Int} (h0 : x0 ≤ 12000) (h1 : 0 ≤ x1) (h2 : x1 < x0) : 0 ≤ x1 ∧ x1 < 12000 ∧ (0 : Int) ≤ 0 ∧ (0 : Int) ≤ 4 := by omega
theorem la_values_28 {x0 : Int} : 5 * x0 + 0 = 5 * x0 := by omega
theorem la_values_29 {x0 x1 x2 x3 x4 x5 : Int} (h0 : x0 ≤ x1) (h1 : 0 ≤ x2) (h2 : x3 = 17 * x2 + 17) (h3 : x4 = x3 + (600 - x5) + 9) (h4 : x1 ≤ x0 + 3 * (600 - x5) + x3) : 0 + 1 ≤ x4 := by omega
theorem la_values_30 {x0 : Int} (h0 : 0 ≤ x0) (h1 : ¬ x0 = 0) : 0 < x0 := by omega
theorem la_values_31 {x0 : Int} (h0 : x0 ≤ 1) (h1 : 0 < x0) : x0 = 1 := by omega
theorem la_values_32 {x0 : Int} (h0 : x0 = 1) : ¬ x0 = 0 := by omega
theorem la_values_33 {x0 : Int} (h0 : x0 = 5) : 0 + 1 ≤ x0 := by omega
theorem la_values_34 {x0 x1 : Int} (h0 : 0 ≤ x0) (h1 : x1 = x0) : 0 ≤ x1 := by omega
theorem la_values_35 {x0 x1 x2 : Int} (h0 : x0 < x1) (h1 : x2 = x0) : x2 < x1 := by omega
theorem la_values_36 {x0 x1 : Int} (h0 : x0 = 1) (h1 : x1 = x0) : x1 = 1 := by omega
theorem la_values_37 {x0 x1 : Int} (h0 : x0 = x1) : x0 ≤ x1 := by omega
theorem la_values_38 {x0 x1 x2 x3 x4 x5 x6 : Int} (h0 : x0 ≤ 12000) (h1 : x1 ≤ x2) (h2 : x3 < x0) (h3 : x4 ≤ 17 * x1 + 17) (h4 : x5 = x4) (h5 : x6 = x3) : 12001 * x5 + x6 ≤ 12001 * (17 * x2 + 18) := by omega
theorem la_values_39 {x0 x1 x2 x3 x4 x5 x6 : Int} (h0 : 0 ≤ x0) (h1 : x1 = x2 + x0) (h2 : x3 = x4) (h3 : x5 = x6) (h4 : 0 ≤ x4 → x6 ≤ x2) : 0 ≤ x3 → x5 ≤ x1 := by omega
theorem la_values_40 {x0 x1 x2 x3 x4 : Int} (h0 : x0 + x1 ≤ x2) (h1 : x3 = x4 + x1) (h2 : x4 ≤ x0) : x3 ≤ x2 := by omega
theorem la_values_41 {x0 x1 x2 x3 x4 x5 x6 x7 x8 : Int} (h0 : x0 = 17 * x1 + 17) (h1 : x2 ≤ x1) (h2 : x3 ≤ 17 * x2 + 17) (h3 : x4 = x3) (h4 : x5 ≤ x6 + 3 * (x7 - x8)) (h5 : x6 + 3 * (600 - x8) + x0 ≤ 8000) : x5 + 3 * (600 - x7) + x4 ≤ 8000 := by omega
theorem la_values_42 {x0 x1 x2 x3 : Int} (h0 : x0 ≤ 600) (h1 : 0 ≤ x1) (h2 : x2 = x1) (h3 : x3 = x2 + (600 - x0) + 8) : 0 ≤ x3 := by omega
theorem la_values_43 {x0 : Int} (h0 : x0 = 4) : 0 ≤ x0 := by omega
theorem la_values_44 {x0 x1 x2 x3 x4 x5 x6 x7 x8 x9 : Int} (h0 : x0 = x1) (h1 : x2 ≤ x3) (h2 : x4 = 17 * x5 + 17) (h3 : x6 ≤ x5) (h4 : x7 ≤ 17 * x6 + 17) (h5 : x8 = x7) (h6 : x9 = x8 + (600 - x3) + 8) (h7 : x0 = x4 + (600 - x2) + 9) : x9 < x1 := by omega
theorem la_values_45 {x0 x1 x2 x3 x4 x5 x6 x7 : Int} (h0 : x0 = x1) (h1 : x2 ≤ x3) (h2 : 0 ≤ x4) (h3 : x5 = 17 * x4 + 17) (h4 : x6 = 4) (h5 : x0 = x5 + (600 - x7) + 9) (h6 : x3 ≤ x2 + 3 * (600 - x7) + x5) : x6 < x1 := by omega
theorem la_values_46 {x0 x1 x2 : Int} (h0 : x0 = x1) (h1 : x2 = 4) (h2 : x0 = 5) : x2 < x1 := by omega
theorem la_values_47 {x0 x1 x2 x3 x4 x5 x6 x7 x8 : Int} (h0 : x0 ≤ x1) (h1 : x2 = 17 * x3 + 17) (h2 : x4 ≤ x3) (h3 : x5 ≤ 17 * x4 + 17) (h4 : x6 = x5) (h5 : x7 = x6 + (600 - x1) + 8) (h6 : x8 = x2 + (600 - x0) + 9) : x7 + 1 ≤ x8 := by omega
theorem la_values_48 {x0 x1 x2 x3 x4 x5 x6 : Int} (h0 : x0 ≤ x1) (h1 : 0 ≤ x2) (h2 : x3 = 17 * x2 + 17) (h3 : x4 = 4) (h4 : x5 = x3 + (600 - x6) + 9) (h5 : x1 ≤ x0 + 3 * (600 - x6) + x3) : x4 + 1 ≤ x5 := by omega
theorem la_values_49 {x0 x1 : Int} (h0 : x0 = 4) (h1 : x1 = 5) : x0 + 1 ≤ x1 := by omega
theorem la_values_50 {x0 x1 : Int} (h0 : x0 ≤ 12000) (h1 : 0 ≤ x1) (h2 : x1 < x0) : 0 ≤ x1 ∧ x1 < 12000 := by omega
theorem la_values_51 {x0 : Int} (h0 : 0 ≤ x0) (h1 : x0 ≤ 8) : sv_R (x0 + 1) := by omega
theorem la_values_52 {x0 : Int} (h0 : 0 ≤ x0) : 0 ≤ x0 + 1 := by omega
theorem la_values_53 {x0 x1 x2 : Int} (h0 : x0 ≤ 8) (h1 : x1 + x2 ≤ x0) (h2 : 1 ≤ x2) : x1 + 1 ≤ 8 := by omega
theorem la_values_54 {x0 x1 x2 : Int} (h0 : 0 ≤ x0) (h1 : 0 ≤ x1) : x1 = (-1) → x0 + 1 = 0 ∧ x2 = (-1) := by omega
theorem la_values_55 {x0 x1 x2 x3 x4 x5 x6 x7 x8 x9 x10 x11 x12 x13 x14 x15 x16 x17 : Int} (h0 : 0 ≤ x0) (h1 : x0 < x1) (h2 : (-1) < x0) (h3 : 0 ≤ x2) (h4 : x3 = 3) (h5 : x4 + x5 ≤ x6) (h6 : x7 ≤ x8) (h7 : (-1) < x2) (h8 : 0 ≤ x9) (h9 : x9 < x1) (h10 : x10 = (-1) ∨ x2 < x10 ∧ x10 < x1 ∧ x11 = x3 ∧ x12 ≤ x5 ∧ x13 ≤ x7 ∧ x14 ≤ x15 ∧ x16 ≤ x17 ∧ (x3 = 3 ∨ x3 = 6 → x12 < x5) ∧ (x3 = 6 → x17 = 2 → x16 < 2)) : ¬ x0 = (-1) → x10 = (-1) ∨ 0 ≤ x10 ∧ x10 < x1 ∧ x11 = 3 ∧ x4 + 1 + x12 ≤ x6 ∧ x13 ≤ x8 := by omega
theorem la_values_56 {x0 x1 x2 : Int} (h0 : x0 ≤ x1) (h1 : x1 ≤ x2) : x0 ≤ x2 := by omega
theorem la_values_57 {x0 x1 x2 : Int} (h0 : x0 ≤ 1) (h1 : x1 = 1 → x0 = 1) (h2 : x2 ≤ 1) (h3 : x0 = 1 → x2 = 1) : x1 = 1 → x2 = 1 := by omega
theorem la_values_58 {x0 x1 : Int} (h0 : x0 ≤ x1) : x0 + 1 ≤ x1 + 1 := by omega
theorem la_values_59 {x0 x1 x2 : Int} (h0 : x0 = x1) (h1 : x2 = x0) : x2 = x1 := by omega
theorem la_values_60 {x0 x1 : Int} (h0 : x0 = x1) : x1 ≤ x0 := by omega
theorem la_values_61 {x0 x1 x2 x3 x4 : Int} (h0 : x0 ≤ 1) (h1 : x1 = 1 → x0 = 1) (h2 : x2 ≤ x3) (h3 : x1 = 1 → x3 = x2) (h4 : x3 ≤ x4) (h5 : x0 = 1 → x4 = x3) : x1 = 1 → x4 = x2 := by omega
theorem la_values_62 {x0 x1 x2 x3 x4 : Int} (h0 : x0 ≤ x1 + 3 * (600 - x2) + x3) (h1 : x4 = x0) : x4 ≤ x1 + 3 * (600 - x2) + x3 := by omega
theorem la_values_63 {x0 : Int} (h0 : 0 ≤ x0) (h1 : x0 < 1) : x0 = 0 := by omega
theorem la_values_64 {x0 x1 x2 x3 x4 x5 x6 x7 x8 x9 : Int} (h0 : x0 = 17 * x1 + 17) (h1 : x2 ≤ x1) (h2 : x3 ≤ 17 * x2 + 17) (h3 : x4 = x3) (h4 : x5 ≤ x6 + 3 * (x7 - x8)) (h5 : x9 ≤ x5 + 3 * (600 - x7) + x4) : x9 ≤ x6 + 3 * (600 - x8) + x0 := by omega
theorem la_values_65 {x0 x1 x2 x3 : Int} (h0 : x0 + 1 ≤ x1) (h1 : x2 + x3 ≤ x0) : x2 + (x3 + 1) ≤ x1 := by omega
theorem la_values_66 {x0 x1 x2 x3 : Int} (h0 : x0 = x1 + 1) (h1 : x1 = x2 + x3) : x0 = x2 + (x3 + 1) := by omega
theorem la_values_67 {x0 x1 x2 : Int} (h0 : x0 = x1) (h1 : x1 = x2) : x0 = x2 := by omega
theorem la_values_68 {x0 x1 : Int} (h0 : x0 ≤ x1) : x0 < x1 + 1 := by omega
theorem la_values_69 {x0 : Int} : x0 < x0 + 1 := by omega
theorem la_values_70 {x0 x1 x2 x3 x4 x5 : Int} (h0 : x0 ≤ x1) (h1 : 0 ≤ x2) (h2 : x3 = 8 * x2 + 17) (h3 : x1 + 1 ≤ x4) : 2 * x5 ≤ 2 * x5 + (x4 - x0) + x3 := by omega
theorem la_values_71 {x0 : Int} : x0 ≤ x0 + 1 := by omega
theorem la_values_72 {x0 x1 x2 x3 x4 : Int} (h0 : x0 + 1 ≤ x1) : 2 * x2 + (x0 - x3) + x4 ≤ 2 * x2 + (x1 - x3) + x4 := by omega
theorem la_values_73 {x0 x1 x2 x3 x4 x5 x6 x7 x8 x9 : Int} (h0 : x0 ≤ 8) (h1 : 0 ≤ x1) (h2 : x2 = 8 * x1 + 17) (h3 : x3 + x4 ≤ x0) (h4 : 1 ≤ x4) (h5 : x5 + 1 ≤ x6) (h6 : x7 + x3 ≤ x5) (h7 : x8 = x9 + x3) : 2 * x8 ≤ 2 * x9 + (x6 - x7) + x2 := by omega
theorem la_values_74 {x0 x1 x2 x3 x4 x5 x6 x7 x8 x9 x10 x11 x12 : Int} (h0 : x0 ≤ 8) (h1 : x1 = 8 * x2 + 17) (h2 : x3 + x4 ≤ x0) (h3 : x5 ≤ x2) (h4 : 1 ≤ x4) (h5 : x6 ≤ x5) (h6 : x7 = x6) (h7 : x8 + x3 ≤ x9) (h8 : x10 = x11 + x3) : 2 * x10 + (x12 - x9) + 8 * x7 + 10 ≤ 2 * x11 + (x12 - x8) + x1 := by omega
theorem la_values_75 {x0 x1 x2 x3 x4 x5 : Int} (h0 : x0 ≤ x1 + 3 * (x2 - x3)) (h1 : x1 ≤ x4 + 3 * (x3 - x5)) : x0 ≤ x4 + 3 * (x2 - x5) := by omega
theorem la_values_76 {x0 x1 x2 x3 x4 x5 x6 x7 x8 x9 x10 x11 x12 : Int} (h0 : 0 ≤ x0) (h1 : x1 = 3) (h2 : (-1) < x0) (h3 : x2 = (-1)) : ¬ (x0 < x2 ∧ x2 < x3 ∧ x4 = x1 ∧ x5 ≤ x6 ∧ x7 ≤ x8 ∧ x9 ≤ x10 ∧ x11 ≤ x12 ∧ (x1 = 3 ∨ x1 = 6 → x5 < x6) ∧ (x1 = 6 → x12 = 2 → x11 < 2)) := by omega
theorem la_values_77 {x0 x1 x2 x3 : Int} (h0 : x0 < x1) (h1 : x2 = x1 - x0) (h2 : x3 = 0) : x3 < x2 := by omega
theorem la_values_78 {x0 x1 : Int} (h0 : 0 ≤ x0) (h1 : x0 < x1) : (-1) ≤ x1 := by omega
theorem la_values_79 {x0 : Int} (h0 : x0 = 3) : x0 = 3 ∨ x0 = 6 := by omega
theorem la_values_80 {x0 x1 x2 x3 x4 : Int} (h0 : x0 = x1 - x2) (h1 : x3 = x1 - x4) (h2 : x2 < x4) : x3 < x0 := by omega
set_option maxHeartbeats 16000000 in
theorem f_values : ∀ (d : Int) (p1 : Int) (S : sv_S), sm_ok S → sv_R p1 → (sm_WF (S 11) (S 12) (S 13) (S 1100001) (S 1100002) (S 1100005) (S 1100003) (S 1100004) (S 1024 0) (S 1007 0) (S 1009 0) (sm_fn (S 1032 0) (S 21) (S 1056 0)) ∧ (S 1009 0) = 0 ∧ 0 ≤ (S 1007 0) ∧ (S 1007 0) ≤ 90 ∧ 0 ≤ (S 1024 0) ∧ (S 1024 0) ≤ 12000 ∧ 1 ≤ (S 1032 0) ∧ (S 1032 0) ≤ 11 ∧ 0 ≤ (S 1056 0) ∧ (S 1056 0) < (S 1032 0) ∧ sm_VB (S 33) (S 21) (S 1032 0) ∧ 0 ≤ (S 1046 0) ∧ (S 1046 0) ≤ 600 ∧ 0 ≤ (S 1047 0) ∧ (S 1047 0) ≤ 1 ∧ 0 ≤ (S 1053 0) ∧ 0 ≤ (S 1066 0) ∧ -1 ≤ p1 ∧ (¬ p1 = -1 → 0 ≤ p1 ∧ p1 < (S 1024 0) ∧ (S 1100001 p1) = 3 ∧ 0 ≤ (S 1100002 p1) ∧ (S 1100002 p1) ≤ 8 ∧ 0 ≤ (S 1100005 p1) ∧ sm_LF (S 39) (S 1100002) (S 1066 0) (S 1024 0) (12001 * (17 * (S 1100005 p1) + 18))) ∧ 0 ≤ (S 1066 0) ∧ ((S 1047 0) = 0 → sm_KC (S 26) (S 27) (S 28) (S 29) (S 1100007) (S 1100023) (S 1100024) (S 1100025) (S 31) (S 1100009) (S 1100027) (S 1100028) (S 1100026) (S 1100030) (S 21) (S 32) (S 33) (S 1046 0) (S 1053 0) (S 1056 0) (S 1032 0) (S 1007 0) (S 1100033 0) ∧ (S 1100033 0) = (S 1055 0) ∧ 0 ≤ (S 1055 0) ∧ (S 1055 0) ≤ (S 1046 0) ∧ (0 ≤ (S 1100023 (S 1046 0)) → (S 1100007 (S 1100023 (S 1046 0))) ≤ (S 1100007 (S 1046 0))) ∧ (0 ≤ (S 1100025 (S 1046 0)) → (S 1100007 (S 1100025 (S 1046 0))) ≤ (S 1100007 (S 1046 0))) ∧ (S 1100007 (S 1046 0)) ≤ (S 1046 0) ∧ (S 1053 0) + 3 * (600 - (S 1046 0)) + (if p1 = -1 then 0 else 17 * (S 1100005 p1) + 17) ≤ 8000)) → ((if (S 1047 0) = 0 then (if p1 = -1 then 0 else 17 * (S 1100005 p1) + 17) + (600 - (S 1046 0)) + 9 else 5)) = d → ((0 ≤ (0 : Int) ∧ (0 : Int) ≤ 8 ∧ (p1 = -1 → (0 : Int) = 0 ∧ p1 = -1) ∧ (¬ p1 = -1 → (p1 = -1 ∨ (0 ≤ p1 ∧ p1 < (S 1024 0) ∧ (S 1100001 p1) = 3 ∧ (0 : Int) + (S 1100002 p1) ≤ (S 1100002 p1) ∧ (S 1100005 p1) ≤ (S 1100005 p1)))) ∧ (¬ p1 = -1 → sm_LF (S 39) (S 1100002) (S 1066 0) (S 1024 0) (12001 * (17 * (S 1100005 p1) + 18))) ∧ 0 ≤ (S 1046 0) ∧ (S 1046 0) ≤ 600 ∧ 0 ≤ (S 1047 0) ∧ (S 1047 0) ≤ 1 ∧ 0 ≤ (S 1053 0) ∧ 0 ≤ (S 1066 0) ∧ (S 1046 0) ≤ (S 1046 0) ∧ ((S 1047 0) = 1 → (S 1047 0) = 1) ∧ sm_F1 (S 26) (S 26) (S 1046 0) ∧ sm_F1 (S 27) (S 27) (S 1046 0) ∧ sm_F1 (S 28) (S 28) (S 1046 0) ∧ sm_F1 (S 29) (S 29) (S 1046 0) ∧ sm_F1 (S 1100007) (S 1100007) ((S 1046 0) + 1) ∧ sm_F1 (S 1100023) (S 1100023) ((S 1046 0) + 1) ∧ sm_F1 (S 1100024) (S 1100024) ((S 1046 0) + 1) ∧ sm_F1 (S 1100025) (S 1100025) ((S 1046 0) + 1) ∧ sm_F1 (S 1100009) (S 1100009) (S 1053 0) ∧ sm_F1 (S 1100027) (S 1100027) (S 1053 0) ∧ sm_F1 (S 1100028) (S 1100028) (S 1053 0) ∧ sm_F1 (S 1100026) (S 1100026) (S 1053 0) ∧ sm_F1 (S 1100030) (S 1100030) (S 1053 0) ∧ sm_F1 (S 31) (S 31) (S 1053 0) ∧ (S 1053 0) ≤ (S 1053 0) ∧ (S 1066 0) = (S 1066 0) ∧ sm_F1 (S 39) (S 39) (S 1066 0) ∧ ((S 1047 0) = 1 → (S 1053 0) = (S 1053 0)) ∧ ((S 1047 0) = 0 → (S 1053 0) ≤ (S 1053 0) + 3 * (600 - (S 1046 0)) + (if p1 = -1 then 0 else 17 * (S 1100005 p1) + 17)) ∧ ((S 1047 0) = 0 → (S 1047 0) = 0 ∧ sm_KC (S 26) (S 27) (S 28) (S 29) (S 1100007) (S 1100023) (S 1100024) (S 1100025) (S 31) (S 1100009) (S 1100027) (S 1100028) (S 1100026) (S 1100030) (S 21) (S 32) (S 33) (S 1046 0) (S 1053 0) (S 1056 0) (S 1032 0) (S 1007 0) (S 1100033 0) ∧ (S 1100033 0) = (S 1055 0) ∧ 0 ≤ (S 1055 0) ∧ (S 1055 0) ≤ (S 1046 0) ∧ (S 1046 0) + (0 : Int) ≤ (S 1046 0) ∧ sm_FC (S 29) (S 1046 0) (S 1046 0) (S 1056 0) ∧ (S 1100007 (S 1046 0)) = (S 1100007 (S 1046 0)) + (0 : Int) ∧ (S 1100023 (S 1046 0)) = (S 1100023 (S 1046 0)) ∧ (S 1100024 (S 1046 0)) = (S 1100024 (S 1046 0)) ∧ (S 1100025 (S 1046 0)) = (S 1100025 (S 1046 0)) ∧ (S 1100007 (S 1100023 (S 1046 0))) = (S 1100007 (S 1100023 (S 1046 0))) ∧ (S 1100007 (S 1100025 (S 1046 0))) = (S 1100007 (S 1100025 (S 1046 0))) ∧ sm_AP (S 1100030) (S 1053 0) (S 1053 0) ∧ sm_HB (S 1100007) (S 1046 0) (S 1046 0) (2 * (S 1100007 (S 1046 0)) + ((S 1046 0) - (S 1046 0)) + (if p1 = -1 then 0 else 8 * (S 1100005 p1) + 17)) ∧ (S 1053 0) ≤ (S 1053 0) + 3 * ((S 1046 0) - (S 1046 0)) ∧ True)) ∧ (∀ l2_2 : Int, sv_R l2_2 → ∀ l3_3 : Int, sv_R l3_3 → ∀ g1 : sv_S, (0 ≤ l2_2 ∧ l2_2 ≤ 8 ∧ (p1 = -1 → l2_2 = 0 ∧ l3_3 = -1) ∧ (¬ p1 = -1 → (l3_3 = -1 ∨ (0 ≤ l3_3 ∧ l3_3 < (S 1024 0) ∧ (S 1100001 l3_3) = 3 ∧ l2_2 + (S 1100002 l3_3) ≤ (S 1100002 p1) ∧ (S 1100005 l3_3) ≤ (S 1100005 p1)))) ∧ (¬ p1 = -1 → sm_LF (g1 39) (S 1100002) (g1 1066 0) (S 1024 0) (12001 * (17 * (S 1100005 p1) + 18))) ∧ 0 ≤ (g1 1046 0) ∧ (g1 1046 0) ≤ 600 ∧ 0 ≤ (g1 1047 0) ∧ (g1 1047 0) ≤ 1 ∧ 0 ≤ (g1 1053 0) ∧ 0 ≤ (g1 1066 0) ∧ (S 1046 0) ≤ (g1 1046 0) ∧ ((S 1047 0) = 1 → (g1 1047 0) = 1) ∧ sm_F1 (S 26) (g1 26) (S 1046 0) ∧ sm_F1 (S 27) (g1 27) (S 1046 0) ∧ sm_F1 (S 28) (g1 28) (S 1046 0) ∧ sm_F1 (S 29) (g1 29) (S 1046 0) ∧ sm_F1 (S 1100007) (g1 1100007) ((S 1046 0) + 1) ∧ sm_F1 (S 1100023) (g1 1100023) ((S 1046 0) + 1) ∧ sm_F1 (S 1100024) (g1 1100024) ((S 1046 0) + 1) ∧ sm_F1 (S 1100025) (g1 1100025) ((S 1046 0) + 1) ∧ sm_F1 (S 1100009) (g1 1100009) (S 1053 0) ∧ sm_F1 (S 1100027) (g1 1100027) (S 1053 0) ∧ sm_F1 (S 1100028) (g1 1100028) (S 1053 0) ∧ sm_F1 (S 1100026) (g1 1100026) (S 1053 0) ∧ sm_F1 (S 1100030) (g1 1100030) (S 1053 0) ∧ sm_F1 (S 31) (g1 31) (S 1053 0) ∧ (S 1053 0) ≤ (g1 1053 0) ∧ (g1 1066 0) = (S 1066 0) ∧ sm_F1 (S 39) (g1 39) (S 1066 0) ∧ ((S 1047 0) = 1 → (g1 1053 0) = (S 1053 0)) ∧ ((S 1047 0) = 0 → (g1 1053 0) ≤ (S 1053 0) + 3 * (600 - (S 1046 0)) + (if p1 = -1 then 0 else 17 * (S 1100005 p1) + 17)) ∧ ((g1 1047 0) = 0 → (S 1047 0) = 0 ∧ sm_KC (g1 26) (g1 27) (g1 28) (g1 29) (g1 1100007) (g1 1100023) (g1 1100024) (g1 1100025) (g1 31) (g1 1100009) (g1 1100027) (g1 1100028) (g1 1100026) (g1 1100030) (S 21) (S 32) (S 33) (g1 1046 0) (g1 1053 0) (S 1056 0) (S 1032 0) (S 1007 0) (g1 1100033 0) ∧ (g1 1100033 0) = (g1 1055 0) ∧ 0 ≤ (g1 1055 0) ∧ (g1 1055 0) ≤ (g1 1046 0) ∧ (S 1046 0) + l2_2 ≤ (g1 1046 0) ∧ sm_FC (g1 29) (S 1046 0) (g1 1046 0) (S 1056 0) ∧ (g1 1100007 (g1 1046 0)) = (S 1100007 (S 1046 0)) + l2_2 ∧ (g1 1100023 (g1 1046 0)) = (S 1100023 (S 1046 0)) ∧ (g1 1100024 (g1 1046 0)) = (S 1100024 (S 1046 0)) ∧ (g1 1100025 (g1 1046 0)) = (S 1100025 (S 1046 0)) ∧ (g1 1100007 (g1 1100023 (g1 1046 0))) = (S 1100007 (S 1100023 (S 1046 0))) ∧ (g1 1100007 (g1 1100025 (g1 1046 0))) = (S 1100007 (S 1100025 (S 1046 0))) ∧ sm_AP (g1 1100030) (S 1053 0) (g1 1053 0) ∧ sm_HB (g1 1100007) (S 1046 0) (g1 1046 0) (2 * (S 1100007 (S 1046 0)) + ((g1 1046 0) - (S 1046 0)) + (if p1 = -1 then 0 else 8 * (S 1100005 p1) + 17)) ∧ (g1 1053 0) ≤ (S 1053 0) + 3 * ((g1 1046 0) - (S 1046 0)) ∧ True)) → (0 ≤ (if l3_3 = -1 then 0 else (S 1024 0) - l3_3)) ∧ (((l3_3 = (-1 : Int)) → (0 ≤ l2_2 ∧ l2_2 ≤ 8 ∧ 0 ≤ (g1 1046 0) ∧ (g1 1046 0) ≤ 600 ∧ 0 ≤ (g1 1047 0) ∧ (g1 1047 0) ≤ 1 ∧ 0 ≤ (g1 1053 0) ∧ 0 ≤ (g1 1066 0) ∧ (S 1046 0) ≤ (g1 1046 0) ∧ ((S 1047 0) = 1 → (g1 1047 0) = 1) ∧ sm_F1 (S 26) (g1 26) (S 1046 0) ∧ sm_F1 (S 27) (g1 27) (S 1046 0) ∧ sm_F1 (S 28) (g1 28) (S 1046 0) ∧ sm_F1 (S 29) (g1 29) (S 1046 0) ∧ sm_F1 (S 1100007) (g1 1100007) ((S 1046 0) + 1) ∧ sm_F1 (S 1100023) (g1 1100023) ((S 1046 0) + 1) ∧ sm_F1 (S 1100024) (g1 1100024) ((S 1046 0) + 1) ∧ sm_F1 (S 1100025) (g1 1100025) ((S 1046 0) + 1) ∧ sm_F1 (S 1100009) (g1 1100009) (S 1053 0) ∧ sm_F1 (S 1100027) (g1 1100027) (S 1053 0) ∧ sm_F1 (S 1100028) (g1 1100028) (S 1053 0) ∧ sm_F1 (S 1100026) (g1 1100026) (S 1053 0) ∧ sm_F1 (S 1100030) (g1 1100030) (S 1053 0) ∧ sm_F1 (S 31) (g1 31) (S 1053 0) ∧ (S 1053 0) ≤ (g1 1053 0) ∧ (g1 1066 0) = (S 1066 0) ∧ sm_F1 (S 39) (g1 39) (S 1066 0) ∧ ((S 1047 0) = 1 → (g1 1053 0) = (S 1053 0)) ∧ ((S 1047 0) = 0 → (g1 1053 0) ≤ (S 1053 0) + 3 * (600 - (S 1046 0)) + (if p1 = -1 then 0 else 17 * (S 1100005 p1) + 17)) ∧ ((g1 1047 0) = 0 → (S 1047 0) = 0 ∧ sm_KC (g1 26) (g1 27) (g1 28) (g1 29) (g1 1100007) (g1 1100023) (g1 1100024) (g1 1100025) (g1 31) (g1 1100009) (g1 1100027) (g1 1100028) (g1 1100026) (g1 1100030) (S 21) (S 32) (S 33) (g1 1046 0) (g1 1053 0) (S 1056 0) (S 1032 0) (S 1007 0) (g1 1100033 0) ∧ (g1 1100033 0) = (g1 1055 0) ∧ 0 ≤ (g1 1055 0) ∧ (g1 1055 0) ≤ (g1 1046 0) ∧ (S 1046 0) + l2_2 ≤ (g1 1046 0) ∧ sm_FC (g1 29) (S 1046 0) (g1 1046 0) (S 1056 0) ∧ (g1 1100007 (g1 1046 0)) = (S 1100007 (S 1046 0)) + l2_2 ∧ (g1 1100023 (g1 1046 0)) = (S 1100023 (S 1046 0)) ∧ (g1 1100024 (g1 1046 0)) = (S 1100024 (S 1046 0)) ∧ (g1 1100025 (g1 1046 0)) = (S 1100025 (S 1046 0)) ∧ (g1 1100007 (g1 1100023 (g1 1046 0))) = (S 1100007 (S 1100023 (S 1046 0))) ∧ (g1 1100007 (g1 1100025 (g1 1046 0))) = (S 1100007 (S 1100025 (S 1046 0))) ∧ sm_AP (g1 1100030) (S 1053 0) (g1 1053 0) ∧ sm_HB (g1 1100007) (S 1046 0) (g1 1046 0) (2 * (S 1100007 (S 1046 0)) + ((g1 1046 0) - (S 1046 0)) + (if p1 = -1 then 0 else 8 * (S 1100005 p1) + 17)) ∧ (g1 1053 0) ≤ (S 1053 0) + 3 * ((g1 1046 0) - (S 1046 0)) ∧ True))) ∧ ((¬ (l3_3 = (-1 : Int))) → (((p1 = -1 → l2_2 = 0 ∧ l3_3 = -1) → ¬ l3_3 = -1 → ¬ p1 = -1) → ((sm_WF (S 11) (S 12) (S 13) (S 1100001) (S 1100002) (S 1100005) (S 1100003) (S 1100004) (S 1024 0) (S 1007 0) (S 1009 0) (sm_fn (S 1032 0) (S 21) (S 1056 0)) → 0 ≤ l3_3 → l3_3 < (S 1024 0) → ((S 1100001 (l3_3)) = 1 → 0 ≤ (S 1100002 (l3_3)) ∧ ((S 11 (l3_3)) = 3 → (S 12 (5 * (l3_3) + 1)) < (l3_3)) ∧ ((S 11 (l3_3)) = 4 ∨ (S 11 (l3_3)) = 5 ∨ (S 11 (l3_3)) = 8 ∨ (S 11 (l3_3)) = 9 → 17 * (S 1100005 (l3_3)) + 2 ≤ (S 1100002 (l3_3))) ∧ 0 ≤ (S 1100005 (l3_3))) ∧ ((S 1100001 (l3_3)) = 2 → 0 ≤ (S 1100005 (l3_3)) ∧ (S 1100002 (l3_3)) ≤ 17 * (S 1100005 (l3_3)) + 5 ∧ ((S 11 (l3_3)) = 33 → 1 ≤ (S 1100005 (l3_3)))) ∧ ((S 1100001 (l3_3)) = 6 → 0 ≤ (S 1100002 (l3_3)) ∧ 1 ≤ (S 1100004 (l3_3)) ∧ ((S 12 (5 * (l3_3))) = - 1 → (S 1100004 (l3_3)) = 2)) ∧ ((S 1100001 (l3_3)) = 3 → 1 ≤ (S 1100002 (l3_3)))) → ((sm_WF (S 11) (S 12) (S 13) (S 1100001) (S 1100002) (S 1100005) (S 1100003) (S 1100004) (S 1024 0) (S 1007 0) (S 1009 0) (sm_fn (S 1032 0) (S 21) (S 1056 0)) → 0 ≤ l3_3 → l3_3 < (S 1024 0) → (S 1100001 l3_3) = 3 → sm_ex (S 1100001) (S 1100002) (S 1100005) (S 1024 0) 1 ((S 12 (5 * (l3_3)))) (17 * (S 1100005 (l3_3)) + 17) ((S 1100005 (l3_3)))) → ((sm_WF (S 11) (S 12) (S 13) (S 1100001) (S 1100002) (S 1100005) (S 1100003) (S 1100004) (S 1024 0) (S 1007 0) (S 1009 0) (sm_fn (S 1032 0) (S 21) (S 1056 0)) → 0 ≤ l3_3 → l3_3 < (S 1024 0) → 2 ≤ (S 1100001 l3_3) → (S 13 (l3_3)) = - 1 ∨ ((l3_3) < (S 13 (l3_3)) ∧ (S 13 (l3_3)) < (S 1024 0) ∧ (S 1100001 ((S 13 (l3_3)))) = (S 1100001 (l3_3)) ∧ (S 1100002 ((S 13 (l3_3)))) ≤ (S 1100002 (l3_3)) ∧ (S 1100005 ((S 13 (l3_3)))) ≤ (S 1100005 (l3_3)) ∧ (S 1100003 ((S 13 (l3_3)))) ≤ (S 1100003 (l3_3)) ∧ (S 1100004 ((S 13 (l3_3)))) ≤ (S 1100004 (l3_3)) ∧ ((S 1100001 (l3_3)) = 3 ∨ (S 1100001 (l3_3)) = 6 → (S 1100002 ((S 13 (l3_3)))) < (S 1100002 (l3_3))) ∧ ((S 1100001 (l3_3)) = 6 → (S 1100004 (l3_3)) = 2 → (S 1100004 ((S 13 (l3_3)))) < 2))) → ((sm_WF (S 11) (S 12) (S 13) (S 1100001) (S 1100002) (S 1100005) (S 1100003) (S 1100004) (S 1024 0) (S 1007 0) (S 1009 0) (sm_fn (S 1032 0) (S 21) (S 1056 0)) → 0 ≤ (S 12 (5 * l3_3)) → (S 12 (5 * l3_3)) < (S 1024 0) → ((S 1100001 ((S 12 (5 * l3_3)))) = 1 → 0 ≤ (S 1100002 ((S 12 (5 * l3_3)))) ∧ ((S 11 ((S 12 (5 * l3_3)))) = 3 → (S 12 (5 * ((S 12 (5 * l3_3))) + 1)) < ((S 12 (5 * l3_3)))) ∧ ((S 11 ((S 12 (5 * l3_3)))) = 4 ∨ (S 11 ((S 12 (5 * l3_3)))) = 5 ∨ (S 11 ((S 12 (5 * l3_3)))) = 8 ∨ (S 11 ((S 12 (5 * l3_3)))) = 9 → 17 * (S 1100005 ((S 12 (5 * l3_3)))) + 2 ≤ (S 1100002 ((S 12 (5 * l3_3))))) ∧ 0 ≤ (S 1100005 ((S 12 (5 * l3_3))))) ∧ ((S 1100001 ((S 12 (5 * l3_3)))) = 2 → 0 ≤ (S 1100005 ((S 12 (5 * l3_3)))) ∧ (S 1100002 ((S 12 (5 * l3_3)))) ≤ 17 * (S 1100005 ((S 12 (5 * l3_3)))) + 5 ∧ ((S 11 ((S 12 (5 * l3_3)))) = 33 → 1 ≤ (S 1100005 ((S 12 (5 * l3_3)))))) ∧ ((S 1100001 ((S 12 (5 * l3_3)))) = 6 → 0 ≤ (S 1100002 ((S 12 (5 * l3_3)))) ∧ 1 ≤ (S 1100004 ((S 12 (5 * l3_3)))) ∧ ((S 12 (5 * ((S 12 (5 * l3_3))))) = - 1 → (S 1100004 ((S 12 (5 * l3_3)))) = 2)) ∧ ((S 1100001 ((S 12 (5 * l3_3)))) = 3 → 1 ≤ (S 1100002 ((S 12 (5 * l3_3)))))) → (((S 1100005 (S 12 (5 * l3_3 + 0))) = (S 1100005 (S 12 (5 * l3_3)))) → (((S 1100002 (S 12 (5 * l3_3 + 0))) = (S 1100002 (S 12 (5 * l3_3)))) → (0 ≤ l3_3 ∧ l3_3 < 12000 ∧ 0 ≤ (0 : Int) ∧ (0 : Int) ≤ 4) ∧ (0 + 1 ≤ ((if (S 1047 0) = 0 then (if p1 = -1 then 0 else 17 * (S 1100005 p1) + 17) + (600 - (S 1046 0)) + 9 else 5))) ∧ (sm_WF (S 11) (S 12) (S 13) (S 1100001) (S 1100002) (S 1100005) (S 1100003) (S 1100004) (S 1024 0) (S 1007 0) (S 1009 0) (sm_fn (S 1032 0) (S 21) (S 1056 0)) ∧ (S 1009 0) = 0 ∧ 0 ≤ (S 1007 0) ∧ (S 1007 0) ≤ 90 ∧ 0 ≤ (S 1024 0) ∧ (S 1024 0) ≤ 12000 ∧ 1 ≤ (S 1032 0) ∧ (S 1032 0) ≤ 11 ∧ 0 ≤ (S 1056 0) ∧ (S 1056 0) < (S 1032 0) ∧ sm_VB (S 33) (S 21) (S 1032 0) ∧ 0 ≤ (g1 1046 0) ∧ (g1 1046 0) ≤ 600 ∧ 0 ≤ (g1 1047 0) ∧ (g1 1047 0) ≤ 1 ∧ 0 ≤ (g1 1053 0) ∧ 0 ≤ (g1 1066 0) ∧ 0 ≤ ((S 12 (5 * l3_3 + (0 : Int)))) ∧ ((S 12 (5 * l3_3 + (0 : Int)))) < (S 1024 0) ∧ (S 1100001 ((S 12 (5 * l3_3 + (0 : Int))))) = 1 ∧ sm_LF (g1 39) (S 1100002) (g1 1066 0) (S 1024 0) (12001 * (S 1100002 ((S 12 (5 * l3_3 + (0 : Int))))) + ((S 12 (5 * l3_3 + (0 : Int))))) ∧ ((g1 1047 0) = 0 → sm_KC (g1 26) (g1 27) (g1 28) (g1 29) (g1 1100007) (g1 1100023) (g1 1100024) (g1 1100025) (g1 31) (g1 1100009) (g1 1100027) (g1 1100028) (g1 1100026) (g1 1100030) (S 21) (S 32) (S 33) (g1 1046 0) (g1 1053 0) (S 1056 0) (S 1032 0) (S 1007 0) (g1 1100033 0) ∧ (g1 1100033 0) = (g1 1055 0) ∧ 0 ≤ (g1 1055 0) ∧ (g1 1055 0) ≤ (g1 1046 0) ∧ (0 ≤ (g1 1100023 (g1 1046 0)) → (g1 1100007 (g1 1100023 (g1 1046 0))) ≤ (g1 1100007 (g1 1046 0))) ∧ (0 ≤ (g1 1100025 (g1 1046 0)) → (g1 1100007 (g1 1100025 (g1 1046 0))) ≤ (g1 1100007 (g1 1046 0))) ∧ (g1 1100007 (g1 1046 0)) ≤ (g1 1046 0) ∧ (g1 1053 0) + 3 * (600 - (g1 1046 0)) + (S 1100002 ((S 12 (5 * l3_3 + (0 : Int))))) ≤ 8000)) ∧ (0 ≤ ((if (g1 1047 0) = 0 then (S 1100002 ((S 12 (5 * l3_3 + (0 : Int))))) + (600 - (g1 1046 0)) + 8 else 4)) ∧ ((if (g1 1047 0) = 0 then (S 1100002 ((S 12 (5 * l3_3 + (0 : Int))))) + (600 - (g1 1046 0)) + 8 else 4)) < d) ∧ (0 ≤ ((if (g1 1047 0) = 0 then (S 1100002 ((S 12 (5 * l3_3 + (0 : Int))))) + (600 - (g1 1046 0)) + 8 else 4)) ∧ ((if (g1 1047 0) = 0 then (S 1100002 ((S 12 (5 * l3_3 + (0 : Int))))) + (600 - (g1 1046 0)) + 8 else 4)) + 1 ≤ ((if (S 1047 0) = 0 then (if p1 = -1 then 0 else 17 * (S 1100005 p1) + 17) + (600 - (S 1046 0)) + 9 else 5))) ∧ (∀ g21 : sv_S, (0 ≤ (g21 1046 0) ∧ (g21 1046 0) ≤ 600 ∧ 0 ≤ (g21 1047 0) ∧ (g21 1047 0) ≤ 1 ∧ 0 ≤ (g21 1053 0) ∧ 0 ≤ (g21 1066 0) ∧ (g1 1046 0) ≤ (g21 1046 0) ∧ ((g1 1047 0) = 1 → (g21 1047 0) = 1) ∧ sm_F1 (g1 26) (g21 26) (g1 1046 0) ∧ sm_F1 (g1 27) (g21 27) (g1 1046 0) ∧ sm_F1 (g1 28) (g21 28) (g1 1046 0) ∧ sm_F1 (g1 29) (g21 29) (g1 1046 0) ∧ sm_F1 (g1 1100007) (g21 1100007) ((g1 1046 0) + 1) ∧ sm_F1 (g1 1100023) (g21 1100023) ((g1 1046 0) + 1) ∧ sm_F1 (g1 1100024) (g21 1100024) ((g1 1046 0) + 1) ∧ sm_F1 (g1 1100025) (g21 1100025) ((g1 1046 0) + 1) ∧ sm_F1 (g1 1100009) (g21 1100009) (g1 1053 0) ∧ sm_F1 (g1 1100027) (g21 1100027) (g1 1053 0) ∧ sm_F1 (g1 1100028) (g21 1100028) (g1 1053 0) ∧ sm_F1 (g1 1100026) (g21 1100026) (g1 1053 0) ∧ sm_F1 (g1 1100030) (g21 1100030) (g1 1053 0) ∧ sm_F1 (g1 31) (g21 31) (g1 1053 0) ∧ (g1 1053 0) ≤ (g21 1053 0) ∧ (g21 1066 0) = (g1 1066 0) ∧ sm_F1 (g1 39) (g21 39) (g1 1066 0) ∧ ((g1 1047 0) = 1 → (g21 1053 0) = (g1 1053 0)) ∧ ((g1 1047 0) = 0 → (g21 1053 0) ≤ (g1 1053 0) + 3 * (600 - (g1 1046 0)) + (S 1100002 ((S 12 (5 * l3_3 + (0 : Int)))))) ∧ ((g21 1047 0) = 0 → (g1 1047 0) = 0 ∧ sm_KC (g21 26) (g21 27) (g21 28) (g21 29) (g21 1100007) (g21 1100023) (g21 1100024) (g21 1100025) (g21 31) (g21 1100009) (g21 1100027) (g21 1100028) (g21 1100026) (g21 1100030) (S 21) (S 32) (S 33) (g21 1046 0) (g21 1053 0) (S 1056 0) (S 1032 0) (S 1007 0) (g21 1100033 0) ∧ (g21 1100033 0) = (g21 1055 0) ∧ 0 ≤ (g21 1055 0) ∧ (g21 1055 0) ≤ (g21 1046 0) ∧ (g1 1046 0) + 1 ≤ (g21 1046 0) ∧ sm_FC (g21 29) (g1 1046 0) (g21 1046 0) (S 1056 0) ∧ (g21 1100007 (g21 1046 0)) = (g1 1100007 (g1 1046 0)) + 1 ∧ (g21 1100023 (g21 1046 0)) = (g1 1100023 (g1 1046 0)) ∧ (g21 1100024 (g21 1046 0)) = (g1 1100024 (g1 1046 0)) ∧ (g21 1100025 (g21 1046 0)) = (g1 1100025 (g1 1046 0)) ∧ (g21 1100007 (g21 1100023 (g21 1046 0))) = (g1 1100007 (g1 1100023 (g1 1046 0))) ∧ (g21 1100007 (g21 1100025 (g21 1046 0))) = (g1 1100007 (g1 1100025 (g1 1046 0))) ∧ sm_AP (g21 1100030) (g1 1053 0) (g21 1053 0) ∧ sm_HB (g21 1100007) (g1 1046 0) (g21 1046 0) (2 * (g1 1100007 (g1 1046 0)) + ((g21 1046 0) - (g1 1046 0)) + 8 * (S 1100005 ((S 12 (5 * l3_3 + (0 : Int))))) + 10) ∧ (g21 1053 0) ≤ (g1 1053 0) + 3 * ((g21 1046 0) - (g1 1046 0)) ∧ True)) → (0 ≤ l3_3 ∧ l3_3 < 12000) ∧ (sv_R (S 13 l3_3) → (sv_R (l2_2 + (1 : Int))) ∧ ((0 ≤ (l2_2 + (1 : Int)) ∧ (l2_2 + (1 : Int)) ≤ 8 ∧ (p1 = -1 → (l2_2 + (1 : Int)) = 0 ∧ (S 13 l3_3) = -1) ∧ (¬ p1 = -1 → ((S 13 l3_3) = -1 ∨ (0 ≤ (S 13 l3_3) ∧ (S 13 l3_3) < (S 1024 0) ∧ (S 1100001 (S 13 l3_3)) = 3 ∧ (l2_2 + (1 : Int)) + (S 1100002 (S 13 l3_3)) ≤ (S 1100002 p1) ∧ (S 1100005 (S 13 l3_3)) ≤ (S 1100005 p1)))) ∧ (¬ p1 = -1 → sm_LF (g21 39) (S 1100002) (g21 1066 0) (S 1024 0) (12001 * (17 * (S 1100005 p1) + 18))) ∧ 0 ≤ (g21 1046 0) ∧ (g21 1046 0) ≤ 600 ∧ 0 ≤ (g21 1047 0) ∧ (g21 1047 0) ≤ 1 ∧ 0 ≤ (g21 1053 0) ∧ 0 ≤ (g21 1066 0) ∧ (S 1046 0) ≤ (g21 1046 0) ∧ ((S 1047 0) = 1 → (g21 1047 0) = 1) ∧ sm_F1 (S 26) (g21 26) (S 1046 0) ∧ sm_F1 (S 27) (g21 27) (S 1046 0) ∧ sm_F1 (S 28) (g21 28) (S 1046 0) ∧ sm_F1 (S 29) (g21 29) (S 1046 0) ∧ sm_F1 (S 1100007) (g21 1100007) ((S 1046 0) + 1) ∧ sm_F1 (S 1100023) (g21 1100023) ((S 1046 0) + 1) ∧ sm_F1 (S 1100024) (g21 1100024) ((S 1046 0) + 1) ∧ sm_F1 (S 1100025) (g21 1100025) ((S 1046 0) + 1) ∧ sm_F1 (S 1100009) (g21 1100009) (S 1053 0) ∧ sm_F1 (S 1100027) (g21 1100027) (S 1053 0) ∧ sm_F1 (S 1100028) (g21 1100028) (S 1053 0) ∧ sm_F1 (S 1100026) (g21 1100026) (S 1053 0) ∧ sm_F1 (S 1100030) (g21 1100030) (S 1053 0) ∧ sm_F1 (S 31) (g21 31) (S 1053 0) ∧ (S 1053 0) ≤ (g21 1053 0) ∧ (g21 1066 0) = (S 1066 0) ∧ sm_F1 (S 39) (g21 39) (S 1066 0) ∧ ((S 1047 0) = 1 → (g21 1053 0) = (S 1053 0)) ∧ ((S 1047 0) = 0 → (g21 1053 0) ≤ (S 1053 0) + 3 * (600 - (S 1046 0)) + (if p1 = -1 then 0 else 17 * (S 1100005 p1) + 17)) ∧ ((g21 1047 0) = 0 → (S 1047 0) = 0 ∧ sm_KC (g21 26) (g21 27) (g21 28) (g21 29) (g21 1100007) (g21 1100023) (g21 1100024) (g21 1100025) (g21 31) (g21 1100009) (g21 1100027) (g21 1100028) (g21 1100026) (g21 1100030) (S 21) (S 32) (S 33) (g21 1046 0) (g21 1053 0) (S 1056 0) (S 1032 0) (S 1007 0) (g21 1100033 0) ∧ (g21 1100033 0) = (g21 1055 0) ∧ 0 ≤ (g21 1055 0) ∧ (g21 1055 0) ≤ (g21 1046 0) ∧ (S 1046 0) + (l2_2 + (1 : Int)) ≤ (g21 1046 0) ∧ sm_FC (g21 29) (S 1046 0) (g21 1046 0) (S 1056 0) ∧ (g21 1100007 (g21 1046 0)) = (S 1100007 (S 1046 0)) + (l2_2 + (1 : Int)) ∧ (g21 1100023 (g21 1046 0)) = (S 1100023 (S 1046 0)) ∧ (g21 1100024 (g21 1046 0)) = (S 1100024 (S 1046 0)) ∧ (g21 1100025 (g21 1046 0)) = (S 1100025 (S 1046 0)) ∧ (g21 1100007 (g21 1100023 (g21 1046 0))) = (S 1100007 (S 1100023 (S 1046 0))) ∧ (g21 1100007 (g21 1100025 (g21 1046 0))) = (S 1100007 (S 1100025 (S 1046 0))) ∧ sm_AP (g21 1100030) (S 1053 0) (g21 1053 0) ∧ sm_HB (g21 1100007) (S 1046 0) (g21 1046 0) (2 * (S 1100007 (S 1046 0)) + ((g21 1046 0) - (S 1046 0)) + (if p1 = -1 then 0 else 8 * (S 1100005 p1) + 17)) ∧ (g21 1053 0) ≤ (S 1053 0) + 3 * ((g21 1046 0) - (S 1046 0)) ∧ True)) ∧ ((if (S 13 l3_3) = -1 then 0 else (S 1024 0) - (S 13 l3_3))) < ((if l3_3 = -1 then 0 else (S 1024 0) - l3_3)))))))))))))))) := by
  intro d
  intro p1
  intro S
  intro h1_
  intro h2_
  rintro ⟨h3_, ⟨h4_, ⟨h5_, ⟨h6_, ⟨h7_, ⟨h8_, ⟨h9_, ⟨h10_, ⟨h11_, ⟨h12_, ⟨h13_, ⟨h14_, ⟨h15_, ⟨h16_, ⟨h17_, ⟨h18_, ⟨h19_, ⟨h20_, ⟨h21_, ⟨h22_, h23_⟩⟩⟩⟩⟩⟩⟩⟩⟩⟩⟩⟩⟩⟩⟩⟩⟩⟩⟩⟩
  intro h24_
  refine ⟨?_, ?_⟩
  · skip
    refine ⟨la_values_0, ?_⟩
    refine ⟨la_values_1, ?_⟩
    refine ⟨(la_values_2 h20_), ?_⟩
    refine ⟨?_, ?_⟩
    · skip
      intro h25_
      have e26_ : (if p1 = (-1) then 0 else 17 * S 1100005 p1 + 17 : Int) = 17 * S 1100005 p1 + 17 := if_neg h25_
      obtain ⟨h27_, ⟨h28_, ⟨h29_, ⟨h30_, ⟨h31_, ⟨h32_, h33_⟩⟩⟩⟩⟩⟩ := (h21_ h25_)
      exact (la_values_4 (la_values_3 h20_ h25_) h28_ h29_)
    refine ⟨?_, ?_⟩
    · skip
      intro h34_
      have e35_ : (if p1 = (-1) then 0 else 17 * S 1100005 p1 + 17 : Int) = 17 * S 1100005 p1 + 17 := if_neg h34_
      obtain ⟨h36_, ⟨h37_, ⟨h38_, ⟨h39_, ⟨h40_, ⟨h41_, h42_⟩⟩⟩⟩⟩⟩ := (h21_ h34_)
      exact h42_
    refine ⟨h14_, ?_⟩
    refine ⟨h15_, ?_⟩
    refine ⟨h16_, ?_⟩
    refine ⟨h17_, ?_⟩
    refine ⟨h18_, ?_⟩
    refine ⟨h19_, ?_⟩
    refine ⟨la_values_5, ?_⟩
    refine ⟨la_values_6, ?_⟩
    refine ⟨sm_F1_rf, ?_⟩
    refine ⟨sm_F1_rf, ?_⟩
    refine ⟨sm_F1_rf, ?_⟩
    refine ⟨sm_F1_rf, ?_⟩
    refine ⟨sm_F1_rf, ?_⟩
    refine ⟨sm_F1_rf, ?_⟩
    refine ⟨sm_F1_rf, ?_⟩
    refine ⟨sm_F1_rf, ?_⟩
    refine ⟨sm_F1_rf, ?_⟩
    refine ⟨sm_F1_rf, ?_⟩
    refine ⟨sm_F1_rf, ?_⟩
    refine ⟨sm_F1_rf, ?_⟩
    refine ⟨sm_F1_rf, ?_⟩
    refine ⟨sm_F1_rf, ?_⟩
    refine ⟨la_values_5, ?_⟩
    refine ⟨la_values_7, ?_⟩
    refine ⟨sm_F1_rf, ?_⟩
    refine ⟨la_values_8, ?_⟩
    refine ⟨?_, ?_⟩
    · skip
      intro h43_
      have e44_ : (if S 1047 0 = 0 then (if p1 = (-1) then 0 else 17 * S 1100005 p1 + 17) + (600 - S 1046 0) + 9 else 5 : Int) = (if p1 = (-1) then 0 else 17 * S 1100005 p1 + 17) + (600 - S 1046 0) + 9 := if_pos h43_
      obtain ⟨h45_, ⟨h46_, ⟨h47_, ⟨h48_, ⟨h49_, ⟨h50_, ⟨h51_, h52_⟩⟩⟩⟩⟩⟩⟩ := (h23_ h43_)
      by_cases c53_ : p1 = (-1)
      · skip
        have e54_ : (if p1 = (-1) then 0 else 17 * S 1100005 p1 + 17 : Int) = 0 := if_pos c53_
        exact (la_values_10 h15_ e54_)
      · skip
        have e55_ : (if p1 = (-1) then 0 else 17 * S 1100005 p1 + 17 : Int) = 17 * S 1100005 p1 + 17 := if_neg c53_
        obtain ⟨h56_, ⟨h57_, ⟨h58_, ⟨h59_, ⟨h60_, ⟨h61_, h62_⟩⟩⟩⟩⟩⟩ := (h21_ c53_)
        exact (la_values_11 h15_ e55_ h61_)
    intro h63_
    have e64_ : (if S 1047 0 = 0 then (if p1 = (-1) then 0 else 17 * S 1100005 p1 + 17) + (600 - S 1046 0) + 9 else 5 : Int) = (if p1 = (-1) then 0 else 17 * S 1100005 p1 + 17) + (600 - S 1046 0) + 9 := if_pos h63_
    obtain ⟨h65_, ⟨h66_, ⟨h67_, ⟨h68_, ⟨h69_, ⟨h70_, ⟨h71_, h72_⟩⟩⟩⟩⟩⟩⟩ := (h23_ h63_)
    refine ⟨h63_, ?_⟩
    refine ⟨h65_, ?_⟩
    refine ⟨h66_, ?_⟩
    refine ⟨h67_, ?_⟩
    refine ⟨h68_, ?_⟩
    refine ⟨la_values_12, ?_⟩
    refine ⟨(sm_FC_0 la_values_5), ?_⟩
    refine ⟨la_values_13, ?_⟩
    refine ⟨la_values_7, ?_⟩
    refine ⟨la_values_7, ?_⟩
    refine ⟨la_values_7, ?_⟩
    refine ⟨la_values_7, ?_⟩
    refine ⟨la_values_7, ?_⟩
    refine ⟨(sm_AP_0 la_values_5), ?_⟩
    refine ⟨(sm_HB_0 la_values_5), ?_⟩
    refine ⟨la_values_14, ?_⟩
    exact trivial
  intro l2_2
  intro h73_
  intro l3_3
  intro h74_
  intro g1
  rintro ⟨h75_, ⟨h76_, ⟨h77_, ⟨h78_, ⟨h79_, ⟨h80_, ⟨h81_, ⟨h82_, ⟨h83_, ⟨h84_, ⟨h85_, ⟨h86_, ⟨h87_, ⟨h88_, ⟨h89_, ⟨h90_, ⟨h91_, ⟨h92_, ⟨h93_, ⟨h94_, ⟨h95_, ⟨h96_, ⟨h97_, ⟨h98_, ⟨h99_, ⟨h100_, ⟨h101_, ⟨h102_, ⟨h103_, ⟨h104_, ⟨h105_, ⟨h106_, h107_⟩⟩⟩⟩⟩⟩⟩⟩⟩⟩⟩⟩⟩⟩⟩⟩⟩⟩⟩⟩⟩⟩⟩⟩⟩⟩⟩⟩⟩⟩⟩⟩
  refine ⟨?_, ?_⟩
  · skip
    by_cases c108_ : l3_3 = (-1)
    · skip
      have e109_ : (if l3_3 = (-1) then 0 else S 1024 0 - l3_3 : Int) = 0 := if_pos c108_
      exact (la_values_15 e109_)
    · skip
      have e110_ : (if l3_3 = (-1) then 0 else S 1024 0 - l3_3 : Int) = S 1024 0 - l3_3 := if_neg c108_
      exact (la_values_16 h7_ h20_ h77_ h78_ e110_)
  refine ⟨?_, ?_⟩
  · skip
    intro h111_
    refine ⟨h75_, ?_⟩
    refine ⟨h76_, ?_⟩
    refine ⟨h80_, ?_⟩
    refine ⟨h81_, ?_⟩
    refine ⟨h82_, ?_⟩
    refine ⟨h83_, ?_⟩
    refine ⟨h84_, ?_⟩
    refine ⟨h85_, ?_⟩
    refine ⟨h86_, ?_⟩
    refine ⟨h87_, ?_⟩
    refine ⟨h88_, ?_⟩
    refine ⟨h89_, ?_⟩
    refine ⟨h90_, ?_⟩
    refine ⟨h91_, ?_⟩
    refine ⟨h92_, ?_⟩
    refine ⟨h93_, ?_⟩
    refine ⟨h94_, ?_⟩
    refine ⟨h95_, ?_⟩
    refine ⟨h96_, ?_⟩
    refine ⟨h97_, ?_⟩
    refine ⟨h98_, ?_⟩
    refine ⟨h99_, ?_⟩
    refine ⟨h100_, ?_⟩
    refine ⟨h101_, ?_⟩
    refine ⟨h102_, ?_⟩
    refine ⟨h103_, ?_⟩
    refine ⟨h104_, ?_⟩
    refine ⟨h105_, ?_⟩
    refine ⟨h106_, ?_⟩
    intro h112_
    have h113_ : ¬ (S 1047 0 = 1) := fun q_ => (la_values_17 h112_) (h87_ q_)
    obtain ⟨h114_, ⟨h115_, ⟨h116_, ⟨h117_, ⟨h118_, ⟨h119_, ⟨h120_, ⟨h121_, ⟨h122_, ⟨h123_, ⟨h124_, ⟨h125_, ⟨h126_, ⟨h127_, ⟨h128_, ⟨h129_, -⟩⟩⟩⟩⟩⟩⟩⟩⟩⟩⟩⟩⟩⟩⟩⟩ := (h107_ h112_)
    have e130_ : (if S 1047 0 = 0 then (if p1 = (-1) then 0 else 17 * S 1100005 p1 + 17) + (600 - S 1046 0) + 9 else 5 : Int) = (if p1 = (-1) then 0 else 17 * S 1100005 p1 + 17) + (600 - S 1046 0) + 9 := if_pos h114_
    have h131_ := (h106_ h114_)
    obtain ⟨h132_, ⟨h133_, ⟨h134_, ⟨h135_, ⟨h136_, ⟨h137_, ⟨h138_, h139_⟩⟩⟩⟩⟩⟩⟩ := (h23_ h114_)
    refine ⟨h114_, ?_⟩
    refine ⟨h115_, ?_⟩
    refine ⟨h116_, ?_⟩
    refine ⟨h117_, ?_⟩
    refine ⟨h118_, ?_⟩
    refine ⟨h119_, ?_⟩
    refine ⟨h120_, ?_⟩
    refine ⟨h121_, ?_⟩
    refine ⟨h122_, ?_⟩
    refine ⟨h123_, ?_⟩
    refine ⟨h124_, ?_⟩
    refine ⟨h125_, ?_⟩
    refine ⟨h126_, ?_⟩
    refine ⟨h127_, ?_⟩
    refine ⟨h128_, ?_⟩
    refine ⟨h129_, ?_⟩
    exact trivial
  intro h140_
  intro h141_
  have h142_ := (h141_ h77_)
  have h143_ := (h142_ h140_)
  obtain ⟨h144_, ⟨h145_, ⟨h146_, ⟨h147_, ⟨h148_, ⟨h149_, h150_⟩⟩⟩⟩⟩⟩ := (h21_ h143_)
  have h151_ := (h79_ h143_)
  have e152_ : (if p1 = (-1) then 0 else 17 * S 1100005 p1 + 17 : Int) = 17 * S 1100005 p1 + 17 := if_neg h143_
  have e153_ : (if p1 = (-1) then 0 else 8 * S 1100005 p1 + 17 : Int) = 8 * S 1100005 p1 + 17 := if_neg h143_
  have h154_ := (h78_ h143_)
  obtain ⟨h155_, ⟨h156_, ⟨h157_, ⟨h158_, h159_⟩⟩⟩⟩ := (h154_.resolve_left h140_)
  intro h160_
  have h161_ := (h160_ h3_)
  have h162_ := (h161_ h155_)
  obtain ⟨h163_, ⟨h164_, ⟨h165_, h166_⟩⟩⟩ := (h162_ h156_)
  have h167_ := (h166_ h157_)
  intro h168_
  have h169_ := (h168_ h3_)
  have h170_ := (h169_ h155_)
  have h171_ := (h170_ h156_)
  have h172_ := (h171_ h157_)
  intro h173_
  have h174_ := (h173_ h3_)
  have h175_ := (h174_ h155_)
  have h176_ := (h175_ h156_)
  have h177_ := (h176_ (la_values_23 h157_))
  intro h178_
  have h179_ := (h178_ h3_)
  have h180_ := (h179_ (sm_ex_e h172_).1)
  obtain ⟨h181_, ⟨h182_, ⟨h183_, h184_⟩⟩⟩ := (h180_ (sm_ex_e h172_).2.1)
  obtain ⟨h185_, ⟨h186_, ⟨h187_, h188_⟩⟩⟩ := (h181_ (sm_ex_e h172_).2.2.1)
  intro h189_
  intro h190_
  refine ⟨(la_values_27 h8_ h155_ h156_), ?_⟩
  refine ⟨?_, ?_⟩
  · skip
    have e191_ : S 12 (5 * l3_3 + 0) = S 12 (5 * l3_3) := congrArg ((S 12)) la_values_28
    have e192_ : S 1100002 (S 12 (5 * l3_3 + 0)) = S 1100002 (S 12 (5 * l3_3)) := congrArg ((S 1100002)) e191_
    have e193_ : S 1100005 (S 12 (5 * l3_3 + 0)) = S 1100005 (S 12 (5 * l3_3)) := congrArg ((S 1100005)) e191_
    by_cases c194_ : S 1047 0 = 0
    · skip
      have e195_ : (if S 1047 0 = 0 then (if p1 = (-1) then 0 else 17 * S 1100005 p1 + 17) + (600 - S 1046 0) + 9 else 5 : Int) = (if p1 = (-1) then 0 else 17 * S 1100005 p1 + 17) + (600 - S 1046 0) + 9 := if_pos c194_
      have h196_ := (h106_ c194_)
      obtain ⟨h197_, ⟨h198_, ⟨h199_, ⟨h200_, ⟨h201_, ⟨h202_, ⟨h203_, h204_⟩⟩⟩⟩⟩⟩⟩ := (h23_ c194_)
      exact (la_values_29 h102_ h149_ e152_ e195_ h196_)
    · skip
      have e205_ : (if S 1047 0 = 0 then (if p1 = (-1) then 0 else 17 * S 1100005 p1 + 17) + (600 - S 1046 0) + 9 else 5 : Int) = 5 := if_neg c194_
      have h206_ := (h87_ (la_values_31 h17_ (la_values_30 h16_ c194_)))
      have h207_ := (h105_ (la_values_31 h17_ (la_values_30 h16_ c194_)))
      exact (la_values_33 e205_)
  refine ⟨?_, ?_⟩
  · skip
    refine ⟨h3_, ?_⟩
    refine ⟨h4_, ?_⟩
    refine ⟨h5_, ?_⟩
    refine ⟨h6_, ?_⟩
    refine ⟨h7_, ?_⟩
    refine ⟨h8_, ?_⟩
    refine ⟨h9_, ?_⟩
    refine ⟨h10_, ?_⟩
    refine ⟨h11_, ?_⟩
    refine ⟨h12_, ?_⟩
    refine ⟨h13_, ?_⟩
    refine ⟨h80_, ?_⟩
    refine ⟨h81_, ?_⟩
    refine ⟨h82_, ?_⟩
    refine ⟨h83_, ?_⟩
    refine ⟨h84_, ?_⟩
    refine ⟨h85_, ?_⟩
    refine ⟨?_, ?_⟩
    · skip
      have e208_ : S 12 (5 * l3_3 + 0) = S 12 (5 * l3_3) := congrArg ((S 12)) la_values_28
      exact (la_values_34 (sm_ex_e h172_).1 e208_)
    refine ⟨?_, ?_⟩
    · skip
      have e209_ : S 12 (5 * l3_3 + 0) = S 12 (5 * l3_3) := congrArg ((S 12)) la_values_28
      exact (la_values_35 (sm_ex_e h172_).2.1 e209_)
    refine ⟨?_, ?_⟩
    · skip
      have e210_ : S 12 (5 * l3_3 + 0) = S 12 (5 * l3_3) := congrArg ((S 12)) la_values_28
      have e211_ : S 1100001 (S 12 (5 * l3_3 + 0)) = S 1100001 (S 12 (5 * l3_3)) := congrArg ((S 1100001)) e210_
      have e212_ : S 1100002 (S 12 (5 * l3_3 + 0)) = S 1100002 (S 12 (5 * l3_3)) := congrArg ((S 1100002)) e210_
      have e213_ : S 1100005 (S 12 (5 * l3_3 + 0)) = S 1100005 (S 12 (5 * l3_3)) := congrArg ((S 1100005)) e210_
      exact (la_values_36 (sm_ex_e h172_).2.2.1 e211_)
    refine ⟨?_, ?_⟩
    · skip
      have e214_ : S 12 (5 * l3_3 + 0) = S 12 (5 * l3_3) := congrArg ((S 12)) la_values_28
      exact (sm_LF_w h151_ sm_F1_rf (Int.le_refl _) (Int.le_refl _) h85_ (la_values_38 h8_ h159_ (sm_ex_e h172_).2.1 (sm_ex_e h172_).2.2.2.1 h190_ e214_))
    intro h215_
    have h216_ : ¬ (S 1047 0 = 1) := fun q_ => (la_values_17 h215_) (h87_ q_)
    obtain ⟨h217_, ⟨h218_, ⟨h219_, ⟨h220_, ⟨h221_, ⟨h222_, ⟨h223_, ⟨h224_, ⟨h225_, ⟨h226_, ⟨h227_, ⟨h228_, ⟨h229_, ⟨h230_, ⟨h231_, ⟨h232_, -⟩⟩⟩⟩⟩⟩⟩⟩⟩⟩⟩⟩⟩⟩⟩⟩ := (h107_ h215_)
    have e233_ : (if S 1047 0 = 0 then (if p1 = (-1) then 0 else 17 * S 1100005 p1 + 17) + (600 - S 1046 0) + 9 else 5 : Int) = (if p1 = (-1) then 0 else 17 * S 1100005 p1 + 17) + (600 - S 1046 0) + 9 := if_pos h217_
    have h234_ := (h106_ h217_)
    obtain ⟨h235_, ⟨h236_, ⟨h237_, ⟨h238_, ⟨h239_, ⟨h240_, ⟨h241_, h242_⟩⟩⟩⟩⟩⟩⟩ := (h23_ h217_)
    refine ⟨h218_, ?_⟩
    refine ⟨h219_, ?_⟩
    refine ⟨h220_, ?_⟩
    refine ⟨h221_, ?_⟩
    refine ⟨(la_values_39 h75_ h224_ h225_ h228_ h239_), ?_⟩
    refine ⟨(la_values_39 h75_ h224_ h227_ h229_ h240_), ?_⟩
    refine ⟨(la_values_40 h222_ h224_ h241_), ?_⟩
    exact (la_values_41 e152_ h159_ (sm_ex_e h172_).2.2.2.1 h190_ h232_ h242_)
  refine ⟨?_, ?_⟩
  · skip
    refine ⟨?_, ?_⟩
    · skip
      have e243_ : S 12 (5 * l3_3 + 0) = S 12 (5 * l3_3) := congrArg ((S 12)) la_values_28
      have e244_ : S 1100002 (S 12 (5 * l3_3 + 0)) = S 1100002 (S 12 (5 * l3_3)) := congrArg ((S 1100002)) e243_
      have e245_ : S 1100005 (S 12 (5 * l3_3 + 0)) = S 1100005 (S 12 (5 * l3_3)) := congrArg ((S 1100005)) e243_
      by_cases c246_ : g1 1047 0 = 0
      · skip
        have e247_ : (if g1 1047 0 = 0 then S 1100002 (S 12 (5 * l3_3 + 0)) + (600 - g1 1046 0) + 8 else 4 : Int) = S 1100002 (S 12 (5 * l3_3 + 0)) + (600 - g1 1046 0) + 8 := if_pos c246_
        have h248_ : ¬ (S 1047 0 = 1) := fun q_ => (la_values_17 c246_) (h87_ q_)
        obtain ⟨h249_, ⟨h250_, ⟨h251_, ⟨h252_, ⟨h253_, ⟨h254_, ⟨h255_, ⟨h256_, ⟨h257_, ⟨h258_, ⟨h259_, ⟨h260_, ⟨h261_, ⟨h262_, ⟨h263_, ⟨h264_, -⟩⟩⟩⟩⟩⟩⟩⟩⟩⟩⟩⟩⟩⟩⟩⟩ := (h107_ c246_)
        have e265_ : (if S 1047 0 = 0 then (if p1 = (-1) then 0 else 17 * S 1100005 p1 + 17) + (600 - S 1046 0) + 9 else 5 : Int) = (if p1 = (-1) then 0 else 17 * S 1100005 p1 + 17) + (600 - S 1046 0) + 9 := if_pos h249_
        have h266_ := (h106_ h249_)
        obtain ⟨h267_, ⟨h268_, ⟨h269_, ⟨h270_, ⟨h271_, ⟨h272_, ⟨h273_, h274_⟩⟩⟩⟩⟩⟩⟩ := (h23_ h249_)
        exact (la_values_42 h81_ h185_ h190_ e247_)
      · skip
        have e275_ : (if g1 1047 0 = 0 then S 1100002 (S 12 (5 * l3_3 + 0)) + (600 - g1 1046 0) + 8 else 4 : Int) = 4 := if_neg c246_
        exact (la_values_43 e275_)
    have e276_ : S 12 (5 * l3_3 + 0) = S 12 (5 * l3_3) := congrArg ((S 12)) la_values_28
    have e277_ : S 1100002 (S 12 (5 * l3_3 + 0)) = S 1100002 (S 12 (5 * l3_3)) := congrArg ((S 1100002)) e276_
    have e278_ : S 1100005 (S 12 (5 * l3_3 + 0)) = S 1100005 (S 12 (5 * l3_3)) := congrArg ((S 1100005)) e276_
    by_cases c279_ : g1 1047 0 = 0
    · skip
      have e280_ : (if g1 1047 0 = 0 then S 1100002 (S 12 (5 * l3_3 + 0)) + (600 - g1 1046 0) + 8 else 4 : Int) = S 1100002 (S 12 (5 * l3_3 + 0)) + (600 - g1 1046 0) + 8 := if_pos c279_
      have h281_ : ¬ (S 1047 0 = 1) := fun q_ => (la_values_17 c279_) (h87_ q_)
      obtain ⟨h282_, ⟨h283_, ⟨h284_, ⟨h285_, ⟨h286_, ⟨h287_, ⟨h288_, ⟨h289_, ⟨h290_, ⟨h291_, ⟨h292_, ⟨h293_, ⟨h294_, ⟨h295_, ⟨h296_, ⟨h297_, -⟩⟩⟩⟩⟩⟩⟩⟩⟩⟩⟩⟩⟩⟩⟩⟩ := (h107_ c279_)
      have e298_ : (if S 1047 0 = 0 then (if p1 = (-1) then 0 else 17 * S 1100005 p1 + 17) + (600 - S 1046 0) + 9 else 5 : Int) = (if p1 = (-1) then 0 else 17 * S 1100005 p1 + 17) + (600 - S 1046 0) + 9 := if_pos h282_
      have h299_ := (h106_ h282_)
      obtain ⟨h300_, ⟨h301_, ⟨h302_, ⟨h303_, ⟨h304_, ⟨h305_, ⟨h306_, h307_⟩⟩⟩⟩⟩⟩⟩ := (h23_ h282_)
      exact (la_values_44 h24_ h86_ e152_ h159_ (sm_ex_e h172_).2.2.2.1 h190_ e280_ e298_)
    · skip
      have e308_ : (if g1 1047 0 = 0 then S 1100002 (S 12 (5 * l3_3 + 0)) + (600 - g1 1046 0) + 8 else 4 : Int) = 4 := if_neg c279_
      by_cases c309_ : S 1047 0 = 0
      · skip
        have e310_ : (if S 1047 0 = 0 then (if p1 = (-1) then 0 else 17 * S 1100005 p1 + 17) + (600 - S 1046 0) + 9 else 5 : Int) = (if p1 = (-1) then 0 else 17 * S 1100005 p1 + 17) + (600 - S 1046 0) + 9 := if_pos c309_
        have h311_ := (h106_ c309_)
        obtain ⟨h312_, ⟨h313_, ⟨h314_, ⟨h315_, ⟨h316_, ⟨h317_, ⟨h318_, h319_⟩⟩⟩⟩⟩⟩⟩ := (h23_ c309_)
        exact (la_values_45 h24_ h102_ h149_ e152_ e308_ e310_ h311_)
      · skip
        have e320_ : (if S 1047 0 = 0 then (if p1 = (-1) then 0 else 17 * S 1100005 p1 + 17) + (600 - S 1046 0) + 9 else 5 : Int) = 5 := if_neg c309_
        have h321_ := (h87_ (la_values_31 h17_ (la_values_30 h16_ c309_)))
        have h322_ := (h105_ (la_values_31 h17_ (la_values_30 h16_ c309_)))
        exact (la_values_46 h24_ e308_ e320_)
  refine ⟨?_, ?_⟩
  · skip
    refine ⟨?_, ?_⟩
    · skip
      have e323_ : S 12 (5 * l3_3 + 0) = S 12 (5 * l3_3) := congrArg ((S 12)) la_values_28
      have e324_ : S 1100002 (S 12 (5 * l3_3 + 0)) = S 1100002 (S 12 (5 * l3_3)) := congrArg ((S 1100002)) e323_
      have e325_ : S 1100005 (S 12 (5 * l3_3 + 0)) = S 1100005 (S 12 (5 * l3_3)) := congrArg ((S 1100005)) e323_
      by_cases c326_ : g1 1047 0 = 0
      · skip
        have e327_ : (if g1 1047 0 = 0 then S 1100002 (S 12 (5 * l3_3 + 0)) + (600 - g1 1046 0) + 8 else 4 : Int) = S 1100002 (S 12 (5 * l3_3 + 0)) + (600 - g1 1046 0) + 8 := if_pos c326_
        have h328_ : ¬ (S 1047 0 = 1) := fun q_ => (la_values_17 c326_) (h87_ q_)
        obtain ⟨h329_, ⟨h330_, ⟨h331_, ⟨h332_, ⟨h333_, ⟨h334_, ⟨h335_, ⟨h336_, ⟨h337_, ⟨h338_, ⟨h339_, ⟨h340_, ⟨h341_, ⟨h342_, ⟨h343_, ⟨h344_, -⟩⟩⟩⟩⟩⟩⟩⟩⟩⟩⟩⟩⟩⟩⟩⟩ := (h107_ c326_)
        have e345_ : (if S 1047 0 = 0 then (if p1 = (-1) then 0 else 17 * S 1100005 p1 + 17) + (600 - S 1046 0) + 9 else 5 : Int) = (if p1 = (-1) then 0 else 17 * S 1100005 p1 + 17) + (600 - S 1046 0) + 9 := if_pos h329_
        have h346_ := (h106_ h329_)
        obtain ⟨h347_, ⟨h348_, ⟨h349_, ⟨h350_, ⟨h351_, ⟨h352_, ⟨h353_, h354_⟩⟩⟩⟩⟩⟩⟩ := (h23_ h329_)
        exact (la_values_42 h81_ h185_ h190_ e327_)
      · skip
        have e355_ : (if g1 1047 0 = 0 then S 1100002 (S 12 (5 * l3_3 + 0)) + (600 - g1 1046 0) + 8 else 4 : Int) = 4 := if_neg c326_
        exact (la_values_43 e355_)
    have e356_ : S 12 (5 * l3_3 + 0) = S 12 (5 * l3_3) := congrArg ((S 12)) la_values_28
    have e357_ : S 1100002 (S 12 (5 * l3_3 + 0)) = S 1100002 (S 12 (5 * l3_3)) := congrArg ((S 1100002)) e356_
    have e358_ : S 1100005 (S 12 (5 * l3_3 + 0)) = S 1100005 (S 12 (5 * l3_3)) := congrArg ((S 1100005)) e356_
    by_cases c359_ : g1 1047 0 = 0
    · skip
      have e360_ : (if g1 1047 0 = 0 then S 1100002 (S 12 (5 * l3_3 + 0)) + (600 - g1 1046 0) + 8 else 4 : Int) = S 1100002 (S 12 (5 * l3_3 + 0)) + (600 - g1 1046 0) + 8 := if_pos c359_
      have h361_ : ¬ (S 1047 0 = 1) := fun q_ => (la_values_17 c359_) (h87_ q_)
      obtain ⟨h362_, ⟨h363_, ⟨h364_, ⟨h365_, ⟨h366_, ⟨h367_, ⟨h368_, ⟨h369_, ⟨h370_, ⟨h371_, ⟨h372_, ⟨h373_, ⟨h374_, ⟨h375_, ⟨h376_, ⟨h377_, -⟩⟩⟩⟩⟩⟩⟩⟩⟩⟩⟩⟩⟩⟩⟩⟩ := (h107_ c359_)
      have e378_ : (if S 1047 0 = 0 then (if p1 = (-1) then 0 else 17 * S 1100005 p1 + 17) + (600 - S 1046 0) + 9 else 5 : Int) = (if p1 = (-1) then 0 else 17 * S 1100005 p1 + 17) + (600 - S 1046 0) + 9 := if_pos h362_
      have h379_ := (h106_ h362_)
      obtain ⟨h380_, ⟨h381_, ⟨h382_, ⟨h383_, ⟨h384_, ⟨h385_, ⟨h386_, h387_⟩⟩⟩⟩⟩⟩⟩ := (h23_ h362_)
      exact (la_values_47 h86_ e152_ h159_ (sm_ex_e h172_).2.2.2.1 h190_ e360_ e378_)
    · skip
      have e388_ : (if g1 1047 0 = 0 then S 1100002 (S 12 (5 * l3_3 + 0)) + (600 - g1 1046 0) + 8 else 4 : Int) = 4 := if_neg c359_
      by_cases c389_ : S 1047 0 = 0
      · skip
        have e390_ : (if S 1047 0 = 0 then (if p1 = (-1) then 0 else 17 * S 1100005 p1 + 17) + (600 - S 1046 0) + 9 else 5 : Int) = (if p1 = (-1) then 0 else 17 * S 1100005 p1 + 17) + (600 - S 1046 0) + 9 := if_pos c389_
        have h391_ := (h106_ c389_)
        obtain ⟨h392_, ⟨h393_, ⟨h394_, ⟨h395_, ⟨h396_, ⟨h397_, ⟨h398_, h399_⟩⟩⟩⟩⟩⟩⟩ := (h23_ c389_)
        exact (la_values_48 h102_ h149_ e152_ e388_ e390_ h391_)
      · skip
        have e400_ : (if S 1047 0 = 0 then (if p1 = (-1) then 0 else 17 * S 1100005 p1 + 17) + (600 - S 1046 0) + 9 else 5 : Int) = 5 := if_neg c389_
        have h401_ := (h87_ (la_values_31 h17_ (la_values_30 h16_ c389_)))
        have h402_ := (h105_ (la_values_31 h17_ (la_values_30 h16_ c389_)))
        exact (la_values_49 e388_ e400_)
  intro g21
  rintro ⟨h403_, ⟨h404_, ⟨h405_, ⟨h406_, ⟨h407_, ⟨h408_, ⟨h409_, ⟨h410_, ⟨h411_, ⟨h412_, ⟨h413_, ⟨h414_, ⟨h415_, ⟨h416_, ⟨h417_, ⟨h418_, ⟨h419_, ⟨h420_, ⟨h421_, ⟨h422_, ⟨h423_, ⟨h424_, ⟨h425_, ⟨h426_, ⟨h427_, ⟨h428_, ⟨h429_, h430_⟩⟩⟩⟩⟩⟩⟩⟩⟩⟩⟩⟩⟩⟩⟩⟩⟩⟩⟩⟩⟩⟩⟩⟩⟩⟩⟩
  refine ⟨(la_values_50 h8_ h155_ h156_), ?_⟩
  intro h431_
  refine ⟨(la_values_51 h75_ h76_), ?_⟩
  refine ⟨?_, ?_⟩
  · skip
    refine ⟨(la_values_52 h75_), ?_⟩
    refine ⟨(la_values_53 h148_ h158_ h167_), ?_⟩
    refine ⟨(la_values_54 h75_ h144_), ?_⟩
    refine ⟨(la_values_55 h144_ h145_ (la_values_3 h20_ h143_) h155_ h157_ h158_ h159_ (la_values_3 (la_values_19 h155_) h140_) (sm_ex_e h172_).1 (sm_ex_e h172_).2.1 h177_), ?_⟩
    refine ⟨?_, ?_⟩
    · skip
      intro h432_
      exact (sm_LF_w h151_ (sm_F1_le h427_ (la_values_37 h426_)) (Int.le_refl _) (la_values_37 h426_) h408_ (Int.le_refl _))
    refine ⟨h403_, ?_⟩
    refine ⟨h404_, ?_⟩
    refine ⟨h405_, ?_⟩
    refine ⟨h406_, ?_⟩
    refine ⟨h407_, ?_⟩
    refine ⟨h408_, ?_⟩
    refine ⟨(la_values_56 h86_ h409_), ?_⟩
    refine ⟨(la_values_57 h83_ h87_ h406_ h410_), ?_⟩
    refine ⟨(sm_F1_tr (sm_F1_le h88_ (Int.le_refl _)) h411_ h86_), ?_⟩
    refine ⟨(sm_F1_tr (sm_F1_le h89_ (Int.le_refl _)) h412_ h86_), ?_⟩
    refine ⟨(sm_F1_tr (sm_F1_le h90_ (Int.le_refl _)) h413_ h86_), ?_⟩
    refine ⟨(sm_F1_tr (sm_F1_le h91_ (Int.le_refl _)) h414_ h86_), ?_⟩
    refine ⟨(sm_F1_tr (sm_F1_le h92_ (Int.le_refl _)) h415_ (la_values_58 h86_)), ?_⟩
    refine ⟨(sm_F1_tr (sm_F1_le h93_ (Int.le_refl _)) h416_ (la_values_58 h86_)), ?_⟩
    refine ⟨(sm_F1_tr (sm_F1_le h94_ (Int.le_refl _)) h417_ (la_values_58 h86_)), ?_⟩
    refine ⟨(sm_F1_tr (sm_F1_le h95_ (Int.le_refl _)) h418_ (la_values_58 h86_)), ?_⟩
    refine ⟨(sm_F1_tr (sm_F1_le h96_ (Int.le_refl _)) h419_ h102_), ?_⟩
    refine ⟨(sm_F1_tr (sm_F1_le h97_ (Int.le_refl _)) h420_ h102_), ?_⟩
    refine ⟨(sm_F1_tr (sm_F1_le h98_ (Int.le_refl _)) h421_ h102_), ?_⟩
    refine ⟨(sm_F1_tr (sm_F1_le h99_ (Int.le_refl _)) h422_ h102_), ?_⟩
    refine ⟨(sm_F1_tr (sm_F1_le h100_ (Int.le_refl _)) h423_ h102_), ?_⟩
    refine ⟨(sm_F1_tr (sm_F1_le h101_ (Int.le_refl _)) h424_ h102_), ?_⟩
    refine ⟨(la_values_56 h102_ h425_), ?_⟩
    refine ⟨(la_values_59 h103_ h426_), ?_⟩
    refine ⟨(sm_F1_tr (sm_F1_le h104_ (Int.le_refl _)) h427_ (la_values_60 h103_)), ?_⟩
    refine ⟨(la_values_61 h83_ h87_ h102_ h105_ h425_ h428_), ?_⟩
    refine ⟨?_, ?_⟩
    · skip
      intro h433_
      have e434_ : (if S 1047 0 = 0 then (if p1 = (-1) then 0 else 17 * S 1100005 p1 + 17) + (600 - S 1046 0) + 9 else 5 : Int) = (if p1 = (-1) then 0 else 17 * S 1100005 p1 + 17) + (600 - S 1046 0) + 9 := if_pos h433_
      have h435_ := (h106_ h433_)
      obtain ⟨h436_, ⟨h437_, ⟨h438_, ⟨h439_, ⟨h440_, ⟨h441_, ⟨h442_, h443_⟩⟩⟩⟩⟩⟩⟩ := (h23_ h433_)
      have e444_ : S 12 (5 * l3_3 + 0) = S 12 (5 * l3_3) := congrArg ((S 12)) la_values_28
      have e445_ : S 1100002 (S 12 (5 * l3_3 + 0)) = S 1100002 (S 12 (5 * l3_3)) := congrArg ((S 1100002)) e444_
      have e446_ : S 1100005 (S 12 (5 * l3_3 + 0)) = S 1100005 (S 12 (5 * l3_3)) := congrArg ((S 1100005)) e444_
      by_cases c447_ : g1 1047 0 = 1
      · skip
        have h448_ := (h410_ c447_)
        have h449_ := (h428_ c447_)
        exact (la_values_62 h435_ h449_)
      · skip
        obtain ⟨h450_, ⟨h451_, ⟨h452_, ⟨h453_, ⟨h454_, ⟨h455_, ⟨h456_, ⟨h457_, ⟨h458_, ⟨h459_, ⟨h460_, ⟨h461_, ⟨h462_, ⟨h463_, ⟨h464_, ⟨h465_, -⟩⟩⟩⟩⟩⟩⟩⟩⟩⟩⟩⟩⟩⟩⟩⟩ := (h107_ (la_values_63 h82_ (la_values_18 h83_ c447_)))
        have h466_ := (h429_ (la_values_63 h82_ (la_values_18 h83_ c447_)))
        exact (la_values_64 e152_ h159_ (sm_ex_e h172_).2.2.2.1 h190_ h465_ h466_)
    intro h467_
    have h468_ : ¬ (g1 1047 0 = 1) := fun q_ => (la_values_17 h467_) (h410_ q_)
    obtain ⟨h469_, ⟨h470_, ⟨h471_, ⟨h472_, ⟨h473_, ⟨h474_, ⟨h475_, ⟨h476_, ⟨h477_, ⟨h478_, ⟨h479_, ⟨h480_, ⟨h481_, ⟨h482_, ⟨h483_, ⟨h484_, -⟩⟩⟩⟩⟩⟩⟩⟩⟩⟩⟩⟩⟩⟩⟩⟩ := (h430_ h467_)
    have h485_ : ¬ (S 1047 0 = 1) := fun q_ => h468_ (h87_ q_)
    have h486_ := (h429_ h469_)
    obtain ⟨h487_, ⟨h488_, ⟨h489_, ⟨h490_, ⟨h491_, ⟨h492_, ⟨h493_, ⟨h494_, ⟨h495_, ⟨h496_, ⟨h497_, ⟨h498_, ⟨h499_, ⟨h500_, ⟨h501_, ⟨h502_, -⟩⟩⟩⟩⟩⟩⟩⟩⟩⟩⟩⟩⟩⟩⟩⟩ := (h107_ h469_)
    have e503_ : (if S 1047 0 = 0 then (if p1 = (-1) then 0 else 17 * S 1100005 p1 + 17) + (600 - S 1046 0) + 9 else 5 : Int) = (if p1 = (-1) then 0 else 17 * S 1100005 p1 + 17) + (600 - S 1046 0) + 9 := if_pos h487_
    have h504_ := (h106_ h487_)
    obtain ⟨h505_, ⟨h506_, ⟨h507_, ⟨h508_, ⟨h509_, ⟨h510_, ⟨h511_, h512_⟩⟩⟩⟩⟩⟩⟩ := (h23_ h487_)
    refine ⟨h487_, ?_⟩
    refine ⟨h470_, ?_⟩
    refine ⟨h471_, ?_⟩
    refine ⟨h472_, ?_⟩
    refine ⟨h473_, ?_⟩
    refine ⟨(la_values_65 h474_ h492_), ?_⟩
    refine ⟨(sm_FC_s (sm_FC_F h493_ (sm_F1_le h414_ (Int.le_refl _)) (Int.le_refl _) (Int.le_refl _) (Int.le_refl _) rfl) (sm_FC_F h475_ sm_F1_rf (Int.le_refl _) (Int.le_refl _) (Int.le_refl _) rfl)), ?_⟩
    refine ⟨(la_values_66 h476_ h494_), ?_⟩
    refine ⟨(la_values_67 h477_ h495_), ?_⟩
    refine ⟨(la_values_67 h478_ h496_), ?_⟩
    refine ⟨(la_values_67 h479_ h497_), ?_⟩
    refine ⟨(la_values_67 h480_ h498_), ?_⟩
    refine ⟨(la_values_67 h481_ h499_), ?_⟩
    refine ⟨(sm_AP_s (sm_AP_F h500_ (sm_F1_le h423_ (Int.le_refl _)) (Int.le_refl _) (Int.le_refl _) (Int.le_refl _)) (sm_AP_F h482_ sm_F1_rf (Int.le_refl _) (Int.le_refl _) (Int.le_refl _))), ?_⟩
    refine ⟨(sm_HB_s (sm_HB_F h501_ (sm_F1_le h415_ la_values_71) (Int.le_refl _) (Int.le_refl _) (Int.le_refl _) (la_values_72 h474_)) (sm_HB_1 (by rw [((sm_F1_at h415_ (g1 1046 0) la_values_69).trans rfl)]; exact (la_values_73 h148_ h149_ e153_ h158_ h167_ h474_ h492_ h494_)) (sm_HB_F h483_ sm_F1_rf (Int.le_refl _) la_values_71 (Int.le_refl _) (la_values_74 h148_ e153_ h158_ h159_ h167_ (sm_ex_e h172_).2.2.2.2 h189_ h492_ h494_)))), ?_⟩
    refine ⟨(la_values_75 h484_ h502_), ?_⟩
    exact trivial
  have e513_ : (if l3_3 = (-1) then 0 else S 1024 0 - l3_3 : Int) = S 1024 0 - l3_3 := if_neg h140_
  have e514_ : S 12 (5 * l3_3 + 0) = S 12 (5 * l3_3) := congrArg ((S 12)) la_values_28
  have e515_ : S 1100002 (S 12 (5 * l3_3 + 0)) = S 1100002 (S 12 (5 * l3_3)) := congrArg ((S 1100002)) e514_
  have e516_ : S 1100005 (S 12 (5 * l3_3 + 0)) = S 1100005 (S 12 (5 * l3_3)) := congrArg ((S 1100005)) e514_
  by_cases c517_ : S 13 l3_3 = (-1)
  · skip
    have e518_ : (if S 13 l3_3 = (-1) then 0 else S 1024 0 - S 13 l3_3 : Int) = 0 := if_pos c517_
    have h519_ := (h177_.resolve_right (la_values_76 h155_ h157_ (la_values_3 (la_values_19 h155_) h140_) c517_))
    exact (la_values_77 h156_ e513_ e518_)
  · skip
    have e520_ : (if S 13 l3_3 = (-1) then 0 else S 1024 0 - S 13 l3_3 : Int) = S 1024 0 - S 13 l3_3 := if_neg c517_
    obtain ⟨h521_, ⟨h522_, ⟨h523_, ⟨h524_, ⟨h525_, ⟨h526_, ⟨h527_, ⟨h528_, h529_⟩⟩⟩⟩⟩⟩⟩⟩ := (h177_.resolve_left c517_)
    have h530_ := (h528_ (la_values_79 h157_))
    exact (la_values_80 e513_ e520_ h521_)
set_option maxRecDepth 8000 in
set_option maxHeartbeats 2000000 in
theorem s_values (d : Int) (h0 : 0 ≤ d) (IH : ∀ d' : Int, 0 ≤ d' → d' < d → P_K d') : T_values d := by
  intro p1 S hok hp1 hpre hd
  have h := f_values d p1 S hok hp1 hpre hd
  have hM := sm_h101
  show sv_T sm_XS sm_cs sm_L sm_sh ((if (S 1047 0) = 0 then (if p1 = -1 then 0 else 17 * (S 1100005 p1) + 17) + (600 - (S 1046 0)) + 9 else 5)).toNat (q_values p1 S) 101 0 [(0, .ref 0), (1, sv_I p1)] [] S
  refine sv_iconst (d := (0 : Int)) hM dX12_values_0 rfl rfl ?_
  refine sv_istore_n hM dX12_values_1 (by decide) rfl ?_
  show sv_T sm_XS sm_cs sm_L sm_sh ((if (S 1047 0) = 0 then (if p1 = -1 then 0 else 17 * (S 1100005 p1) + 17) + (600 - (S 1046 0)) + 9 else 5)).toNat (q_values p1 S) 101 2 [(0, .ref 0), (1, sv_I p1), (2, sv_I (0 : Int))] [] S
  refine sv_iload_n hM dX12_values_2 rfl rfl ?_
  refine sv_istore_n hM dX12_values_3 (by decide) rfl ?_
  show sv_T sm_XS sm_cs sm_L sm_sh ((if (S 1047 0) = 0 then (if p1 = -1 then 0 else 17 * (S 1100005 p1) + 17) + (600 - (S 1046 0)) + 9 else 5)).toNat (q_values p1 S) 101 4 [(0, .ref 0), (1, sv_I p1), (2, sv_I (0 : Int)), (3, sv_I p1)] [] S
  obtain ⟨hin5, h⟩ := h
  have hJ : ∀ a : Int × Int × sv_S, (sv_R a.1 ∧ sv_R a.2.1 ∧ sm_ok (sv_sts S [26, 27, 28, 29, 1046, 1047, 1100007, 1100023, 1100024, 1100025, 1053, 31, 1100030, 1100009, 1100027, 1100028, 1100026, 1055, 1100033, 39, 1066] a.2.2) ∧ (0 ≤ a.1 ∧ a.1 ≤ 8 ∧ (p1 = -1 → a.1 = 0 ∧ a.2.1 = -1) ∧ (¬ p1 = -1 → (a.2.1 = -1 ∨ (0 ≤ a.2.1 ∧ a.2.1 < (S 1024 0) ∧ (S 1100001 a.2.1) = 3 ∧ a.1 + (S 1100002 a.2.1) ≤ (S 1100002 p1) ∧ (S 1100005 a.2.1) ≤ (S 1100005 p1)))) ∧ (¬ p1 = -1 → sm_LF (a.2.2 39) (S 1100002) (a.2.2 1066 0) (S 1024 0) (12001 * (17 * (S 1100005 p1) + 18))) ∧ 0 ≤ (a.2.2 1046 0) ∧ (a.2.2 1046 0) ≤ 600 ∧ 0 ≤ (a.2.2 1047 0) ∧ (a.2.2 1047 0) ≤ 1 ∧ 0 ≤ (a.2.2 1053 0) ∧ 0 ≤ (a.2.2 1066 0) ∧ (S 1046 0) ≤ (a.2.2 1046 0) ∧ ((S 1047 0) = 1 → (a.2.2 1047 0) = 1) ∧ sm_F1 (S 26) (a.2.2 26) (S 1046 0) ∧ sm_F1 (S 27) (a.2.2 27) (S 1046 0) ∧ sm_F1 (S 28) (a.2.2 28) (S 1046 0) ∧ sm_F1 (S 29) (a.2.2 29) (S 1046 0) ∧ sm_F1 (S 1100007) (a.2.2 1100007) ((S 1046 0) + 1) ∧ sm_F1 (S 1100023) (a.2.2 1100023) ((S 1046 0) + 1) ∧ sm_F1 (S 1100024) (a.2.2 1100024) ((S 1046 0) + 1) ∧ sm_F1 (S 1100025) (a.2.2 1100025) ((S 1046 0) + 1) ∧ sm_F1 (S 1100009) (a.2.2 1100009) (S 1053 0) ∧ sm_F1 (S 1100027) (a.2.2 1100027) (S 1053 0) ∧ sm_F1 (S 1100028) (a.2.2 1100028) (S 1053 0) ∧ sm_F1 (S 1100026) (a.2.2 1100026) (S 1053 0) ∧ sm_F1 (S 1100030) (a.2.2 1100030) (S 1053 0) ∧ sm_F1 (S 31) (a.2.2 31) (S 1053 0) ∧ (S 1053 0) ≤ (a.2.2 1053 0) ∧ (a.2.2 1066 0) = (S 1066 0) ∧ sm_F1 (S 39) (a.2.2 39) (S 1066 0) ∧ ((S 1047 0) = 1 → (a.2.2 1053 0) = (S 1053 0)) ∧ ((S 1047 0) = 0 → (a.2.2 1053 0) ≤ (S 1053 0) + 3 * (600 - (S 1046 0)) + (if p1 = -1 then 0 else 17 * (S 1100005 p1) + 17)) ∧ ((a.2.2 1047 0) = 0 → (S 1047 0) = 0 ∧ sm_KC (a.2.2 26) (a.2.2 27) (a.2.2 28) (a.2.2 29) (a.2.2 1100007) (a.2.2 1100023) (a.2.2 1100024) (a.2.2 1100025) (a.2.2 31) (a.2.2 1100009) (a.2.2 1100027) (a.2.2 1100028) (a.2.2 1100026) (a.2.2 1100030) (S 21) (S 32) (S 33) (a.2.2 1046 0) (a.2.2 1053 0) (S 1056 0) (S 1032 0) (S 1007 0) (a.2.2 1100033 0) ∧ (a.2.2 1100033 0) = (a.2.2 1055 0) ∧ 0 ≤ (a.2.2 1055 0) ∧ (a.2.2 1055 0) ≤ (a.2.2 1046 0) ∧ (S 1046 0) + a.1 ≤ (a.2.2 1046 0) ∧ sm_FC (a.2.2 29) (S 1046 0) (a.2.2 1046 0) (S 1056 0) ∧ (a.2.2 1100007 (a.2.2 1046 0)) = (S 1100007 (S 1046 0)) + a.1 ∧ (a.2.2 1100023 (a.2.2 1046 0)) = (S 1100023 (S 1046 0)) ∧ (a.2.2 1100024 (a.2.2 1046 0)) = (S 1100024 (S 1046 0)) ∧ (a.2.2 1100025 (a.2.2 1046 0)) = (S 1100025 (S 1046 0)) ∧ (a.2.2 1100007 (a.2.2 1100023 (a.2.2 1046 0))) = (S 1100007 (S 1100023 (S 1046 0))) ∧ (a.2.2 1100007 (a.2.2 1100025 (a.2.2 1046 0))) = (S 1100007 (S 1100025 (S 1046 0))) ∧ sm_AP (a.2.2 1100030) (S 1053 0) (a.2.2 1053 0) ∧ sm_HB (a.2.2 1100007) (S 1046 0) (a.2.2 1046 0) (2 * (S 1100007 (S 1046 0)) + ((a.2.2 1046 0) - (S 1046 0)) + (if p1 = -1 then 0 else 8 * (S 1100005 p1) + 17)) ∧ (a.2.2 1053 0) ≤ (S 1053 0) + 3 * ((a.2.2 1046 0) - (S 1046 0)) ∧ True))) → sv_T sm_XS sm_cs sm_L sm_sh ((if (S 1047 0) = 0 then (if p1 = -1 then 0 else 17 * (S 1100005 p1) + 17) + (600 - (S 1046 0)) + 9 else 5)).toNat (q_values p1 S) 101 4 [(0, .ref 0), (1, sv_I p1), (2, sv_I a.1), (3, sv_I a.2.1)] [] (sv_sts S [26, 27, 28, 29, 1046, 1047, 1100007, 1100023, 1100024, 1100025, 1053, 31, 1100030, 1100009, 1100027, 1100028, 1100026, 1055, 1100033, 39, 1066] a.2.2) := by
    refine sv_loop (α := Int × Int × sv_S) (fun a => sv_R a.1 ∧ sv_R a.2.1 ∧ sm_ok (sv_sts S [26, 27, 28, 29, 1046, 1047, 1100007, 1100023, 1100024, 1100025, 1053, 31, 1100030, 1100009, 1100027, 1100028, 1100026, 1055, 1100033, 39, 1066] a.2.2) ∧ (0 ≤ a.1 ∧ a.1 ≤ 8 ∧ (p1 = -1 → a.1 = 0 ∧ a.2.1 = -1) ∧ (¬ p1 = -1 → (a.2.1 = -1 ∨ (0 ≤ a.2.1 ∧ a.2.1 < (S 1024 0) ∧ (S 1100001 a.2.1) = 3 ∧ a.1 + (S 1100002 a.2.1) ≤ (S 1100002 p1) ∧ (S 1100005 a.2.1) ≤ (S 1100005 p1)))) ∧ (¬ p1 = -1 → sm_LF (a.2.2 39) (S 1100002) (a.2.2 1066 0) (S 1024 0) (12001 * (17 * (S 1100005 p1) + 18))) ∧ 0 ≤ (a.2.2 1046 0) ∧ (a.2.2 1046 0) ≤ 600 ∧ 0 ≤ (a.2.2 1047 0) ∧ (a.2.2 1047 0) ≤ 1 ∧ 0 ≤ (a.2.2 1053 0) ∧ 0 ≤ (a.2.2 1066 0) ∧ (S 1046 0) ≤ (a.2.2 1046 0) ∧ ((S 1047 0) = 1 → (a.2.2 1047 0) = 1) ∧ sm_F1 (S 26) (a.2.2 26) (S 1046 0) ∧ sm_F1 (S 27) (a.2.2 27) (S 1046 0) ∧ sm_F1 (S 28) (a.2.2 28) (S 1046 0) ∧ sm_F1 (S 29) (a.2.2 29) (S 1046 0) ∧ sm_F1 (S 1100007) (a.2.2 1100007) ((S 1046 0) + 1) ∧ sm_F1 (S 1100023) (a.2.2 1100023) ((S 1046 0) + 1) ∧ sm_F1 (S 1100024) (a.2.2 1100024) ((S 1046 0) + 1) ∧ sm_F1 (S 1100025) (a.2.2 1100025) ((S 1046 0) + 1) ∧ sm_F1 (S 1100009) (a.2.2 1100009) (S 1053 0) ∧ sm_F1 (S 1100027) (a.2.2 1100027) (S 1053 0) ∧ sm_F1 (S 1100028) (a.2.2 1100028) (S 1053 0) ∧ sm_F1 (S 1100026) (a.2.2 1100026) (S 1053 0) ∧ sm_F1 (S 1100030) (a.2.2 1100030) (S 1053 0) ∧ sm_F1 (S 31) (a.2.2 31) (S 1053 0) ∧ (S 1053 0) ≤ (a.2.2 1053 0) ∧ (a.2.2 1066 0) = (S 1066 0) ∧ sm_F1 (S 39) (a.2.2 39) (S 1066 0) ∧ ((S 1047 0) = 1 → (a.2.2 1053 0) = (S 1053 0)) ∧ ((S 1047 0) = 0 → (a.2.2 1053 0) ≤ (S 1053 0) + 3 * (600 - (S 1046 0)) + (if p1 = -1 then 0 else 17 * (S 1100005 p1) + 17)) ∧ ((a.2.2 1047 0) = 0 → (S 1047 0) = 0 ∧ sm_KC (a.2.2 26) (a.2.2 27) (a.2.2 28) (a.2.2 29) (a.2.2 1100007) (a.2.2 1100023) (a.2.2 1100024) (a.2.2 1100025) (a.2.2 31) (a.2.2 1100009) (a.2.2 1100027) (a.2.2 1100028) (a.2.2 1100026) (a.2.2 1100030) (S 21) (S 32) (S 33) (a.2.2 1046 0) (a.2.2 1053 0) (S 1056 0) (S 1032 0) (S 1007 0) (a.2.2 1100033 0) ∧ (a.2.2 1100033 0) = (a.2.2 1055 0) ∧ 0 ≤ (a.2.2 1055 0) ∧ (a.2.2 1055 0) ≤ (a.2.2 1046 0) ∧ (S 1046 0) + a.1 ≤ (a.2.2 1046 0) ∧ sm_FC (a.2.2 29) (S 1046 0) (a.2.2 1046 0) (S 1056 0) ∧ (a.2.2 1100007 (a.2.2 1046 0)) = (S 1100007 (S 1046 0)) + a.1 ∧ (a.2.2 1100023 (a.2.2 1046 0)) = (S 1100023 (S 1046 0)) ∧ (a.2.2 1100024 (a.2.2 1046 0)) = (S 1100024 (S 1046 0)) ∧ (a.2.2 1100025 (a.2.2 1046 0)) = (S 1100025 (S 1046 0)) ∧ (a.2.2 1100007 (a.2.2 1100023 (a.2.2 1046 0))) = (S 1100007 (S 1100023 (S 1046 0))) ∧ (a.2.2 1100007 (a.2.2 1100025 (a.2.2 1046 0))) = (S 1100007 (S 1100025 (S 1046 0))) ∧ sm_AP (a.2.2 1100030) (S 1053 0) (a.2.2 1053 0) ∧ sm_HB (a.2.2 1100007) (S 1046 0) (a.2.2 1046 0) (2 * (S 1100007 (S 1046 0)) + ((a.2.2 1046 0) - (S 1046 0)) + (if p1 = -1 then 0 else 8 * (S 1100005 p1) + 17)) ∧ (a.2.2 1053 0) ≤ (S 1053 0) + 3 * ((a.2.2 1046 0) - (S 1046 0)) ∧ True))) (fun a => (if a.2.1 = -1 then 0 else (S 1024 0) - a.2.1)) (fun a => sv_T sm_XS sm_cs sm_L sm_sh ((if (S 1047 0) = 0 then (if p1 = -1 then 0 else 17 * (S 1100005 p1) + 17) + (600 - (S 1046 0)) + 9 else 5)).toNat (q_values p1 S) 101 4 [(0, .ref 0), (1, sv_I p1), (2, sv_I a.1), (3, sv_I a.2.1)] [] (sv_sts S [26, 27, 28, 29, 1046, 1047, 1100007, 1100023, 1100024, 1100025, 1053, 31, 1100030, 1100009, 1100027, 1100028, 1100026, 1055, 1100033, 39, 1066] a.2.2)) (fun a q => (h a.1 q.1 a.2.1 q.2.1 a.2.2 q.2.2.2).1) (fun a q ih4 => ?_)
    obtain ⟨l2_2, l3_3, g1⟩ := a
    obtain ⟨hl2_2, hl3_3, ok6, hin5i⟩ := q
    have h := (h l2_2 hl2_2 l3_3 hl3_3 g1 hin5i).2
    show sv_T sm_XS sm_cs sm_L sm_sh ((if (S 1047 0) = 0 then (if p1 = -1 then 0 else 17 * (S 1100005 p1) + 17) + (600 - (S 1046 0)) + 9 else 5)).toNat (q_values p1 S) 101 4 [(0, .ref 0), (1, sv_I p1), (2, sv_I l2_2), (3, sv_I l3_3)] [] (sv_sts S [26, 27, 28, 29, 1046, 1047, 1100007, 1100023, 1100024, 1100025, 1053, 31, 1100030, 1100009, 1100027, 1100028, 1100026, 1055, 1100033, 39, 1066] g1)
    have md7 : sv_mod [26, 27, 28, 29, 1046, 1047, 1100007, 1100023, 1100024, 1100025, 1053, 31, 1100030, 1100009, 1100027, 1100028, 1100026, 1055, 1100033, 39, 1066] S (sv_sts S [26, 27, 28, 29, 1046, 1047, 1100007, 1100023, 1100024, 1100025, 1053, 31, 1100030, 1100009, 1100027, 1100028, 1100026, 1055, 1100033, 39, 1066] g1) := sv_mod.sts sv_mod.rf (by decide)
    have md8 : sv_mod [26, 27, 28, 29, 1046, 1047, 1100007, 1100023, 1100024, 1100025, 1053, 31, 1100030, 1100009, 1100027, 1100028, 1100026, 1055, 1100033, 39, 1066] S (sv_sts S [26, 27, 28, 29, 1046, 1047, 1100007, 1100023, 1100024, 1100025, 1053, 31, 1100030, 1100009, 1100027, 1100028, 1100026, 1055, 1100033, 39, 1066] g1) := sv_mod.sts sv_mod.rf (by decide)
    refine sv_iload_n hM dX12_values_4 rfl rfl ?_
    refine sv_iconst (d := (-1 : Int)) hM dX12_values_5 rfl rfl ?_
    refine sv_icmp_eq hM dX12_values_6 hl3_3 (⟨by decide, by decide⟩ : sv_R (-1 : Int)) (t := 32) rfl rfl (fun hc => ?_) (fun hc => ?_)
    · have h := h.1 (hc)
      refine sv_iload_n hM dX12_values_32 rfl rfl ?_
      exact sv_iret hM dX12_values_33 rfl rfl ⟨l2_2, rfl, hl2_2, ok6, md7, h⟩
    · have h := h.2 (hc)
      have k9 : ((p1 = -1 → l2_2 = 0 ∧ l3_3 = -1) → ¬ l3_3 = -1 → ¬ p1 = -1) := fun a b q => b (a q).2
      have h := h k9
      have k10 : (sm_WF (S 11) (S 12) (S 13) (S 1100001) (S 1100002) (S 1100005) (S 1100003) (S 1100004) (S 1024 0) (S 1007 0) (S 1009 0) (sm_fn (S 1032 0) (S 21) (S 1056 0)) → 0 ≤ l3_3 → l3_3 < (S 1024 0) → ((S 1100001 (l3_3)) = 1 → 0 ≤ (S 1100002 (l3_3)) ∧ ((S 11 (l3_3)) = 3 → (S 12 (5 * (l3_3) + 1)) < (l3_3)) ∧ ((S 11 (l3_3)) = 4 ∨ (S 11 (l3_3)) = 5 ∨ (S 11 (l3_3)) = 8 ∨ (S 11 (l3_3)) = 9 → 17 * (S 1100005 (l3_3)) + 2 ≤ (S 1100002 (l3_3))) ∧ 0 ≤ (S 1100005 (l3_3))) ∧ ((S 1100001 (l3_3)) = 2 → 0 ≤ (S 1100005 (l3_3)) ∧ (S 1100002 (l3_3)) ≤ 17 * (S 1100005 (l3_3)) + 5 ∧ ((S 11 (l3_3)) = 33 → 1 ≤ (S 1100005 (l3_3)))) ∧ ((S 1100001 (l3_3)) = 6 → 0 ≤ (S 1100002 (l3_3)) ∧ 1 ≤ (S 1100004 (l3_3)) ∧ ((S 12 (5 * (l3_3))) = - 1 → (S 1100004 (l3_3)) = 2)) ∧ ((S 1100001 (l3_3)) = 3 → 1 ≤ (S 1100002 (l3_3)))) := fun h a0 a1 => sm_gx h _ a0 a1
      have h := h k10
      have k11 : (sm_WF (S 11) (S 12) (S 13) (S 1100001) (S 1100002) (S 1100005) (S 1100003) (S 1100004) (S 1024 0) (S 1007 0) (S 1009 0) (sm_fn (S 1032 0) (S 21) (S 1056 0)) → 0 ≤ l3_3 → l3_3 < (S 1024 0) → (S 1100001 l3_3) = 3 → sm_ex (S 1100001) (S 1100002) (S 1100005) (S 1024 0) 1 ((S 12 (5 * (l3_3)))) (17 * (S 1100005 (l3_3)) + 17) ((S 1100005 (l3_3)))) := fun h a0 a1 a2 => sm_g3_3 h _ a0 a1 a2
      have h := h k11
      have k12 : (sm_WF (S 11) (S 12) (S 13) (S 1100001) (S 1100002) (S 1100005) (S 1100003) (S 1100004) (S 1024 0) (S 1007 0) (S 1009 0) (sm_fn (S 1032 0) (S 21) (S 1056 0)) → 0 ≤ l3_3 → l3_3 < (S 1024 0) → 2 ≤ (S 1100001 l3_3) → (S 13 (l3_3)) = - 1 ∨ ((l3_3) < (S 13 (l3_3)) ∧ (S 13 (l3_3)) < (S 1024 0) ∧ (S 1100001 ((S 13 (l3_3)))) = (S 1100001 (l3_3)) ∧ (S 1100002 ((S 13 (l3_3)))) ≤ (S 1100002 (l3_3)) ∧ (S 1100005 ((S 13 (l3_3)))) ≤ (S 1100005 (l3_3)) ∧ (S 1100003 ((S 13 (l3_3)))) ≤ (S 1100003 (l3_3)) ∧ (S 1100004 ((S 13 (l3_3)))) ≤ (S 1100004 (l3_3)) ∧ ((S 1100001 (l3_3)) = 3 ∨ (S 1100001 (l3_3)) = 6 → (S 1100002 ((S 13 (l3_3)))) < (S 1100002 (l3_3))) ∧ ((S 1100001 (l3_3)) = 6 → (S 1100004 (l3_3)) = 2 → (S 1100004 ((S 13 (l3_3)))) < 2))) := fun h a0 a1 a2 => sm_gn h _ a0 a1 a2
      have h := h k12
      have k13 : (sm_WF (S 11) (S 12) (S 13) (S 1100001) (S 1100002) (S 1100005) (S 1100003) (S 1100004) (S 1024 0) (S 1007 0) (S 1009 0) (sm_fn (S 1032 0) (S 21) (S 1056 0)) → 0 ≤ (S 12 (5 * l3_3)) → (S 12 (5 * l3_3)) < (S 1024 0) → ((S 1100001 ((S 12 (5 * l3_3)))) = 1 → 0 ≤ (S 1100002 ((S 12 (5 * l3_3)))) ∧ ((S 11 ((S 12 (5 * l3_3)))) = 3 → (S 12 (5 * ((S 12 (5 * l3_3))) + 1)) < ((S 12 (5 * l3_3)))) ∧ ((S 11 ((S 12 (5 * l3_3)))) = 4 ∨ (S 11 ((S 12 (5 * l3_3)))) = 5 ∨ (S 11 ((S 12 (5 * l3_3)))) = 8 ∨ (S 11 ((S 12 (5 * l3_3)))) = 9 → 17 * (S 1100005 ((S 12 (5 * l3_3)))) + 2 ≤ (S 1100002 ((S 12 (5 * l3_3))))) ∧ 0 ≤ (S 1100005 ((S 12 (5 * l3_3))))) ∧ ((S 1100001 ((S 12 (5 * l3_3)))) = 2 → 0 ≤ (S 1100005 ((S 12 (5 * l3_3)))) ∧ (S 1100002 ((S 12 (5 * l3_3)))) ≤ 17 * (S 1100005 ((S 12 (5 * l3_3)))) + 5 ∧ ((S 11 ((S 12 (5 * l3_3)))) = 33 → 1 ≤ (S 1100005 ((S 12 (5 * l3_3)))))) ∧ ((S 1100001 ((S 12 (5 * l3_3)))) = 6 → 0 ≤ (S 1100002 ((S 12 (5 * l3_3)))) ∧ 1 ≤ (S 1100004 ((S 12 (5 * l3_3)))) ∧ ((S 12 (5 * ((S 12 (5 * l3_3))))) = - 1 → (S 1100004 ((S 12 (5 * l3_3)))) = 2)) ∧ ((S 1100001 ((S 12 (5 * l3_3)))) = 3 → 1 ≤ (S 1100002 ((S 12 (5 * l3_3)))))) := fun h a0 a1 => sm_gx h _ a0 a1
      have h := h k13
      have k14 : ((S 1100005 (S 12 (5 * l3_3 + 0))) = (S 1100005 (S 12 (5 * l3_3)))) := by rw [Int.add_zero]
      have h := h k14
      have k15 : ((S 1100002 (S 12 (5 * l3_3 + 0))) = (S 1100002 (S 12 (5 * l3_3)))) := by rw [Int.add_zero]
      have h := h k15
      refine sv_aload_n hM dX12_values_9 rfl rfl ?_
      refine sv_aload_n hM dX12_values_10 rfl rfl ?_
      refine sv_iload_n hM dX12_values_11 rfl rfl ?_
      refine sv_iconst (d := (0 : Int)) hM dX12_values_12 rfl rfl ?_
      obtain ⟨o16, h⟩ := h
      obtain ⟨o17, h⟩ := h
      refine sv_callV hM dX12_values_13 sm_iv_644 (by decide) (sm_a0 _) rfl rfl (Nat.le_of_ble_eq_true rfl) sm_h34 (Nat.le_of_ble_eq_true rfl) (Nat.le_of_ble_eq_true rfl) (F' := 0) (sv_Fn (n := 0) o17) rfl (t_part l3_3 (0 : Int) (sv_sts S [26, 27, 28, 29, 1046, 1047, 1100007, 1100023, 1100024, 1100025, 1053, 31, 1100030, 1100009, 1100027, 1100028, 1100026, 1055, 1100033, 39, 1066] g1) ok6 hl3_3 (⟨by decide, by decide⟩ : sv_R (0 : Int)) o16) (fun v S1 hq => ?_)
      obtain ⟨rfl, hS1⟩ := hq
      obtain rfl : (sv_sts S [26, 27, 28, 29, 1046, 1047, 1100007, 1100023, 1100024, 1100025, 1053, 31, 1100030, 1100009, 1100027, 1100028, 1100026, 1055, 1100033, 39, 1066] g1) = S1 := hS1.symm
      show sv_T sm_XS sm_cs sm_L sm_sh ((if (S 1047 0) = 0 then (if p1 = -1 then 0 else 17 * (S 1100005 p1) + 17) + (600 - (S 1046 0)) + 9 else 5)).toNat (q_values p1 S) 101 16 [(0, .ref 0), (1, sv_I p1), (2, sv_I l2_2), (3, sv_I l3_3)] [sv_I ((S 12 (5 * l3_3 + (0 : Int)))), .ref 0] (sv_sts S [26, 27, 28, 29, 1046, 1047, 1100007, 1100023, 1100024, 1100025, 1053, 31, 1100030, 1100009, 1100027, 1100028, 1100026, 1055, 1100033, 39, 1066] g1)
      obtain ⟨o18, h⟩ := h
      obtain ⟨o19, h⟩ := h
      obtain ⟨o20, h⟩ := h
      refine sv_callV hM dX12_values_16 sm_iv_668 (by decide) (sm_a0 _) rfl rfl (Nat.le_of_ble_eq_true rfl) sm_h96 (Nat.le_of_ble_eq_true rfl) (Nat.le_of_ble_eq_true rfl) (F' := (((if (g1 1047 0) = 0 then (S 1100002 ((S 12 (5 * l3_3 + (0 : Int))))) + (600 - (g1 1046 0)) + 8 else 4))).toNat) (sv_Fe o20) rfl ((IH ((if (g1 1047 0) = 0 then (S 1100002 ((S 12 (5 * l3_3 + (0 : Int))))) + (600 - (g1 1046 0)) + 8 else 4)) o19.1 o19.2).1 ((S 12 (5 * l3_3 + (0 : Int)))) (sv_sts S [26, 27, 28, 29, 1046, 1047, 1100007, 1100023, 1100024, 1100025, 1053, 31, 1100030, 1100009, 1100027, 1100028, 1100026, 1055, 1100033, 39, 1066] g1) ok6 (sm_okI ok6 sm_r12 _) o18 rfl) (fun v S1 hq => ?_)
      obtain ⟨rfl, ok22, md23, hpo24⟩ := hq
      obtain ⟨g21, rfl⟩ : ∃ g, S1 = sv_sts (sv_sts S [26, 27, 28, 29, 1046, 1047, 1100007, 1100023, 1100024, 1100025, 1053, 31, 1100030, 1100009, 1100027, 1100028, 1100026, 1055, 1100033, 39, 1066] g1) [26, 27, 28, 29, 1046, 1047, 1100007, 1100023, 1100024, 1100025, 1053, 31, 1100030, 1100009, 1100027, 1100028, 1100026, 1055, 1100033, 39, 1066] g := ⟨_, md23.eq⟩
      show sv_T sm_XS sm_cs sm_L sm_sh ((if (S 1047 0) = 0 then (if p1 = -1 then 0 else 17 * (S 1100005 p1) + 17) + (600 - (S 1046 0)) + 9 else 5)).toNat (q_values p1 S) 101 19 [(0, .ref 0), (1, sv_I p1), (2, sv_I l2_2), (3, sv_I l3_3)] [] (sv_sts (sv_sts S [26, 27, 28, 29, 1046, 1047, 1100007, 1100023, 1100024, 1100025, 1053, 31, 1100030, 1100009, 1100027, 1100028, 1100026, 1055, 1100033, 39, 1066] g1) [26, 27, 28, 29, 1046, 1047, 1100007, 1100023, 1100024, 1100025, 1053, 31, 1100030, 1100009, 1100027, 1100028, 1100026, 1055, 1100033, 39, 1066] g21)
      have md25 : sv_mod [26, 27, 28, 29, 1046, 1047, 1100007, 1100023, 1100024, 1100025, 1053, 31, 1100030, 1100009, 1100027, 1100028, 1100026, 1055, 1100033, 39, 1066] S (sv_sts (sv_sts S [26, 27, 28, 29, 1046, 1047, 1100007, 1100023, 1100024, 1100025, 1053, 31, 1100030, 1100009, 1100027, 1100028, 1100026, 1055, 1100033, 39, 1066] g1) [26, 27, 28, 29, 1046, 1047, 1100007, 1100023, 1100024, 1100025, 1053, 31, 1100030, 1100009, 1100027, 1100028, 1100026, 1055, 1100033, 39, 1066] g21) := sv_mod.sts md7 (by decide)
      have md26 : sv_mod [26, 27, 28, 29, 1046, 1047, 1100007, 1100023, 1100024, 1100025, 1053, 31, 1100030, 1100009, 1100027, 1100028, 1100026, 1055, 1100033, 39, 1066] S (sv_sts (sv_sts S [26, 27, 28, 29, 1046, 1047, 1100007, 1100023, 1100024, 1100025, 1053, 31, 1100030, 1100009, 1100027, 1100028, 1100026, 1055, 1100033, 39, 1066] g1) [26, 27, 28, 29, 1046, 1047, 1100007, 1100023, 1100024, 1100025, 1053, 31, 1100030, 1100009, 1100027, 1100028, 1100026, 1055, 1100033, 39, 1066] g21) := sv_mod.sts md8 (by decide)
      have h := h g21 hpo24
      refine sv_iinc (d := (1 : Int)) hM dX12_values_19 rfl (by decide) rfl rfl ?_
      show sv_T sm_XS sm_cs sm_L sm_sh ((if (S 1047 0) = 0 then (if p1 = -1 then 0 else 17 * (S 1100005 p1) + 17) + (600 - (S 1046 0)) + 9 else 5)).toNat (q_values p1 S) 101 22 [(0, .ref 0), (1, sv_I p1), (2, sv_I (l2_2 + (1 : Int))), (3, sv_I l3_3)] [] (sv_sts (sv_sts S [26, 27, 28, 29, 1046, 1047, 1100007, 1100023, 1100024, 1100025, 1053, 31, 1100030, 1100009, 1100027, 1100028, 1100026, 1055, 1100033, 39, 1066] g1) [26, 27, 28, 29, 1046, 1047, 1100007, 1100023, 1100024, 1100025, 1053, 31, 1100030, 1100009, 1100027, 1100028, 1100026, 1055, 1100033, 39, 1066] g21)
      refine sv_aload_n hM dX12_values_22 rfl rfl ?_
      refine sv_getA hM dX12_values_23 sm_fl_49 (sm_a0 _) sm_k27 rfl ?_
      refine sv_iload_n hM dX12_values_26 rfl rfl ?_
      obtain ⟨o27, h⟩ := h
      have k28 : sv_R (S 13 l3_3) := sm_okI ok22 sm_r13 l3_3
      have h := h k28
      refine sv_iald hM dX12_values_27 (sm_a13 _) (by decide) o27.1 o27.2 rfl (x := (S 13 l3_3)) rfl ?_
      refine sv_istore_n hM dX12_values_28 (by decide) rfl ?_
      show sv_T sm_XS sm_cs sm_L sm_sh ((if (S 1047 0) = 0 then (if p1 = -1 then 0 else 17 * (S 1100005 p1) + 17) + (600 - (S 1046 0)) + 9 else 5)).toNat (q_values p1 S) 101 29 [(0, .ref 0), (1, sv_I p1), (2, sv_I (l2_2 + (1 : Int))), (3, sv_I (S 13 l3_3))] [] (sv_sts (sv_sts S [26, 27, 28, 29, 1046, 1047, 1100007, 1100023, 1100024, 1100025, 1053, 31, 1100030, 1100009, 1100027, 1100028, 1100026, 1055, 1100033, 39, 1066] g1) [26, 27, 28, 29, 1046, 1047, 1100007, 1100023, 1100024, 1100025, 1053, 31, 1100030, 1100009, 1100027, 1100028, 1100026, 1055, 1100033, 39, 1066] g21)
      refine sv_goto hM dX12_values_29 (pc' := 4) rfl ?_
      obtain ⟨o29, h⟩ := h
      have eS := sv_mod.eq md26
      have hb := ih4 ((l2_2 + (1 : Int)), (S 13 l3_3), (sv_sts (sv_sts S [26, 27, 28, 29, 1046, 1047, 1100007, 1100023, 1100024, 1100025, 1053, 31, 1100030, 1100009, 1100027, 1100028, 1100026, 1055, 1100033, 39, 1066] g1) [26, 27, 28, 29, 1046, 1047, 1100007, 1100023, 1100024, 1100025, 1053, 31, 1100030, 1100009, 1100027, 1100028, 1100026, 1055, 1100033, 39, 1066] g21)) ⟨o29, k28, (by rw [← eS]; exact ok22), h.1⟩ h.2
      have hb : sv_T sm_XS sm_cs sm_L sm_sh ((if (S 1047 0) = 0 then (if p1 = -1 then 0 else 17 * (S 1100005 p1) + 17) + (600 - (S 1046 0)) + 9 else 5)).toNat (q_values p1 S) 101 4 [(0, .ref 0), (1, sv_I p1), (2, sv_I (l2_2 + (1 : Int))), (3, sv_I (S 13 l3_3))] [] (sv_sts (sv_sts S [26, 27, 28, 29, 1046, 1047, 1100007, 1100023, 1100024, 1100025, 1053, 31, 1100030, 1100009, 1100027, 1100028, 1100026, 1055, 1100033, 39, 1066] g1) [26, 27, 28, 29, 1046, 1047, 1100007, 1100023, 1100024, 1100025, 1053, 31, 1100030, 1100009, 1100027, 1100028, 1100026, 1055, 1100033, 39, 1066] g21) := Eq.mpr (congrArg (fun Z => sv_T sm_XS sm_cs sm_L sm_sh ((if (S 1047 0) = 0 then (if p1 = -1 then 0 else 17 * (S 1100005 p1) + 17) + (600 - (S 1046 0)) + 9 else 5)).toNat (q_values p1 S) 101 4 [(0, .ref 0), (1, sv_I p1), (2, sv_I (l2_2 + (1 : Int))), (3, sv_I (S 13 l3_3))] [] Z) eS) hb
      exact sv_less (lv := [(0, .ref 0), (1, sv_I p1), (2, sv_I (l2_2 + (1 : Int))), (3, sv_I (S 13 l3_3))]) (sv_Sub_cons rfl (sv_Sub_cons rfl (sv_Sub_cons rfl (sv_Sub_cons rfl sv_Sub_nil)))) hb
  have eS := sv_mod.eq (sv_mod.rf (l := [26, 27, 28, 29, 1046, 1047, 1100007, 1100023, 1100024, 1100025, 1053, 31, 1100030, 1100009, 1100027, 1100028, 1100026, 1055, 1100033, 39, 1066]) (S := S))
  have hb := hJ ((0 : Int), p1, S) ⟨(⟨by decide, by decide⟩ : sv_R (0 : Int)), hp1, (by rw [← eS]; exact hok), hin5⟩
  have hb : sv_T sm_XS sm_cs sm_L sm_sh ((if (S 1047 0) = 0 then (if p1 = -1 then 0 else 17 * (S 1100005 p1) + 17) + (600 - (S 1046 0)) + 9 else 5)).toNat (q_values p1 S) 101 4 [(0, .ref 0), (1, sv_I p1), (2, sv_I (0 : Int)), (3, sv_I p1)] [] S := Eq.mpr (congrArg (fun Z => sv_T sm_XS sm_cs sm_L sm_sh ((if (S 1047 0) = 0 then (if p1 = -1 then 0 else 17 * (S 1100005 p1) + 17) + (600 - (S 1046 0)) + 9 else 5)).toNat (q_values p1 S) 101 4 [(0, .ref 0), (1, sv_I p1), (2, sv_I (0 : Int)), (3, sv_I p1)] [] Z) eS) hb
  exact hb
