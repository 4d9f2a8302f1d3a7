theorem dX12_declare_0 : decode cX12_declare 0 = .ok (.iload_n 1, 1) := by decide +kernel
theorem dX12_declare_1 : decode cX12_declare 1 = .ok (.istore_n 2, 1) := by decide +kernel
theorem dX12_declare_2 : decode cX12_declare 2 = .ok (.iload_n 2, 1) := by decide +kernel
theorem dX12_declare_3 : decode cX12_declare 3 = .ok (.iconst (-1), 1) := by decide +kernel
theorem dX12_declare_4 : decode cX12_declare 4 = .ok (.if_icmp .eq 52, 3) := by decide +kernel
theorem dX12_declare_7 : decode cX12_declare 7 = .ok (.aload_n 0, 1) := by decide +kernel
theorem dX12_declare_8 : decode cX12_declare 8 = .ok (.iload_n 2, 1) := by decide +kernel
theorem dX12_declare_9 : decode cX12_declare 9 = .ok (.iconst 0, 1) := by decide +kernel
theorem dX12_declare_10 : decode cX12_declare 10 = .ok (.invokevirtual 644, 3) := by decide +kernel
theorem dX12_declare_13 : decode cX12_declare 13 = .ok (.iconst (-1), 1) := by decide +kernel
theorem dX12_declare_14 : decode cX12_declare 14 = .ok (.if_icmp .ne 6, 3) := by decide +kernel
theorem dX12_declare_17 : decode cX12_declare 17 = .ok (.goto 29, 3) := by decide +kernel
theorem dX12_declare_20 : decode cX12_declare 20 = .ok (.aload_n 0, 1) := by decide +kernel
theorem dX12_declare_21 : decode cX12_declare 21 = .ok (.aload_n 0, 1) := by decide +kernel
theorem dX12_declare_22 : decode cX12_declare 22 = .ok (.iload_n 2, 1) := by decide +kernel
theorem dX12_declare_23 : decode cX12_declare 23 = .ok (.iconst 0, 1) := by decide +kernel
theorem dX12_declare_24 : decode cX12_declare 24 = .ok (.invokevirtual 644, 3) := by decide +kernel
theorem dX12_declare_27 : decode cX12_declare 27 = .ok (.invokevirtual 668, 3) := by decide +kernel
theorem dX12_declare_30 : decode cX12_declare 30 = .ok (.aload_n 0, 1) := by decide +kernel
theorem dX12_declare_31 : decode cX12_declare 31 = .ok (.aload_n 0, 1) := by decide +kernel
theorem dX12_declare_32 : decode cX12_declare 32 = .ok (.iload_n 2, 1) := by decide +kernel
theorem dX12_declare_33 : decode cX12_declare 33 = .ok (.iconst 1, 1) := by decide +kernel
theorem dX12_declare_34 : decode cX12_declare 34 = .ok (.invokevirtual 644, 3) := by decide +kernel
theorem dX12_declare_37 : decode cX12_declare 37 = .ok (.invokevirtual 704, 3) := by decide +kernel
theorem dX12_declare_40 : decode cX12_declare 40 = .ok (.aload_n 0, 1) := by decide +kernel
theorem dX12_declare_41 : decode cX12_declare 41 = .ok (.bipush 17, 2) := by decide +kernel
theorem dX12_declare_43 : decode cX12_declare 43 = .ok (.invokevirtual 666, 3) := by decide +kernel
theorem dX12_declare_46 : decode cX12_declare 46 = .ok (.aload_n 0, 1) := by decide +kernel
theorem dX12_declare_47 : decode cX12_declare 47 = .ok (.getfield 49, 3) := by decide +kernel
theorem dX12_declare_50 : decode cX12_declare 50 = .ok (.iload_n 2, 1) := by decide +kernel
theorem dX12_declare_51 : decode cX12_declare 51 = .ok (.iaload, 1) := by decide +kernel
theorem dX12_declare_52 : decode cX12_declare 52 = .ok (.istore_n 2, 1) := by decide +kernel
theorem dX12_declare_53 : decode cX12_declare 53 = .ok (.goto (-51), 3) := by decide +kernel
theorem dX12_declare_56 : decode cX12_declare 56 = .ok (.return_, 1) := by decide +kernel

def q_declare (p1 : Int) (S : sv_S) : Option Value → sv_S → Prop := fun v S' => v = none ∧ sm_ok S' ∧ sv_mod [26, 27, 28, 29, 1046, 1047, 1100007, 1100023, 1100024, 1100025, 1053, 31, 1100030, 1100009, 1100027, 1100028, 1100026, 1055, 1100033, 39, 1066] S S' ∧ (0 ≤ (S' 1046 0) ∧ (S' 1046 0) ≤ 600 ∧ 0 ≤ (S' 1047 0) ∧ (S' 1047 0) ≤ 1 ∧ 0 ≤ (S' 1053 0) ∧ 0 ≤ (S' 1066 0) ∧ (S' 1066 0) = 0 ∧ (S 1046 0) ≤ (S' 1046 0) ∧ sm_F1 (S 26) (S' 26) (S 1046 0) ∧ sm_F1 (S 27) (S' 27) (S 1046 0) ∧ sm_F1 (S 28) (S' 28) (S 1046 0) ∧ sm_F1 (S 29) (S' 29) (S 1046 0) ∧ sm_F1 (S 1100007) (S' 1100007) ((S 1046 0) + 1) ∧ sm_F1 (S 1100023) (S' 1100023) ((S 1046 0) + 1) ∧ sm_F1 (S 1100024) (S' 1100024) ((S 1046 0) + 1) ∧ sm_F1 (S 1100025) (S' 1100025) ((S 1046 0) + 1) ∧ sm_F1 (S 1100009) (S' 1100009) (S 1053 0) ∧ sm_F1 (S 1100027) (S' 1100027) (S 1053 0) ∧ sm_F1 (S 1100028) (S' 1100028) (S 1053 0) ∧ sm_F1 (S 1100026) (S' 1100026) (S 1053 0) ∧ sm_F1 (S 1100030) (S' 1100030) (S 1053 0) ∧ sm_F1 (S 31) (S' 31) (S 1053 0) ∧ (S 1053 0) ≤ (S' 1053 0) ∧ (S' 1053 0) ≤ (S 1053 0) + 3 * (600 - (S 1046 0)) + (if p1 = -1 then 0 else (if (S' 1100002 p1) < 0 then 0 else (S' 1100002 p1))) ∧ ((S' 1047 0) = 0 → sm_KC (S' 26) (S' 27) (S' 28) (S' 29) (S' 1100007) (S' 1100023) (S' 1100024) (S' 1100025) (S' 31) (S' 1100009) (S' 1100027) (S' 1100028) (S' 1100026) (S' 1100030) (S' 21) (S' 32) (S' 33) (S' 1046 0) (S' 1053 0) (S' 1056 0) (S' 1032 0) (S' 1007 0) (S' 1100033 0) ∧ (S' 1100033 0) = (S' 1055 0) ∧ 0 ≤ (S' 1055 0) ∧ (S' 1055 0) ≤ (S' 1046 0) ∧ sm_HB (S' 1100007) 0 (S' 1046 0) ((S' 1046 0) + 170) ∧ sm_FC (S' 29) (S 1046 0) (S' 1046 0) (S' 1056 0) ∧ (S' 1100007 (S' 1046 0)) = (S 1100007 (S 1046 0)) + 0 ∧ (S' 1100023 (S' 1046 0)) = (S 1100023 (S 1046 0)) ∧ (S' 1100024 (S' 1046 0)) = (S 1100024 (S 1046 0)) ∧ (S' 1100025 (S' 1046 0)) = (S 1100025 (S 1046 0)) ∧ (S' 1100007 (S' 1100023 (S' 1046 0))) = (S 1100007 (S 1100023 (S 1046 0))) ∧ (S' 1100007 (S' 1100025 (S' 1046 0))) = (S 1100007 (S 1100025 (S 1046 0))) ∧ sm_AP (S' 1100030) (S 1053 0) (S' 1053 0) ∧ (S' 1053 0) ≤ (S 1053 0) + 3 * ((S' 1046 0) - (S 1046 0))))
theorem la_declare_0 {x0 : Int} (h0 : (-1) ≤ x0) : x0 = (-1) → x0 = (-1) := by omega
theorem la_declare_1 {x0 x1 x2 x3 x4 : Int} (h0 : 0 ≤ x0) (h1 : (-1) ≤ x1) (h2 : ¬ x1 = (-1) → 0 ≤ x1 ∧ x1 < x0 ∧ x2 = 5 ∧ x3 ≤ 20) : ¬ x1 = (-1) → x1 = (-1) ∨ 0 ≤ x1 ∧ x1 < x0 ∧ x2 = 5 ∧ x4 ≤ x4 ∧ x3 ≤ x3 := by omega
theorem la_declare_2 {x0 : Int} : x0 ≤ x0 := by omega
theorem la_declare_3 {x0 : Int} (h0 : (-1) ≤ x0) (h1 : x0 = (-1)) : ¬ ¬ x0 = (-1) := by omega
theorem la_declare_4 {x0 x1 x2 : Int} (h0 : x0 ≤ 600) (h1 : x1 = 0) : x2 ≤ x2 + 3 * (600 - x0) + x1 := by omega
theorem la_declare_5 {x0 : Int} (h0 : (-1) ≤ x0) (h1 : ¬ x0 = (-1)) : (-1) < x0 := by omega
theorem la_declare_6 {x0 x1 x2 x3 : Int} (h0 : x0 ≤ 600) (h1 : x1 = x2) (h2 : x2 = 0) : x3 ≤ x3 + 3 * (600 - x0) + x1 := by omega
theorem la_declare_7 {x0 x1 x2 x3 x4 : Int} (h0 : x0 ≤ 600) (h1 : x1 = x2) (h2 : ¬ x3 < 0) (h3 : x2 = x3) : x4 ≤ x4 + 3 * (600 - x0) + x1 := by omega
theorem la_declare_8 {x0 : Int} : x0 = x0 + 0 := by omega
theorem la_declare_9 {x0 : Int} : x0 = x0 := by omega
theorem la_declare_10 {x0 x1 : Int} : x0 ≤ x0 + 3 * (x1 - x1) := by omega
theorem la_declare_11 {x0 : Int} (h0 : x0 = 0) : 0 ≤ x0 := by omega
theorem la_declare_12 {x0 : Int} (h0 : 0 ≤ x0) : (-1) ≤ x0 := by omega
theorem la_declare_13 {x0 x1 x2 : Int} (h0 : x0 = x1 - x2) (h1 : x2 < x1) : 0 ≤ x0 := by omega
theorem la_declare_14 {x0 : Int} (h0 : x0 = 5) : ¬ x0 = 1 := by omega
theorem la_declare_15 {x0 : Int} (h0 : x0 = 5) : ¬ x0 = 2 := by omega
theorem la_declare_16 {x0 : Int} (h0 : x0 = 5) : ¬ x0 = 6 := by omega
theorem la_declare_17 {x0 : Int} (h0 : x0 = 5) : ¬ x0 = 3 := by omega
theorem la_declare_18 {x0 : Int} (h0 : x0 = 5) : 2 ≤ x0 := by omega
theorem la_declare_19 {x0 x1 : Int} (h0 : x0 ≤ 12000) (h1 : 0 ≤ x1) (h2 : x1 < x0) : 0 ≤ x1 ∧ x1 < 12000 ∧ (0 : Int) ≤ 0 ∧ (0 : Int) ≤ 4 := by omega
theorem la_declare_20 {x0 : Int} : 5 * x0 + 0 = 5 * x0 := by omega
theorem la_declare_21 {x0 x1 x2 : Int} (h0 : x0 ≤ 600) (h1 : 0 ≤ x1) (h2 : x2 = x1 + (600 - x0) + 10) : 0 + 1 ≤ x2 := by omega
theorem la_declare_22 {x0 x1 : Int} (h0 : x0 = x1) (h1 : 0 ≤ x1) : (-1) ≤ x0 := by omega
theorem la_declare_23 {x0 : Int} (h0 : x0 = 1) : ¬ x0 = 2 := by omega
theorem la_declare_24 {x0 : Int} (h0 : x0 = 1) : ¬ x0 = 6 := by omega
theorem la_declare_25 {x0 : Int} (h0 : x0 = 1) : ¬ x0 = 3 := by omega
theorem la_declare_26 {x0 x1 x2 : Int} (h0 : x0 ≤ x1) (h1 : x2 ≤ x0) (h2 : 0 ≤ x2) : ¬ x1 < 0 := by omega
theorem la_declare_27 {x0 : Int} (h0 : (-1) < x0) : 0 ≤ x0 := by omega
theorem la_declare_28 {x0 x1 x2 : Int} (h0 : x0 = x1) (h1 : x1 < x2) : x0 < x2 := by omega
theorem la_declare_29 {x0 x1 : Int} (h0 : x0 = 1) (h1 : x1 = x0) : x1 = 1 := by omega
theorem la_declare_30 {x0 x1 x2 x3 x4 x5 : Int} (h0 : 0 ≤ x0 → x1 ≤ x2) (h1 : x3 = x2 + 0) (h2 : x4 = x0) (h3 : x5 = x1) : 0 ≤ x4 → x5 ≤ x3 := by omega
theorem la_declare_31 {x0 x1 x2 x3 x4 : Int} (h0 : 0 ≤ x0) (h1 : 3 * x1 + x0 ≤ x2) (h2 : 0 ≤ x3) (h3 : x2 ≤ x3) (h4 : x4 = x1 + 0) : x4 ≤ x3 := by omega
theorem la_declare_32 {x0 x1 x2 : Int} (h0 : x0 < x1) (h1 : x2 = x0) : x2 < x1 + 1 := by omega
theorem la_declare_33 {x0 x1 x2 x3 x4 x5 x6 x7 x8 x9 : Int} (h0 : x0 + 3 * (600 - x1) + x2 ≤ 8000) (h1 : x2 = x3) (h2 : x4 ≤ x5) (h3 : x5 ≤ x3) (h4 : x6 = x7) (h5 : x8 ≤ x0 + 3 * (x9 - x1)) (h6 : x7 ≤ x4) : x8 + 3 * (600 - x9) + x6 ≤ 8000 := by omega
theorem la_declare_34 {x0 x1 x2 x3 : Int} (h0 : x0 ≤ 600) (h1 : x1 = x2) (h2 : 0 ≤ x2) (h3 : x3 = x1 + (600 - x0) + 8) : 0 ≤ x3 := by omega
theorem la_declare_35 {x0 : Int} (h0 : 0 ≤ x0) (h1 : ¬ x0 = 0) : 0 < x0 := by omega
theorem la_declare_36 {x0 : Int} (h0 : x0 = 4) : 0 ≤ x0 := by omega
theorem la_declare_37 {x0 x1 x2 x3 x4 x5 x6 x7 x8 : Int} (h0 : x0 ≤ x1) (h1 : x2 ≤ x3) (h2 : x3 ≤ x4) (h3 : x5 = x6) (h4 : x6 ≤ x2) (h5 : x7 = x4 + (600 - x0) + 10) (h6 : x8 = x5 + (600 - x1) + 8) : x8 + 1 ≤ x7 := by omega
theorem la_declare_38 {x0 x1 x2 x3 : Int} (h0 : x0 ≤ 600) (h1 : 0 ≤ x1) (h2 : x2 = x1 + (600 - x0) + 10) (h3 : x3 = 4) : x3 + 1 ≤ x2 := by omega
theorem la_declare_39 {x0 x1 : Int} (h0 : x0 ≤ 12000) (h1 : 0 ≤ x1) (h2 : x1 < x0) : 0 ≤ x1 ∧ x1 < 12000 ∧ (0 : Int) ≤ 1 ∧ (1 : Int) ≤ 4 := by omega
theorem la_declare_40 : (2 : Int) = 1 ∧ ((4 : Int) = 3 ∨ (4 : Int) = 5) ∨ (2 : Int) = 2 ∧ (4 : Int) = 4 := by omega
theorem la_declare_41 {x0 : Int} (h0 : x0 = 0) : ¬ x0 = 1 := by omega
theorem la_declare_42 {x0 : Int} (h0 : x0 ≤ 1) (h1 : ¬ x0 = 1) : x0 < 1 := by omega
theorem la_declare_43 {x0 x1 x2 x3 x4 : Int} : (2 : Int) = 1 → (0 ≤ x0 → x1 ≤ x2) ∧ (0 ≤ x3 → x4 ≤ x2) := by omega
theorem la_declare_44 {x0 x1 : Int} (h0 : x0 = x1 + 1) (h1 : 0 ≤ x1) : 1 ≤ x0 := by omega
theorem la_declare_45 {x0 x1 x2 x3 x4 x5 x6 x7 x8 : Int} (h0 : 0 ≤ x0 → x1 ≤ x2) (h1 : x3 = x4 + 1) (h2 : x5 = x6) (h3 : x7 = x8) (h4 : x4 = x2 + 0) (h5 : x6 = x0) (h6 : x8 = x1) : 0 ≤ x5 → x7 ≤ x3 - 1 := by omega
theorem la_declare_46 {x0 x1 x2 : Int} (h0 : x0 = x1) (h1 : x1 = x2) (h2 : 0 ≤ x0) : 0 ≤ x2 := by omega
theorem la_declare_47 {x0 x1 x2 x3 x4 x5 : Int} (h0 : x0 = x1 + 1) (h1 : x2 = x3) (h2 : x1 = x4 + 0) (h3 : x3 = x5) (h4 : x5 ≤ x4) : x2 ≤ x0 - 1 := by omega
theorem la_declare_48 {x0 x1 x2 : Int} (h0 : x0 ≤ 600) (h1 : 0 ≤ x1) (h2 : x2 = x1 + (600 - x0) + 10) : 2 + 1 ≤ x2 := by omega
theorem la_declare_49 : ¬ (2 : Int) = 1 := by omega
theorem la_declare_50 {x0 : Int} (h0 : 1 ≤ x0) : 0 ≤ x0 := by omega
theorem la_declare_51 : (0 : Int) ≤ 17 := by omega
theorem la_declare_52 : (17 : Int) ≤ 30 := by omega
theorem la_declare_53 {x0 x1 x2 x3 x4 x5 x6 x7 x8 x9 x10 x11 x12 x13 x14 x15 x16 x17 x18 x19 x20 x21 x22 x23 x24 : Int} (h0 : 0 ≤ x0 → x1 ≤ x2) (h1 : 0 ≤ x3 → x4 ≤ x2) (h2 : 0 ≤ x5) (h3 : x5 = 0) (h4 : x6 = x7 + x5) (h5 : x8 = x9) (h6 : x10 = x11) (h7 : x12 = x13) (h8 : x14 = x15) (h9 : x7 = x16 + 1) (h10 : x9 = x17) (h11 : x11 = x18) (h12 : x13 = x19) (h13 : x15 = x20) (h14 : 0 ≤ x16) (h15 : x16 = x2 + 0) (h16 : x17 = x0) (h17 : x18 = x3) (h18 : x19 = x1) (h19 : x20 = x4) (h20 : x21 = (-1)) (h21 : x22 = x8) (h22 : (0 ≤ x10 → x14 < x6) → x23 = x10) : 1 ≤ x6 ∧ (0 ≤ x8 → x12 ≤ x6 - 1) ∧ (0 ≤ x10 ∧ x14 = x6 ∧ x6 + x21 = x6 - 1 ∧ x22 = x8 ∧ x23 = x24 ∨ (0 ≤ x10 → x14 ≤ x6 - 1) ∧ x6 + x21 = x6 - 1 ∧ x22 = x8 ∧ x23 = x10) := by omega
theorem la_declare_54 {x0 x1 x2 : Int} : (21 : Int) ≤ 17 ∧ (17 : Int) ≤ 24 ∨ (17 : Int) = 27 ∨ (17 : Int) = 30 → (0 : Int) ≤ 0 ∧ 0 < x0 ∧ x1 = x2 := by omega
theorem la_declare_55 : ¬ (17 : Int) = 1 := by omega
theorem la_declare_56 {x0 x1 : Int} (h0 : (17 : Int) = 2) : x0 < x1 + 1 := by omega
theorem la_declare_57 {x0 : Int} (h0 : (17 : Int) = 2) : x0 < x0 := by omega
theorem la_declare_58 {x0 x1 : Int} (h0 : (17 : Int) = 2) : x0 < x1 := by omega
theorem la_declare_59 {x0 : Int} (h0 : (17 : Int) = 2) : x0 < 0 := by omega
theorem la_declare_60 {x0 : Int} (h0 : (17 : Int) = 2) : 0 ≤ x0 := by omega
theorem la_declare_61 {x0 : Int} (h0 : (17 : Int) = 2) : ¬ x0 = (-1) := by omega
theorem la_declare_62 {x0 : Int} (h0 : (17 : Int) = 2) : x0 ≤ (-1) := by omega
theorem la_declare_63 {x0 : Int} (h0 : x0 ≤ (-1)) (h1 : ¬ x0 = (-1)) : x0 < (-1) := by omega
theorem la_declare_64 {x0 : Int} (h0 : (17 : Int) = 2) : ¬ x0 = 2 := by omega
theorem la_declare_65 {x0 x1 x2 : Int} (h0 : (17 : Int) = 2) : 0 ≤ x0 → x1 < x2 := by omega
theorem la_declare_66 {x0 : Int} (h0 : (17 : Int) = 2) : x0 = 3 ∨ x0 = 6 := by omega
theorem la_declare_67 {x0 : Int} (h0 : (17 : Int) = 2) : x0 = 6 := by omega
theorem la_declare_68 {x0 : Int} (h0 : (17 : Int) = 2) : x0 = 2 := by omega
theorem la_declare_69 {x0 : Int} (h0 : (17 : Int) = 2) : x0 = 3 := by omega
theorem la_declare_70 {x0 : Int} (h0 : (17 : Int) = 2) : x0 = 4 ∨ x0 = 5 ∨ x0 = 8 ∨ x0 = 9 := by omega
theorem la_declare_71 {x0 : Int} (h0 : (17 : Int) = 2) : x0 = 33 := by omega
theorem la_declare_72 {x0 : Int} (h0 : (17 : Int) = 2) : x0 = (-1) := by omega
theorem la_declare_73 {x0 x1 : Int} (h0 : (17 : Int) = 2) : x0 = x1 := by omega
theorem la_declare_74 {x0 x1 : Int} (h0 : (17 : Int) = 2) : 5 * x0 + 1 = 5 * x1 := by omega
theorem la_declare_75 {x0 x1 : Int} (h0 : (17 : Int) = 2) : 5 * x0 + 0 = 5 * x1 + 1 := by omega
theorem la_declare_76 {x0 : Int} (h0 : (17 : Int) = 2) : 5 * x0 + 1 = 5 * x0 := by omega
theorem la_declare_77 {x0 x1 : Int} (h0 : (17 : Int) = 2) : 5 * x0 + 1 = 5 * x1 + 1 := by omega
theorem la_declare_78 {x0 : Int} (h0 : (17 : Int) = 2) : 5 * x0 + 1 = 5 * x0 + 0 := by omega
theorem la_declare_79 (h0 : (17 : Int) = 2) : False := by omega
theorem la_declare_80 {x0 x1 x2 : Int} (h0 : x0 ≤ 600) (h1 : 0 ≤ x1) (h2 : x2 = x1 + (600 - x0) + 10) : 1 + 1 ≤ x2 := by omega
theorem la_declare_81 {x0 x1 : Int} (h0 : x0 ≤ 12000) (h1 : 0 ≤ x1) (h2 : x1 < x0) : 0 ≤ x1 ∧ x1 < 12000 := by omega
theorem la_declare_82 {x0 x1 : Int} (h0 : 0 ≤ x0) : x0 = (-1) → x1 = (-1) := by omega
theorem la_declare_83 {x0 x1 x2 x3 x4 x5 x6 x7 x8 x9 x10 x11 x12 x13 x14 x15 : Int} (h0 : 0 ≤ x0) (h1 : x0 < x1) (h2 : (-1) < x0) (h3 : 0 ≤ x2) (h4 : x3 = 5) (h5 : x4 ≤ x5) (h6 : x6 ≤ x7) (h7 : x8 = (-1) ∨ x2 < x8 ∧ x8 < x1 ∧ x9 = x3 ∧ x10 ≤ x4 ∧ x11 ≤ x6 ∧ x12 ≤ x13 ∧ x14 ≤ x15 ∧ (x3 = 3 ∨ x3 = 6 → x10 < x4) ∧ (x3 = 6 → x15 = 2 → x14 < 2)) : ¬ x0 = (-1) → x8 = (-1) ∨ 0 ≤ x8 ∧ x8 < x1 ∧ x9 = 5 ∧ x10 ≤ x5 ∧ x11 ≤ x7 := by omega
theorem la_declare_84 {x0 x1 : Int} (h0 : x0 = 0) (h1 : 0 ≤ x1) (h2 : x1 = x0) : x1 = 0 := by omega
theorem la_declare_85 {x0 x1 x2 x3 x4 : Int} (h0 : x0 ≤ x1) (h1 : x1 ≤ x2) (h2 : x2 ≤ x3) (h3 : x3 ≤ x4) : x0 ≤ x4 := by omega
theorem la_declare_86 {x0 x1 x2 x3 : Int} (h0 : x0 ≤ x1) (h1 : x1 ≤ x2) (h2 : x2 ≤ x3) : x0 ≤ x3 := by omega
theorem la_declare_87 {x0 x1 x2 : Int} (h0 : x0 ≤ x1) (h1 : x1 ≤ x2) : x0 ≤ x2 := by omega
theorem la_declare_88 {x0 x1 x2 x3 : Int} (h0 : x0 ≤ x1) (h1 : x1 ≤ x2) (h2 : x2 ≤ x3) : x0 + 1 ≤ x3 + 1 := by omega
theorem la_declare_89 {x0 x1 x2 : Int} (h0 : x0 ≤ x1) (h1 : x1 ≤ x2) : x0 + 1 ≤ x2 + 1 := by omega
theorem la_declare_90 {x0 x1 : Int} (h0 : x0 ≤ x1) : x0 + 1 ≤ x1 + 1 := by omega
theorem la_declare_91 {x0 : Int} (h0 : x0 = 1) : ¬ x0 = 0 := by omega
theorem la_declare_92 {x0 x1 x2 x3 x4 : Int} (h0 : x0 ≤ x1 + 3 * (600 - x2) + x3) (h1 : x4 = x0) : x4 ≤ x1 + 3 * (600 - x2) + x3 := by omega
theorem la_declare_93 {x0 : Int} (h0 : 0 ≤ x0) (h1 : x0 < 1) : x0 = 0 := by omega
theorem la_declare_94 {x0 x1 x2 x3 x4 x5 x6 x7 x8 x9 x10 : Int} (h0 : x0 = x1) (h1 : x2 ≤ x3) (h2 : x4 = x5) (h3 : x5 ≤ x2) (h4 : x1 = x3) (h5 : x6 ≤ x7 + 3 * (x8 - x9)) (h6 : x10 ≤ x6 + 3 * (600 - x8) + x4) : x10 ≤ x7 + 3 * (600 - x9) + x0 := by omega
theorem la_declare_95 : ¬ (17 : Int) = 29 := by omega
theorem la_declare_96 : (17 : Int) = 17 := by omega
theorem la_declare_97 {x0 x1 x2 x3 : Int} (h0 : x0 = x1 + 1) (h1 : x1 = x2 + 1) (h2 : x3 ≤ x2) : x3 ≤ x0 := by omega
theorem la_declare_98 {x0 : Int} (h0 : 1 ≤ x0) : 0 < x0 + 1 := by omega
theorem la_declare_99 {x0 x1 : Int} (h0 : 0 ≤ x0) (h1 : x0 + 1 ≤ x1) : 0 < x1 + 1 := by omega
theorem la_declare_100 {x0 : Int} (h0 : 0 ≤ x0) : 0 < x0 + 1 := by omega
theorem la_declare_101 {x0 x1 x2 x3 : Int} (h0 : x0 = x1 + 1) (h1 : x1 = x2 + 1) (h2 : x3 + 1 ≤ x2) : x3 + 170 ≤ x0 + 170 := by omega
theorem la_declare_102 {x0 x1 x2 : Int} (h0 : x0 = x1 + 1) (h1 : x2 + 1 ≤ x1) : x2 ≤ x0 + 1 := by omega
theorem la_declare_103 {x0 x1 : Int} (h0 : x0 + 1 ≤ x1) : x0 ≤ x1 + 1 := by omega
theorem la_declare_104 {x0 : Int} : x0 ≤ x0 + 1 := by omega
theorem la_declare_105 {x0 x1 x2 : Int} (h0 : x0 = x1 + 1) (h1 : x2 + 1 ≤ x1) : x2 < x0 + 1 := by omega
theorem la_declare_106 {x0 x1 : Int} (h0 : x0 + 1 ≤ x1) : x0 < x1 + 1 := by omega
theorem la_declare_107 {x0 : Int} : x0 < x0 + 1 := by omega
theorem la_declare_108 {x0 x1 x2 x3 x4 x5 x6 x7 x8 : Int} (h0 : 0 ≤ x0) (h1 : 3 * x1 + x0 ≤ x2) (h2 : x2 ≤ x3) (h3 : x4 = x5 + 1) (h4 : x5 = x6 + 1) (h5 : x7 ≤ x6 + 2) (h6 : x3 + 1 ≤ x6) (h7 : x7 = x8 + 1) (h8 : x8 = x1 + 0) : 2 * x8 ≤ x4 + 170 := by omega
theorem la_declare_109 {x0 x1 x2 : Int} (h0 : x0 = x1 + 1) (h1 : x2 + 1 ≤ x1) : x2 + 1 < x0 + 1 := by omega
theorem la_declare_110 {x0 x1 : Int} (h0 : x0 + 1 ≤ x1) : x0 + 1 < x1 + 1 := by omega
theorem la_declare_111 {x0 : Int} (h0 : 0 ≤ x0) : 0 ≤ x0 + 1 := by omega
theorem la_declare_112 {x0 x1 x2 : Int} (h0 : x0 = x1) (h1 : x1 < x2) : x0 < x2 + 1 := by omega
theorem la_declare_113 {x0 x1 x2 x3 x4 x5 : Int} (h0 : x0 = x1) (h1 : x1 = x2) (h2 : x3 = x4 + 1) (h3 : x2 = x5) (h4 : x5 < x4) : x0 < x3 + 1 := by omega
theorem la_declare_114 {x0 x1 x2 : Int} (h0 : x0 ≤ x1 + 1) (h1 : x2 < x0) : x2 < x1 + 1 := by omega
theorem la_declare_115 {x0 x1 x2 x3 : Int} (h0 : x0 < x1) (h1 : x2 = x3) (h2 : x3 = x0) : x2 < x1 + 1 := by omega
theorem la_declare_116 {x0 x1 x2 x3 : Int} (h0 : x0 = x1) (h1 : x1 = x2) (h2 : x2 < x3) : x0 < x3 + 1 := by omega
theorem la_declare_117 {x0 x1 x2 x3 x4 x5 x6 : Int} (h0 : x0 = x1) (h1 : x1 = x2) (h2 : x2 = x3) (h3 : x4 + 1 ≤ x5) (h4 : x3 = x6) (h5 : x6 < x4) : x0 < x5 + 1 := by omega
theorem la_declare_118 {x0 x1 x2 x3 x4 : Int} (h0 : x0 < x1) (h1 : x2 = x3) (h2 : x3 = x4) (h3 : x4 = x0) : x2 < x1 + 1 := by omega
theorem la_declare_119 {x0 x1 x2 x3 x4 x5 : Int} (h0 : x0 = x1) (h1 : x1 = x2) (h2 : x2 = x3) (h3 : x3 = x4) (h4 : x4 < x5) : x0 < x5 + 1 := by omega
theorem la_declare_120 {x0 x1 x2 : Int} (h0 : x0 = x1) (h1 : x1 = x2) : x0 = x2 := by omega
theorem la_declare_121 {x0 x1 x2 x3 : Int} (h0 : x0 = x1) (h1 : x1 = x2) (h2 : x2 = x3) : x0 = x3 := by omega
theorem la_declare_122 {x0 x1 x2 x3 x4 : Int} (h0 : x0 = x1) (h1 : x1 = x2) (h2 : x2 = x3) (h3 : x3 = x4) : x0 = x4 := by omega
theorem la_declare_123 {x0 x1 x2 x3 x4 x5 x6 x7 x8 x9 x10 x11 x12 x13 x14 : Int} (h0 : 0 ≤ x0 → x1 ≤ x2) (h1 : 0 ≤ x3) (h2 : x3 = 0) (h3 : (-1) ≤ x4) (h4 : x4 = x5) (h5 : (0 ≤ x6 → x7 < x8) → x5 = x6) (h6 : x8 = x9 + x3) (h7 : x6 = x10) (h8 : x7 = x11) (h9 : x9 = x12 + 1) (h10 : x10 = x13) (h11 : x11 = x14) (h12 : x12 = x2 + 0) (h13 : x13 = x0) (h14 : x14 = x1) : x4 = x6 := by omega
theorem la_declare_124 {x0 x1 x2 x3 x4 x5 x6 x7 x8 x9 x10 x11 : Int} (h0 : 0 ≤ x0) (h1 : 3 * x1 + x0 ≤ x2) (h2 : 0 ≤ x3) (h3 : x2 ≤ x3) (h4 : x4 ≤ 20) (h5 : x5 ≤ x4) (h6 : x6 = x7) (h7 : x8 = x9 + 1) (h8 : x9 = x10 + 1) (h9 : x11 = x1 + 0) (h10 : x7 ≤ x5) : 2 * x11 + (x10 - x3) + 8 * x6 + 10 ≤ x8 + 170 := by omega
theorem la_declare_125 {x0 x1 : Int} (h0 : x0 = x1 + 1) : x1 ≤ x0 + 1 := by omega
theorem la_declare_126 {x0 x1 : Int} (h0 : x0 = x1 + 1) : x1 < x0 + 1 := by omega
theorem la_declare_127 {x0 x1 x2 x3 x4 x5 x6 x7 x8 : Int} (h0 : 0 ≤ x0) (h1 : 3 * x1 + x0 ≤ x2) (h2 : x2 ≤ x3) (h3 : x4 = x5 + 1) (h4 : x5 = x6 + 1) (h5 : x7 ≤ x6 + 2) (h6 : x3 + 1 ≤ x6) (h7 : x7 = x8 + 1) (h8 : x8 = x1 + 0) : 2 * x7 ≤ x4 + 170 := by omega
theorem la_declare_128 {x0 x1 : Int} (h0 : x0 = x1 + 1) : x1 + 1 < x0 + 1 := by omega
theorem la_declare_129 {x0 x1 : Int} (h0 : x0 ≤ x1 + 1) (h1 : x0 = x1 + 1) : x1 + 1 = x0 := by omega
theorem la_declare_130 {x0 x1 x2 x3 x4 x5 x6 x7 x8 x9 x10 : Int} (h0 : 0 ≤ x0) (h1 : 3 * x1 + x0 ≤ x2) (h2 : x2 ≤ x3) (h3 : x4 = 0) (h4 : x5 = x6 + 1) (h5 : x6 = x7 + 1) (h6 : x8 ≤ x6 + 2) (h7 : x8 = x9 + x4) (h8 : x3 + 1 ≤ x7) (h9 : x9 = x10 + 1) (h10 : x10 = x1 + 0) : 2 * (x9 + x4) ≤ x5 + 170 := by omega
theorem la_declare_131 {x0 x1 x2 : Int} (h0 : x0 ≤ x1 + 1) (h1 : x2 ≤ x0 + 1) : x2 ≤ x1 + 1 + 1 := by omega
theorem la_declare_132 {x0 x1 x2 x3 : Int} (h0 : x0 ≤ x1) (h1 : x2 = x3 + 1) (h2 : x1 + 1 ≤ x3) : x0 < x2 := by omega
theorem la_declare_133 {x0 x1 x2 : Int} (h0 : x0 ≤ x1) (h1 : x1 + 1 ≤ x2) : x0 < x2 := by omega
theorem la_declare_134 {x0 x1 x2 : Int} (h0 : x0 = x1 + 1) (h1 : x2 + 1 ≤ x1) : x2 ≤ x0 := by omega
theorem la_declare_135 {x0 x1 x2 : Int} (h0 : x0 = x1 + 1) (h1 : x2 + 1 ≤ x1) : x2 < x0 := by omega
theorem la_declare_136 {x0 x1 : Int} (h0 : x0 + 1 ≤ x1) : x0 < x1 := by omega
theorem la_declare_137 {x0 x1 : Int} (h0 : x0 = x1 + 1) : x1 < x0 := by omega
theorem la_declare_138 {x0 x1 x2 x3 x4 x5 x6 : Int} (h0 : x0 = 0) (h1 : x1 = x2 + x3) (h2 : x3 = (-1)) (h3 : x2 = x4 + x0) (h4 : x4 = x5 + 1) (h5 : x5 = x6 + 0) : x1 = x6 + 0 := by omega
theorem la_declare_139 {x0 x1 x2 x3 x4 x5 : Int} (h0 : x0 = x1) (h1 : x1 = x2) (h2 : x2 = x3) (h3 : x3 = x4) (h4 : x4 = x5) : x0 = x5 := by omega
theorem la_declare_140 {x0 x1 x2 x3 x4 x5 x6 x7 x8 x9 x10 x11 x12 x13 x14 : Int} (h0 : 0 ≤ x0 → x1 ≤ x2) (h1 : 0 ≤ x3) (h2 : (-1) ≤ x4) (h3 : x4 = x5) (h4 : (0 ≤ x6 → x7 < x8) → x5 = x6) (h5 : x8 = x9 + x3) (h6 : x6 = x10) (h7 : x7 = x11) (h8 : x9 = x12 + 1) (h9 : x10 = x13) (h10 : x11 = x14) (h11 : x12 = x2 + 0) (h12 : x13 = x0) (h13 : x14 = x1) : x4 = x0 := by omega
theorem la_declare_141 {x0 x1 x2 x3 x4 x5 : Int} (h0 : x0 = x1) (h1 : x1 = x2) (h2 : x2 = x3) (h3 : x4 = x5) (h4 : x5 = x0) : x4 = x3 := by omega
theorem la_declare_142 {x0 x1 x2 x3 x4 x5 x6 x7 : Int} (h0 : x0 = x1 + 1) (h1 : x1 = x2 + 1) (h2 : x3 ≤ x4 + 3 * (x2 - x5)) (h3 : x4 ≤ x6 + 3 * (x5 - x7)) : x3 ≤ x6 + 3 * (x0 - x7) := by omega
theorem la_declare_143 {x0 x1 x2 x3 x4 x5 x6 x7 x8 x9 x10 x11 x12 : Int} (h0 : 0 ≤ x0) (h1 : x1 = 5) (h2 : (-1) < x0) (h3 : x2 = (-1)) : ¬ (x0 < x2 ∧ x2 < x3 ∧ x4 = x1 ∧ x5 ≤ x6 ∧ x7 ≤ x8 ∧ x9 ≤ x10 ∧ x11 ≤ x12 ∧ (x1 = 3 ∨ x1 = 6 → x5 < x6) ∧ (x1 = 6 → x12 = 2 → x11 < 2)) := by omega
theorem la_declare_144 {x0 x1 x2 x3 : Int} (h0 : x0 < x1) (h1 : x2 = x1 - x0) (h2 : x3 = 0) : x3 < x2 := by omega
theorem la_declare_145 {x0 x1 : Int} (h0 : 0 ≤ x0) (h1 : x0 < x1) : (-1) ≤ x1 := by omega
theorem la_declare_146 {x0 : Int} (h0 : x0 = 5) : ¬ (x0 = 3 ∨ x0 = 6) := by omega
theorem la_declare_147 {x0 x1 x2 x3 x4 : Int} (h0 : x0 = x1 - x2) (h1 : x3 = x1 - x4) (h2 : x2 < x4) : x3 < x0 := by omega
theorem la_declare_148 {x0 x1 : Int} (h0 : x0 = x1) (h1 : ¬ ¬ x0 = (-1)) : ¬ 0 ≤ x1 := by omega
theorem la_declare_149 {x0 x1 : Int} (h0 : x0 ≤ 12000) (h1 : x1 < x0) (h2 : (-1) < x1) : 0 ≤ x1 ∧ x1 < 12000 := by omega
theorem la_declare_150 {x0 x1 x2 x3 x4 x5 x6 x7 x8 x9 x10 x11 x12 x13 x14 x15 : Int} (h0 : 0 ≤ x0) (h1 : x0 < x1) (h2 : (-1) < x0) (h3 : 0 ≤ x2) (h4 : x2 < x1) (h5 : x3 = 5) (h6 : x4 ≤ x5) (h7 : x6 ≤ x7) (h8 : (-1) < x2) (h9 : x8 = (-1) ∨ x2 < x8 ∧ x8 < x1 ∧ x9 = x3 ∧ x10 ≤ x4 ∧ x11 ≤ x6 ∧ x12 ≤ x13 ∧ x14 ≤ x15 ∧ (x3 = 3 ∨ x3 = 6 → x10 < x4) ∧ (x3 = 6 → x15 = 2 → x14 < 2)) : ¬ x0 = (-1) → x8 = (-1) ∨ 0 ≤ x8 ∧ x8 < x1 ∧ x9 = 5 ∧ x10 ≤ x5 ∧ x11 ≤ x7 := by omega
set_option maxHeartbeats 16000000 in
theorem f_declare : ∀ (p1 : Int) (S : sv_S), sm_ok S → sv_R p1 → (sm_WF (S 11) (S 12) (S 13) (S 1100001) (S 1100002) (S 1100005) (S 1100003) (S 1100004) (S 1024 0) (S 1007 0) (S 1009 0) (sm_fn (S 1032 0) (S 21) (S 1056 0)) ∧ (S 1009 0) = 0 ∧ 0 ≤ (S 1007 0) ∧ (S 1007 0) ≤ 90 ∧ 0 ≤ (S 1024 0) ∧ (S 1024 0) ≤ 12000 ∧ 1 ≤ (S 1032 0) ∧ (S 1032 0) ≤ 11 ∧ 0 ≤ (S 1056 0) ∧ (S 1056 0) < (S 1032 0) ∧ sm_VB (S 33) (S 21) (S 1032 0) ∧ 0 ≤ (S 1046 0) ∧ (S 1046 0) ≤ 600 ∧ 0 ≤ (S 1047 0) ∧ (S 1047 0) ≤ 1 ∧ 0 ≤ (S 1053 0) ∧ 0 ≤ (S 1066 0) ∧ (S 1066 0) = 0 ∧ (S 1047 0) = 0 ∧ -1 ≤ p1 ∧ (¬ p1 = -1 → 0 ≤ p1 ∧ p1 < (S 1024 0) ∧ (S 1100001 p1) = 5 ∧ (S 1100005 p1) ≤ 20) ∧ sm_KC (S 26) (S 27) (S 28) (S 29) (S 1100007) (S 1100023) (S 1100024) (S 1100025) (S 31) (S 1100009) (S 1100027) (S 1100028) (S 1100026) (S 1100030) (S 21) (S 32) (S 33) (S 1046 0) (S 1053 0) (S 1056 0) (S 1032 0) (S 1007 0) (S 1100033 0) ∧ (S 1100033 0) = (S 1055 0) ∧ 0 ≤ (S 1055 0) ∧ (S 1055 0) ≤ (S 1046 0) ∧ sm_HB (S 1100007) 0 (S 1046 0) ((S 1046 0) + 170) ∧ (0 ≤ (S 1100023 (S 1046 0)) → (S 1100007 (S 1100023 (S 1046 0))) ≤ (S 1100007 (S 1046 0))) ∧ (0 ≤ (S 1100025 (S 1046 0)) → (S 1100007 (S 1100025 (S 1046 0))) ≤ (S 1100007 (S 1046 0))) ∧ 3 * (S 1100007 (S 1046 0)) + (S 1100024 (S 1046 0)) ≤ (S 1046 0) ∧ (S 1053 0) + 3 * (600 - (S 1046 0)) + (if p1 = -1 then 0 else (if (S 1100002 p1) < 0 then 0 else (S 1100002 p1))) ≤ 8000) → (((p1 = -1 → p1 = -1) ∧ (¬ p1 = -1 → (p1 = -1 ∨ (0 ≤ p1 ∧ p1 < (S 1024 0) ∧ (S 1100001 p1) = 5 ∧ (S 1100002 p1) ≤ (S 1100002 p1) ∧ (S 1100005 p1) ≤ (S 1100005 p1)))) ∧ 0 ≤ (S 1046 0) ∧ (S 1046 0) ≤ 600 ∧ 0 ≤ (S 1047 0) ∧ (S 1047 0) ≤ 1 ∧ 0 ≤ (S 1053 0) ∧ 0 ≤ (S 1066 0) ∧ (S 1066 0) = 0 ∧ (S 1046 0) ≤ (S 1046 0) ∧ sm_F1 (S 26) (S 26) (S 1046 0) ∧ sm_F1 (S 27) (S 27) (S 1046 0) ∧ sm_F1 (S 28) (S 28) (S 1046 0) ∧ sm_F1 (S 29) (S 29) (S 1046 0) ∧ sm_F1 (S 1100007) (S 1100007) ((S 1046 0) + 1) ∧ sm_F1 (S 1100023) (S 1100023) ((S 1046 0) + 1) ∧ sm_F1 (S 1100024) (S 1100024) ((S 1046 0) + 1) ∧ sm_F1 (S 1100025) (S 1100025) ((S 1046 0) + 1) ∧ sm_F1 (S 1100009) (S 1100009) (S 1053 0) ∧ sm_F1 (S 1100027) (S 1100027) (S 1053 0) ∧ sm_F1 (S 1100028) (S 1100028) (S 1053 0) ∧ sm_F1 (S 1100026) (S 1100026) (S 1053 0) ∧ sm_F1 (S 1100030) (S 1100030) (S 1053 0) ∧ sm_F1 (S 31) (S 31) (S 1053 0) ∧ (S 1053 0) ≤ (S 1053 0) ∧ (S 1053 0) ≤ (S 1053 0) + 3 * (600 - (S 1046 0)) + (if p1 = -1 then 0 else (if (S 1100002 p1) < 0 then 0 else (S 1100002 p1))) ∧ ((S 1047 0) = 0 → sm_KC (S 26) (S 27) (S 28) (S 29) (S 1100007) (S 1100023) (S 1100024) (S 1100025) (S 31) (S 1100009) (S 1100027) (S 1100028) (S 1100026) (S 1100030) (S 21) (S 32) (S 33) (S 1046 0) (S 1053 0) (S 1056 0) (S 1032 0) (S 1007 0) (S 1100033 0) ∧ (S 1100033 0) = (S 1055 0) ∧ 0 ≤ (S 1055 0) ∧ (S 1055 0) ≤ (S 1046 0) ∧ sm_HB (S 1100007) 0 (S 1046 0) ((S 1046 0) + 170) ∧ sm_FC (S 29) (S 1046 0) (S 1046 0) (S 1056 0) ∧ (S 1100007 (S 1046 0)) = (S 1100007 (S 1046 0)) + 0 ∧ (S 1100023 (S 1046 0)) = (S 1100023 (S 1046 0)) ∧ (S 1100024 (S 1046 0)) = (S 1100024 (S 1046 0)) ∧ (S 1100025 (S 1046 0)) = (S 1100025 (S 1046 0)) ∧ (S 1100007 (S 1100023 (S 1046 0))) = (S 1100007 (S 1100023 (S 1046 0))) ∧ (S 1100007 (S 1100025 (S 1046 0))) = (S 1100007 (S 1100025 (S 1046 0))) ∧ sm_AP (S 1100030) (S 1053 0) (S 1053 0) ∧ (S 1053 0) ≤ (S 1053 0) + 3 * ((S 1046 0) - (S 1046 0)))) ∧ (∀ l2_2 : Int, sv_R l2_2 → ∀ g1 : sv_S, ((p1 = -1 → l2_2 = -1) ∧ (¬ p1 = -1 → (l2_2 = -1 ∨ (0 ≤ l2_2 ∧ l2_2 < (S 1024 0) ∧ (S 1100001 l2_2) = 5 ∧ (S 1100002 l2_2) ≤ (S 1100002 p1) ∧ (S 1100005 l2_2) ≤ (S 1100005 p1)))) ∧ 0 ≤ (g1 1046 0) ∧ (g1 1046 0) ≤ 600 ∧ 0 ≤ (g1 1047 0) ∧ (g1 1047 0) ≤ 1 ∧ 0 ≤ (g1 1053 0) ∧ 0 ≤ (g1 1066 0) ∧ (g1 1066 0) = 0 ∧ (S 1046 0) ≤ (g1 1046 0) ∧ sm_F1 (S 26) (g1 26) (S 1046 0) ∧ sm_F1 (S 27) (g1 27) (S 1046 0) ∧ sm_F1 (S 28) (g1 28) (S 1046 0) ∧ sm_F1 (S 29) (g1 29) (S 1046 0) ∧ sm_F1 (S 1100007) (g1 1100007) ((S 1046 0) + 1) ∧ sm_F1 (S 1100023) (g1 1100023) ((S 1046 0) + 1) ∧ sm_F1 (S 1100024) (g1 1100024) ((S 1046 0) + 1) ∧ sm_F1 (S 1100025) (g1 1100025) ((S 1046 0) + 1) ∧ sm_F1 (S 1100009) (g1 1100009) (S 1053 0) ∧ sm_F1 (S 1100027) (g1 1100027) (S 1053 0) ∧ sm_F1 (S 1100028) (g1 1100028) (S 1053 0) ∧ sm_F1 (S 1100026) (g1 1100026) (S 1053 0) ∧ sm_F1 (S 1100030) (g1 1100030) (S 1053 0) ∧ sm_F1 (S 31) (g1 31) (S 1053 0) ∧ (S 1053 0) ≤ (g1 1053 0) ∧ (g1 1053 0) ≤ (S 1053 0) + 3 * (600 - (S 1046 0)) + (if p1 = -1 then 0 else (if (S 1100002 p1) < 0 then 0 else (S 1100002 p1))) ∧ ((g1 1047 0) = 0 → sm_KC (g1 26) (g1 27) (g1 28) (g1 29) (g1 1100007) (g1 1100023) (g1 1100024) (g1 1100025) (g1 31) (g1 1100009) (g1 1100027) (g1 1100028) (g1 1100026) (g1 1100030) (S 21) (S 32) (S 33) (g1 1046 0) (g1 1053 0) (S 1056 0) (S 1032 0) (S 1007 0) (g1 1100033 0) ∧ (g1 1100033 0) = (g1 1055 0) ∧ 0 ≤ (g1 1055 0) ∧ (g1 1055 0) ≤ (g1 1046 0) ∧ sm_HB (g1 1100007) 0 (g1 1046 0) ((g1 1046 0) + 170) ∧ sm_FC (g1 29) (S 1046 0) (g1 1046 0) (S 1056 0) ∧ (g1 1100007 (g1 1046 0)) = (S 1100007 (S 1046 0)) + 0 ∧ (g1 1100023 (g1 1046 0)) = (S 1100023 (S 1046 0)) ∧ (g1 1100024 (g1 1046 0)) = (S 1100024 (S 1046 0)) ∧ (g1 1100025 (g1 1046 0)) = (S 1100025 (S 1046 0)) ∧ (g1 1100007 (g1 1100023 (g1 1046 0))) = (S 1100007 (S 1100023 (S 1046 0))) ∧ (g1 1100007 (g1 1100025 (g1 1046 0))) = (S 1100007 (S 1100025 (S 1046 0))) ∧ sm_AP (g1 1100030) (S 1053 0) (g1 1053 0) ∧ (g1 1053 0) ≤ (S 1053 0) + 3 * ((g1 1046 0) - (S 1046 0)))) → (0 ≤ (if l2_2 = -1 then 0 else (S 1024 0) - l2_2)) ∧ (((l2_2 = (-1 : Int)) → (0 ≤ (g1 1046 0) ∧ (g1 1046 0) ≤ 600 ∧ 0 ≤ (g1 1047 0) ∧ (g1 1047 0) ≤ 1 ∧ 0 ≤ (g1 1053 0) ∧ 0 ≤ (g1 1066 0) ∧ (g1 1066 0) = 0 ∧ (S 1046 0) ≤ (g1 1046 0) ∧ sm_F1 (S 26) (g1 26) (S 1046 0) ∧ sm_F1 (S 27) (g1 27) (S 1046 0) ∧ sm_F1 (S 28) (g1 28) (S 1046 0) ∧ sm_F1 (S 29) (g1 29) (S 1046 0) ∧ sm_F1 (S 1100007) (g1 1100007) ((S 1046 0) + 1) ∧ sm_F1 (S 1100023) (g1 1100023) ((S 1046 0) + 1) ∧ sm_F1 (S 1100024) (g1 1100024) ((S 1046 0) + 1) ∧ sm_F1 (S 1100025) (g1 1100025) ((S 1046 0) + 1) ∧ sm_F1 (S 1100009) (g1 1100009) (S 1053 0) ∧ sm_F1 (S 1100027) (g1 1100027) (S 1053 0) ∧ sm_F1 (S 1100028) (g1 1100028) (S 1053 0) ∧ sm_F1 (S 1100026) (g1 1100026) (S 1053 0) ∧ sm_F1 (S 1100030) (g1 1100030) (S 1053 0) ∧ sm_F1 (S 31) (g1 31) (S 1053 0) ∧ (S 1053 0) ≤ (g1 1053 0) ∧ (g1 1053 0) ≤ (S 1053 0) + 3 * (600 - (S 1046 0)) + (if p1 = -1 then 0 else (if (S 1100002 p1) < 0 then 0 else (S 1100002 p1))) ∧ ((g1 1047 0) = 0 → sm_KC (g1 26) (g1 27) (g1 28) (g1 29) (g1 1100007) (g1 1100023) (g1 1100024) (g1 1100025) (g1 31) (g1 1100009) (g1 1100027) (g1 1100028) (g1 1100026) (g1 1100030) (S 21) (S 32) (S 33) (g1 1046 0) (g1 1053 0) (S 1056 0) (S 1032 0) (S 1007 0) (g1 1100033 0) ∧ (g1 1100033 0) = (g1 1055 0) ∧ 0 ≤ (g1 1055 0) ∧ (g1 1055 0) ≤ (g1 1046 0) ∧ sm_HB (g1 1100007) 0 (g1 1046 0) ((g1 1046 0) + 170) ∧ sm_FC (g1 29) (S 1046 0) (g1 1046 0) (S 1056 0) ∧ (g1 1100007 (g1 1046 0)) = (S 1100007 (S 1046 0)) + 0 ∧ (g1 1100023 (g1 1046 0)) = (S 1100023 (S 1046 0)) ∧ (g1 1100024 (g1 1046 0)) = (S 1100024 (S 1046 0)) ∧ (g1 1100025 (g1 1046 0)) = (S 1100025 (S 1046 0)) ∧ (g1 1100007 (g1 1100023 (g1 1046 0))) = (S 1100007 (S 1100023 (S 1046 0))) ∧ (g1 1100007 (g1 1100025 (g1 1046 0))) = (S 1100007 (S 1100025 (S 1046 0))) ∧ sm_AP (g1 1100030) (S 1053 0) (g1 1053 0) ∧ (g1 1053 0) ≤ (S 1053 0) + 3 * ((g1 1046 0) - (S 1046 0))))) ∧ ((¬ (l2_2 = (-1 : Int))) → (((S 1100002 p1) ≤ (if (S 1100002 p1) < 0 then 0 else (S 1100002 p1)) ∧ 0 ≤ (if (S 1100002 p1) < 0 then 0 else (S 1100002 p1))) → (((p1 = -1 → l2_2 = -1) → ¬ l2_2 = -1 → ¬ p1 = -1) → ((sm_WF (S 11) (S 12) (S 13) (S 1100001) (S 1100002) (S 1100005) (S 1100003) (S 1100004) (S 1024 0) (S 1007 0) (S 1009 0) (sm_fn (S 1032 0) (S 21) (S 1056 0)) → 0 ≤ l2_2 → l2_2 < (S 1024 0) → ((S 1100001 (l2_2)) = 1 → 0 ≤ (S 1100002 (l2_2)) ∧ ((S 11 (l2_2)) = 3 → (S 12 (5 * (l2_2) + 1)) < (l2_2)) ∧ ((S 11 (l2_2)) = 4 ∨ (S 11 (l2_2)) = 5 ∨ (S 11 (l2_2)) = 8 ∨ (S 11 (l2_2)) = 9 → 17 * (S 1100005 (l2_2)) + 2 ≤ (S 1100002 (l2_2))) ∧ 0 ≤ (S 1100005 (l2_2))) ∧ ((S 1100001 (l2_2)) = 2 → 0 ≤ (S 1100005 (l2_2)) ∧ (S 1100002 (l2_2)) ≤ 17 * (S 1100005 (l2_2)) + 5 ∧ ((S 11 (l2_2)) = 33 → 1 ≤ (S 1100005 (l2_2)))) ∧ ((S 1100001 (l2_2)) = 6 → 0 ≤ (S 1100002 (l2_2)) ∧ 1 ≤ (S 1100004 (l2_2)) ∧ ((S 12 (5 * (l2_2))) = - 1 → (S 1100004 (l2_2)) = 2)) ∧ ((S 1100001 (l2_2)) = 3 → 1 ≤ (S 1100002 (l2_2)))) → ((sm_WF (S 11) (S 12) (S 13) (S 1100001) (S 1100002) (S 1100005) (S 1100003) (S 1100004) (S 1024 0) (S 1007 0) (S 1009 0) (sm_fn (S 1032 0) (S 21) (S 1056 0)) → 0 ≤ l2_2 → l2_2 < (S 1024 0) → (S 1100001 l2_2) = 5 → sm_li (S 1100001) (S 1100002) (S 1100005) (S 1024 0) 1 ((S 12 (5 * (l2_2)))) ((S 1100002 (l2_2))) ((S 1100005 (l2_2))) ∧ sm_nm (S 1007 0) (S 1009 0) ((S 12 (5 * (l2_2) + 1)))) → ((sm_nm (S 1007 0) (S 1009 0) ((S 12 (5 * l2_2 + 1))) → (S 1009 0) = 0 → 0 ≤ (S 12 (5 * l2_2 + 1)) ∧ (S 12 (5 * l2_2 + 1)) < (S 1007 0)) → ((sm_WF (S 11) (S 12) (S 13) (S 1100001) (S 1100002) (S 1100005) (S 1100003) (S 1100004) (S 1024 0) (S 1007 0) (S 1009 0) (sm_fn (S 1032 0) (S 21) (S 1056 0)) → 0 ≤ l2_2 → l2_2 < (S 1024 0) → 2 ≤ (S 1100001 l2_2) → (S 13 (l2_2)) = - 1 ∨ ((l2_2) < (S 13 (l2_2)) ∧ (S 13 (l2_2)) < (S 1024 0) ∧ (S 1100001 ((S 13 (l2_2)))) = (S 1100001 (l2_2)) ∧ (S 1100002 ((S 13 (l2_2)))) ≤ (S 1100002 (l2_2)) ∧ (S 1100005 ((S 13 (l2_2)))) ≤ (S 1100005 (l2_2)) ∧ (S 1100003 ((S 13 (l2_2)))) ≤ (S 1100003 (l2_2)) ∧ (S 1100004 ((S 13 (l2_2)))) ≤ (S 1100004 (l2_2)) ∧ ((S 1100001 (l2_2)) = 3 ∨ (S 1100001 (l2_2)) = 6 → (S 1100002 ((S 13 (l2_2)))) < (S 1100002 (l2_2))) ∧ ((S 1100001 (l2_2)) = 6 → (S 1100004 (l2_2)) = 2 → (S 1100004 ((S 13 (l2_2)))) < 2))) → (((S 12 (5 * l2_2 + 0)) = (S 12 (5 * l2_2))) → ((sm_WF (S 11) (S 12) (S 13) (S 1100001) (S 1100002) (S 1100005) (S 1100003) (S 1100004) (S 1024 0) (S 1007 0) (S 1009 0) (sm_fn (S 1032 0) (S 21) (S 1056 0)) → 0 ≤ (S 12 (5 * l2_2)) → (S 12 (5 * l2_2)) < (S 1024 0) → ((S 1100001 ((S 12 (5 * l2_2)))) = 1 → 0 ≤ (S 1100002 ((S 12 (5 * l2_2)))) ∧ ((S 11 ((S 12 (5 * l2_2)))) = 3 → (S 12 (5 * ((S 12 (5 * l2_2))) + 1)) < ((S 12 (5 * l2_2)))) ∧ ((S 11 ((S 12 (5 * l2_2)))) = 4 ∨ (S 11 ((S 12 (5 * l2_2)))) = 5 ∨ (S 11 ((S 12 (5 * l2_2)))) = 8 ∨ (S 11 ((S 12 (5 * l2_2)))) = 9 → 17 * (S 1100005 ((S 12 (5 * l2_2)))) + 2 ≤ (S 1100002 ((S 12 (5 * l2_2))))) ∧ 0 ≤ (S 1100005 ((S 12 (5 * l2_2))))) ∧ ((S 1100001 ((S 12 (5 * l2_2)))) = 2 → 0 ≤ (S 1100005 ((S 12 (5 * l2_2)))) ∧ (S 1100002 ((S 12 (5 * l2_2)))) ≤ 17 * (S 1100005 ((S 12 (5 * l2_2)))) + 5 ∧ ((S 11 ((S 12 (5 * l2_2)))) = 33 → 1 ≤ (S 1100005 ((S 12 (5 * l2_2)))))) ∧ ((S 1100001 ((S 12 (5 * l2_2)))) = 6 → 0 ≤ (S 1100002 ((S 12 (5 * l2_2)))) ∧ 1 ≤ (S 1100004 ((S 12 (5 * l2_2)))) ∧ ((S 12 (5 * ((S 12 (5 * l2_2))))) = - 1 → (S 1100004 ((S 12 (5 * l2_2)))) = 2)) ∧ ((S 1100001 ((S 12 (5 * l2_2)))) = 3 → 1 ≤ (S 1100002 ((S 12 (5 * l2_2)))))) → (((S 1100005 (S 12 (5 * l2_2 + 0))) = (S 1100005 (S 12 (5 * l2_2)))) → (((S 1100002 (S 12 (5 * l2_2 + 0))) = (S 1100002 (S 12 (5 * l2_2)))) → (0 ≤ l2_2 ∧ l2_2 < 12000 ∧ 0 ≤ (0 : Int) ∧ (0 : Int) ≤ 4) ∧ (0 + 1 ≤ ((if p1 = -1 then 9 else (if (S 1100002 p1) < 0 then 0 else (S 1100002 p1)) + (600 - (S 1046 0)) + 10))) ∧ (((¬ ((S 12 (5 * l2_2 + (0 : Int)))) = (-1 : Int)) → ((¬ (S 12 (5 * l2_2 + 0)) = -1 → ¬ (S 12 (5 * l2_2)) = -1) → (sm_WF (S 11) (S 12) (S 13) (S 1100001) (S 1100002) (S 1100005) (S 1100003) (S 1100004) (S 1024 0) (S 1007 0) (S 1009 0) (sm_fn (S 1032 0) (S 21) (S 1056 0)) ∧ (S 1009 0) = 0 ∧ 0 ≤ (S 1007 0) ∧ (S 1007 0) ≤ 90 ∧ 0 ≤ (S 1024 0) ∧ (S 1024 0) ≤ 12000 ∧ 1 ≤ (S 1032 0) ∧ (S 1032 0) ≤ 11 ∧ 0 ≤ (S 1056 0) ∧ (S 1056 0) < (S 1032 0) ∧ sm_VB (S 33) (S 21) (S 1032 0) ∧ 0 ≤ (g1 1046 0) ∧ (g1 1046 0) ≤ 600 ∧ 0 ≤ (g1 1047 0) ∧ (g1 1047 0) ≤ 1 ∧ 0 ≤ (g1 1053 0) ∧ 0 ≤ (g1 1066 0) ∧ 0 ≤ ((S 12 (5 * l2_2 + (0 : Int)))) ∧ ((S 12 (5 * l2_2 + (0 : Int)))) < (S 1024 0) ∧ (S 1100001 ((S 12 (5 * l2_2 + (0 : Int))))) = 1 ∧ sm_LF (g1 39) (S 1100002) (g1 1066 0) (S 1024 0) (12001 * (S 1100002 ((S 12 (5 * l2_2 + (0 : Int))))) + ((S 12 (5 * l2_2 + (0 : Int))))) ∧ ((g1 1047 0) = 0 → sm_KC (g1 26) (g1 27) (g1 28) (g1 29) (g1 1100007) (g1 1100023) (g1 1100024) (g1 1100025) (g1 31) (g1 1100009) (g1 1100027) (g1 1100028) (g1 1100026) (g1 1100030) (S 21) (S 32) (S 33) (g1 1046 0) (g1 1053 0) (S 1056 0) (S 1032 0) (S 1007 0) (g1 1100033 0) ∧ (g1 1100033 0) = (g1 1055 0) ∧ 0 ≤ (g1 1055 0) ∧ (g1 1055 0) ≤ (g1 1046 0) ∧ (0 ≤ (g1 1100023 (g1 1046 0)) → (g1 1100007 (g1 1100023 (g1 1046 0))) ≤ (g1 1100007 (g1 1046 0))) ∧ (0 ≤ (g1 1100025 (g1 1046 0)) → (g1 1100007 (g1 1100025 (g1 1046 0))) ≤ (g1 1100007 (g1 1046 0))) ∧ (g1 1100007 (g1 1046 0)) ≤ (g1 1046 0) ∧ (g1 1053 0) + 3 * (600 - (g1 1046 0)) + (S 1100002 ((S 12 (5 * l2_2 + (0 : Int))))) ≤ 8000)) ∧ (0 ≤ ((if (g1 1047 0) = 0 then (S 1100002 ((S 12 (5 * l2_2 + (0 : Int))))) + (600 - (g1 1046 0)) + 8 else 4))) ∧ (0 ≤ ((if (g1 1047 0) = 0 then (S 1100002 ((S 12 (5 * l2_2 + (0 : Int))))) + (600 - (g1 1046 0)) + 8 else 4)) ∧ ((if (g1 1047 0) = 0 then (S 1100002 ((S 12 (5 * l2_2 + (0 : Int))))) + (600 - (g1 1046 0)) + 8 else 4)) + 1 ≤ ((if p1 = -1 then 9 else (if (S 1100002 p1) < 0 then 0 else (S 1100002 p1)) + (600 - (S 1046 0)) + 10))) ∧ (∀ g24 : sv_S, (0 ≤ (g24 1046 0) ∧ (g24 1046 0) ≤ 600 ∧ 0 ≤ (g24 1047 0) ∧ (g24 1047 0) ≤ 1 ∧ 0 ≤ (g24 1053 0) ∧ 0 ≤ (g24 1066 0) ∧ (g1 1046 0) ≤ (g24 1046 0) ∧ ((g1 1047 0) = 1 → (g24 1047 0) = 1) ∧ sm_F1 (g1 26) (g24 26) (g1 1046 0) ∧ sm_F1 (g1 27) (g24 27) (g1 1046 0) ∧ sm_F1 (g1 28) (g24 28) (g1 1046 0) ∧ sm_F1 (g1 29) (g24 29) (g1 1046 0) ∧ sm_F1 (g1 1100007) (g24 1100007) ((g1 1046 0) + 1) ∧ sm_F1 (g1 1100023) (g24 1100023) ((g1 1046 0) + 1) ∧ sm_F1 (g1 1100024) (g24 1100024) ((g1 1046 0) + 1) ∧ sm_F1 (g1 1100025) (g24 1100025) ((g1 1046 0) + 1) ∧ sm_F1 (g1 1100009) (g24 1100009) (g1 1053 0) ∧ sm_F1 (g1 1100027) (g24 1100027) (g1 1053 0) ∧ sm_F1 (g1 1100028) (g24 1100028) (g1 1053 0) ∧ sm_F1 (g1 1100026) (g24 1100026) (g1 1053 0) ∧ sm_F1 (g1 1100030) (g24 1100030) (g1 1053 0) ∧ sm_F1 (g1 31) (g24 31) (g1 1053 0) ∧ (g1 1053 0) ≤ (g24 1053 0) ∧ (g24 1066 0) = (g1 1066 0) ∧ sm_F1 (g1 39) (g24 39) (g1 1066 0) ∧ ((g1 1047 0) = 1 → (g24 1053 0) = (g1 1053 0)) ∧ ((g1 1047 0) = 0 → (g24 1053 0) ≤ (g1 1053 0) + 3 * (600 - (g1 1046 0)) + (S 1100002 ((S 12 (5 * l2_2 + (0 : Int)))))) ∧ ((g24 1047 0) = 0 → (g1 1047 0) = 0 ∧ sm_KC (g24 26) (g24 27) (g24 28) (g24 29) (g24 1100007) (g24 1100023) (g24 1100024) (g24 1100025) (g24 31) (g24 1100009) (g24 1100027) (g24 1100028) (g24 1100026) (g24 1100030) (S 21) (S 32) (S 33) (g24 1046 0) (g24 1053 0) (S 1056 0) (S 1032 0) (S 1007 0) (g24 1100033 0) ∧ (g24 1100033 0) = (g24 1055 0) ∧ 0 ≤ (g24 1055 0) ∧ (g24 1055 0) ≤ (g24 1046 0) ∧ (g1 1046 0) + 1 ≤ (g24 1046 0) ∧ sm_FC (g24 29) (g1 1046 0) (g24 1046 0) (S 1056 0) ∧ (g24 1100007 (g24 1046 0)) = (g1 1100007 (g1 1046 0)) + 1 ∧ (g24 1100023 (g24 1046 0)) = (g1 1100023 (g1 1046 0)) ∧ (g24 1100024 (g24 1046 0)) = (g1 1100024 (g1 1046 0)) ∧ (g24 1100025 (g24 1046 0)) = (g1 1100025 (g1 1046 0)) ∧ (g24 1100007 (g24 1100023 (g24 1046 0))) = (g1 1100007 (g1 1100023 (g1 1046 0))) ∧ (g24 1100007 (g24 1100025 (g24 1046 0))) = (g1 1100007 (g1 1100025 (g1 1046 0))) ∧ sm_AP (g24 1100030) (g1 1053 0) (g24 1053 0) ∧ sm_HB (g24 1100007) (g1 1046 0) (g24 1046 0) (2 * (g1 1100007 (g1 1046 0)) + ((g24 1046 0) - (g1 1046 0)) + 8 * (S 1100005 ((S 12 (5 * l2_2 + (0 : Int))))) + 10) ∧ (g24 1053 0) ≤ (g1 1053 0) + 3 * ((g24 1046 0) - (g1 1046 0)) ∧ True)) → (0 ≤ l2_2 ∧ l2_2 < 12000 ∧ 0 ≤ (1 : Int) ∧ (1 : Int) ≤ 4) ∧ (0 ≤ (g24 1046 0) ∧ (g24 1046 0) ≤ 600 ∧ 0 ≤ (g24 1047 0) ∧ (g24 1047 0) ≤ 1 ∧ 0 ≤ (S 1056 0) ∧ (S 1056 0) < (S 1032 0) ∧ (S 1032 0) ≤ 11 ∧ sm_VB (S 33) (S 21) (S 1032 0) ∧ (((2 : Int) = 1 ∧ ((4 : Int) = 3 ∨ (4 : Int) = 5)) ∨ ((2 : Int) = 2 ∧ (4 : Int) = 4)) ∧ ((g24 1047 0) = 0 → sm_KC (g24 26) (g24 27) (g24 28) (g24 29) (g24 1100007) (g24 1100023) (g24 1100024) (g24 1100025) (g24 31) (g24 1100009) (g24 1100027) (g24 1100028) (g24 1100026) (g24 1100030) (S 21) (S 32) (S 33) (g24 1046 0) (g24 1053 0) (S 1056 0) (S 1032 0) (S 1007 0) (g24 1100033 0) ∧ 0 ≤ ((S 12 (5 * l2_2 + (1 : Int)))) ∧ ((S 12 (5 * l2_2 + (1 : Int)))) < (S 1007 0) ∧ ((2 : Int) = 1 → (0 ≤ (g24 1100023 (g24 1046 0)) → (g24 1100007 (g24 1100023 (g24 1046 0))) ≤ (g24 1100007 (g24 1046 0))) ∧ (0 ≤ (g24 1100025 (g24 1046 0)) → (g24 1100007 (g24 1100025 (g24 1046 0))) ≤ (g24 1100007 (g24 1046 0)))) ∧ ((2 : Int) = 2 → 1 ≤ (g24 1100007 (g24 1046 0)) ∧ (0 ≤ (g24 1100023 (g24 1046 0)) → (g24 1100007 (g24 1100023 (g24 1046 0))) ≤ (g24 1100007 (g24 1046 0)) - 1) ∧ (0 ≤ (g24 1100025 (g24 1046 0)) → (g24 1100007 (g24 1100025 (g24 1046 0))) ≤ (g24 1100007 (g24 1046 0)) - 1)))) ∧ (2 + 1 ≤ ((if p1 = -1 then 9 else (if (S 1100002 p1) < 0 then 0 else (S 1100002 p1)) + (600 - (S 1046 0)) + 10))) ∧ (∀ g33 : sv_S, (0 ≤ (g33 1047 0) ∧ (g33 1047 0) ≤ 1 ∧ 1 ≤ (g33 1046 0) ∧ (g24 1046 0) ≤ (g33 1046 0) ∧ (g33 1046 0) ≤ (g24 1046 0) + 1 ∧ (g33 1046 0) ≤ 600 ∧ ((g24 1047 0) = 1 → (g33 1047 0) = 1) ∧ ((g33 1047 0) = 1 → (g24 1047 0) = 1 ∨ (g24 1046 0) = 600) ∧ sm_F1 (g24 26) (g33 26) (g24 1046 0) ∧ sm_F1 (g24 27) (g33 27) (g24 1046 0) ∧ sm_F1 (g24 28) (g33 28) (g24 1046 0) ∧ sm_F1 (g24 29) (g33 29) (g24 1046 0) ∧ sm_F1 (g24 1100007) (g33 1100007) ((g24 1046 0) + 1) ∧ sm_F1 (g24 1100023) (g33 1100023) ((g24 1046 0) + 1) ∧ sm_F1 (g24 1100024) (g33 1100024) ((g24 1046 0) + 1) ∧ sm_F1 (g24 1100025) (g33 1100025) ((g24 1046 0) + 1) ∧ ((g33 1047 0) = 0 → (g24 1047 0) = 0 ∧ (g33 1046 0) = (g24 1046 0) + 1 ∧ sm_KC (g33 26) (g33 27) (g33 28) (g33 29) (g33 1100007) (g33 1100023) (g33 1100024) (g33 1100025) (g24 31) (g24 1100009) (g24 1100027) (g24 1100028) (g24 1100026) (g24 1100030) (S 21) (S 32) (S 33) (g33 1046 0) (g24 1053 0) (S 1056 0) (S 1032 0) (S 1007 0) (g24 1100033 0) ∧ sm_MB (g24 31) (g24 1100030) (g24 1053 0) (g33 1046 0) ∧ ((g33 26 (g24 1046 0)) = (2 : Int) ∨ (g33 26 (g24 1046 0)) = (4 : Int)) ∧ (g33 29 (g24 1046 0)) = (S 1056 0) ∧ (g33 1100007 (g33 1046 0)) = (g24 1100007 (g24 1046 0)) + (if (2 : Int) = 1 then 1 else 0) ∧ (g33 1100023 (g33 1046 0)) = (g24 1100023 (g24 1046 0)) ∧ (g33 1100024 (g33 1046 0)) = (g24 1100024 (g24 1046 0)) ∧ (g33 1100025 (g33 1046 0)) = (g24 1100025 (g24 1046 0)) ∧ (g33 1100007 (g33 1100023 (g33 1046 0))) = (g24 1100007 (g24 1100023 (g24 1046 0))) ∧ (g33 1100007 (g33 1100025 (g33 1046 0))) = (g24 1100007 (g24 1100025 (g24 1046 0))))) → (0 ≤ (g33 1046 0) ∧ (g33 1046 0) ≤ 600 ∧ 0 ≤ (g33 1047 0) ∧ (g33 1047 0) ≤ 1 ∧ ((g33 1047 0) = 0 → sm_KC (g33 26) (g33 27) (g33 28) (g33 29) (g33 1100007) (g33 1100023) (g33 1100024) (g33 1100025) (g24 31) (g24 1100009) (g24 1100027) (g24 1100028) (g24 1100026) (g24 1100030) (S 21) (S 32) (S 33) (g33 1046 0) (g24 1053 0) (S 1056 0) (S 1032 0) (S 1007 0) (g24 1100033 0) ∧ 0 ≤ (17 : Int) ∧ (17 : Int) ≤ 30 ∧ sm_ci (17 : Int) ((0 : Int)) ((0 : Int)) (g33 1100007 (g33 1046 0)) (g33 1100023 (g33 1046 0)) (g33 1100024 (g33 1046 0)) (g33 1100025 (g33 1046 0)) (g33 1100007 (g33 1100023 (g33 1046 0))) (g33 1100007 (g33 1100025 (g33 1046 0))) (g33 1100023 (g33 1100023 (g33 1046 0))) (g33 1100025 (g33 1100025 (g33 1046 0))) (g33 1046 0) (g24 1100033 0) (S 1032 0) (S 1007 0) (S 21 (0 : Int)) (S 1056 0) ((g33 1100007 (g33 1046 0)) + sm_dl (17 : Int) ((0 : Int))) (sm_nt (17 : Int) (g33 1046 0) (g33 1100023 (g33 1046 0)) (g33 1100023 (g33 1100023 (g33 1046 0)))) (sm_nl (17 : Int) (g33 1046 0) (g33 1100007 (g33 1046 0)) (g33 1100025 (g33 1046 0)) (g33 1100007 (g33 1100025 (g33 1046 0))) (g33 1100025 (g33 1100025 (g33 1046 0)))) (g24 1100009 (0 : Int)) (g24 1100027 (0 : Int)) (g24 1100028 (0 : Int)) ∧ ((21 ≤ (17 : Int) ∧ (17 : Int) ≤ 24) ∨ (17 : Int) = 27 ∨ (17 : Int) = 30 → 0 ≤ (0 : Int) ∧ (0 : Int) < (g24 1053 0) ∧ (g24 1100026 (0 : Int)) = (S 1056 0)) ∧ ((17 : Int) = 1 ∨ (17 : Int) = 2 → sm_vv (S 21) (S 32) (S 33) (S 1056 0) (0 : Int) (0 : Int)))) ∧ (1 + 1 ≤ ((if p1 = -1 then 9 else (if (S 1100002 p1) < 0 then 0 else (S 1100002 p1)) + (600 - (S 1046 0)) + 10))) ∧ (∀ g41 : sv_S, (0 ≤ (g41 1047 0) ∧ (g41 1047 0) ≤ 1 ∧ 1 ≤ (g41 1046 0) ∧ (g33 1046 0) ≤ (g41 1046 0) ∧ (g41 1046 0) ≤ (g33 1046 0) + 1 ∧ (g41 1046 0) ≤ 600 ∧ ((g33 1047 0) = 1 → (g41 1047 0) = 1) ∧ ((g41 1047 0) = 1 → (g33 1047 0) = 1 ∨ (g33 1046 0) = 600) ∧ sm_F1 (g33 26) (g41 26) (g33 1046 0) ∧ sm_F1 (g33 27) (g41 27) (g33 1046 0) ∧ sm_F1 (g33 28) (g41 28) (g33 1046 0) ∧ sm_F1 (g33 29) (g41 29) (g33 1046 0) ∧ sm_F1 (g33 1100007) (g41 1100007) ((g33 1046 0) + 1) ∧ sm_F1 (g33 1100023) (g41 1100023) ((g33 1046 0) + 1) ∧ sm_F1 (g33 1100024) (g41 1100024) ((g33 1046 0) + 1) ∧ sm_F1 (g33 1100025) (g41 1100025) ((g33 1046 0) + 1) ∧ ((g41 1047 0) = 0 → (g33 1047 0) = 0 ∧ (g41 1046 0) = (g33 1046 0) + 1 ∧ sm_KC (g41 26) (g41 27) (g41 28) (g41 29) (g41 1100007) (g41 1100023) (g41 1100024) (g41 1100025) (g24 31) (g24 1100009) (g24 1100027) (g24 1100028) (g24 1100026) (g24 1100030) (S 21) (S 32) (S 33) (g41 1046 0) (g24 1053 0) (S 1056 0) (S 1032 0) (S 1007 0) (g24 1100033 0) ∧ sm_MB (g24 31) (g24 1100030) (g24 1053 0) (g41 1046 0) ∧ (g41 26 (g33 1046 0)) = (17 : Int) ∧ (g41 29 (g33 1046 0)) = (S 1056 0) ∧ (g41 1100007 (g41 1046 0)) = ((g33 1100007 (g33 1046 0)) + sm_dl (17 : Int) ((0 : Int))) ∧ (g41 1100023 (g41 1046 0)) = (sm_nt (17 : Int) (g33 1046 0) (g33 1100023 (g33 1046 0)) (g33 1100023 (g33 1100023 (g33 1046 0)))) ∧ (g41 1100024 (g41 1046 0)) = (sm_nd (17 : Int) (g33 1100024 (g33 1046 0))) ∧ (g41 1100025 (g41 1046 0)) = (sm_nl (17 : Int) (g33 1046 0) (g33 1100007 (g33 1046 0)) (g33 1100025 (g33 1046 0)) (g33 1100007 (g33 1100025 (g33 1046 0))) (g33 1100025 (g33 1100025 (g33 1046 0)))) ∧ (g41 1100007 (g41 1100023 (g41 1046 0))) = sm_nt (17 : Int) (g33 1100007 (g33 1046 0)) (g33 1100007 (g33 1100023 (g33 1046 0))) (g33 1100007 (g33 1100023 (g33 1100023 (g33 1046 0)))) ∧ ((17 : Int) = 29 → (g41 1100007 (g41 1100025 (g41 1046 0))) = (g33 1100007 (g33 1046 0))) ∧ ((17 : Int) = 17 → 0 ≤ (g33 1100025 (g33 1046 0)) → (g33 1100007 (g33 1100025 (g33 1046 0))) = (g33 1100007 (g33 1046 0)) → (g41 1100007 (g41 1100025 (g41 1046 0))) = (g33 1100007 (g33 1100025 (g33 1100025 (g33 1046 0))))) ∧ (¬ (17 : Int) = 29 → ((17 : Int) = 17 → 0 ≤ (g33 1100025 (g33 1046 0)) → (g33 1100007 (g33 1100025 (g33 1046 0))) < (g33 1100007 (g33 1046 0))) → (g41 1100007 (g41 1100025 (g41 1046 0))) = (g33 1100007 (g33 1100025 (g33 1046 0)))))) → (0 ≤ l2_2 ∧ l2_2 < 12000) ∧ (sv_R (S 13 l2_2) → (((p1 = -1 → (S 13 l2_2) = -1) ∧ (¬ p1 = -1 → ((S 13 l2_2) = -1 ∨ (0 ≤ (S 13 l2_2) ∧ (S 13 l2_2) < (S 1024 0) ∧ (S 1100001 (S 13 l2_2)) = 5 ∧ (S 1100002 (S 13 l2_2)) ≤ (S 1100002 p1) ∧ (S 1100005 (S 13 l2_2)) ≤ (S 1100005 p1)))) ∧ 0 ≤ (g41 1046 0) ∧ (g41 1046 0) ≤ 600 ∧ 0 ≤ (g41 1047 0) ∧ (g41 1047 0) ≤ 1 ∧ 0 ≤ (g24 1053 0) ∧ 0 ≤ (g24 1066 0) ∧ (g24 1066 0) = 0 ∧ (S 1046 0) ≤ (g41 1046 0) ∧ sm_F1 (S 26) (g41 26) (S 1046 0) ∧ sm_F1 (S 27) (g41 27) (S 1046 0) ∧ sm_F1 (S 28) (g41 28) (S 1046 0) ∧ sm_F1 (S 29) (g41 29) (S 1046 0) ∧ sm_F1 (S 1100007) (g41 1100007) ((S 1046 0) + 1) ∧ sm_F1 (S 1100023) (g41 1100023) ((S 1046 0) + 1) ∧ sm_F1 (S 1100024) (g41 1100024) ((S 1046 0) + 1) ∧ sm_F1 (S 1100025) (g41 1100025) ((S 1046 0) + 1) ∧ sm_F1 (S 1100009) (g24 1100009) (S 1053 0) ∧ sm_F1 (S 1100027) (g24 1100027) (S 1053 0) ∧ sm_F1 (S 1100028) (g24 1100028) (S 1053 0) ∧ sm_F1 (S 1100026) (g24 1100026) (S 1053 0) ∧ sm_F1 (S 1100030) (g24 1100030) (S 1053 0) ∧ sm_F1 (S 31) (g24 31) (S 1053 0) ∧ (S 1053 0) ≤ (g24 1053 0) ∧ (g24 1053 0) ≤ (S 1053 0) + 3 * (600 - (S 1046 0)) + (if p1 = -1 then 0 else (if (S 1100002 p1) < 0 then 0 else (S 1100002 p1))) ∧ ((g41 1047 0) = 0 → sm_KC (g41 26) (g41 27) (g41 28) (g41 29) (g41 1100007) (g41 1100023) (g41 1100024) (g41 1100025) (g24 31) (g24 1100009) (g24 1100027) (g24 1100028) (g24 1100026) (g24 1100030) (S 21) (S 32) (S 33) (g41 1046 0) (g24 1053 0) (S 1056 0) (S 1032 0) (S 1007 0) (g24 1100033 0) ∧ (g24 1100033 0) = (g24 1055 0) ∧ 0 ≤ (g24 1055 0) ∧ (g24 1055 0) ≤ (g41 1046 0) ∧ sm_HB (g41 1100007) 0 (g41 1046 0) ((g41 1046 0) + 170) ∧ sm_FC (g41 29) (S 1046 0) (g41 1046 0) (S 1056 0) ∧ (g41 1100007 (g41 1046 0)) = (S 1100007 (S 1046 0)) + 0 ∧ (g41 1100023 (g41 1046 0)) = (S 1100023 (S 1046 0)) ∧ (g41 1100024 (g41 1046 0)) = (S 1100024 (S 1046 0)) ∧ (g41 1100025 (g41 1046 0)) = (S 1100025 (S 1046 0)) ∧ (g41 1100007 (g41 1100023 (g41 1046 0))) = (S 1100007 (S 1100023 (S 1046 0))) ∧ (g41 1100007 (g41 1100025 (g41 1046 0))) = (S 1100007 (S 1100025 (S 1046 0))) ∧ sm_AP (g24 1100030) (S 1053 0) (g24 1053 0) ∧ (g24 1053 0) ≤ (S 1053 0) + 3 * ((g41 1046 0) - (S 1046 0)))) ∧ ((if (S 13 l2_2) = -1 then 0 else (S 1024 0) - (S 13 l2_2))) < ((if l2_2 = -1 then 0 else (S 1024 0) - l2_2))))))))) ∧ ((¬ (¬ ((S 12 (5 * l2_2 + (0 : Int)))) = (-1 : Int))) → (0 ≤ l2_2 ∧ l2_2 < 12000) ∧ (sv_R (S 13 l2_2) → (((p1 = -1 → (S 13 l2_2) = -1) ∧ (¬ p1 = -1 → ((S 13 l2_2) = -1 ∨ (0 ≤ (S 13 l2_2) ∧ (S 13 l2_2) < (S 1024 0) ∧ (S 1100001 (S 13 l2_2)) = 5 ∧ (S 1100002 (S 13 l2_2)) ≤ (S 1100002 p1) ∧ (S 1100005 (S 13 l2_2)) ≤ (S 1100005 p1)))) ∧ 0 ≤ (g1 1046 0) ∧ (g1 1046 0) ≤ 600 ∧ 0 ≤ (g1 1047 0) ∧ (g1 1047 0) ≤ 1 ∧ 0 ≤ (g1 1053 0) ∧ 0 ≤ (g1 1066 0) ∧ (g1 1066 0) = 0 ∧ (S 1046 0) ≤ (g1 1046 0) ∧ sm_F1 (S 26) (g1 26) (S 1046 0) ∧ sm_F1 (S 27) (g1 27) (S 1046 0) ∧ sm_F1 (S 28) (g1 28) (S 1046 0) ∧ sm_F1 (S 29) (g1 29) (S 1046 0) ∧ sm_F1 (S 1100007) (g1 1100007) ((S 1046 0) + 1) ∧ sm_F1 (S 1100023) (g1 1100023) ((S 1046 0) + 1) ∧ sm_F1 (S 1100024) (g1 1100024) ((S 1046 0) + 1) ∧ sm_F1 (S 1100025) (g1 1100025) ((S 1046 0) + 1) ∧ sm_F1 (S 1100009) (g1 1100009) (S 1053 0) ∧ sm_F1 (S 1100027) (g1 1100027) (S 1053 0) ∧ sm_F1 (S 1100028) (g1 1100028) (S 1053 0) ∧ sm_F1 (S 1100026) (g1 1100026) (S 1053 0) ∧ sm_F1 (S 1100030) (g1 1100030) (S 1053 0) ∧ sm_F1 (S 31) (g1 31) (S 1053 0) ∧ (S 1053 0) ≤ (g1 1053 0) ∧ (g1 1053 0) ≤ (S 1053 0) + 3 * (600 - (S 1046 0)) + (if p1 = -1 then 0 else (if (S 1100002 p1) < 0 then 0 else (S 1100002 p1))) ∧ ((g1 1047 0) = 0 → sm_KC (g1 26) (g1 27) (g1 28) (g1 29) (g1 1100007) (g1 1100023) (g1 1100024) (g1 1100025) (g1 31) (g1 1100009) (g1 1100027) (g1 1100028) (g1 1100026) (g1 1100030) (S 21) (S 32) (S 33) (g1 1046 0) (g1 1053 0) (S 1056 0) (S 1032 0) (S 1007 0) (g1 1100033 0) ∧ (g1 1100033 0) = (g1 1055 0) ∧ 0 ≤ (g1 1055 0) ∧ (g1 1055 0) ≤ (g1 1046 0) ∧ sm_HB (g1 1100007) 0 (g1 1046 0) ((g1 1046 0) + 170) ∧ sm_FC (g1 29) (S 1046 0) (g1 1046 0) (S 1056 0) ∧ (g1 1100007 (g1 1046 0)) = (S 1100007 (S 1046 0)) + 0 ∧ (g1 1100023 (g1 1046 0)) = (S 1100023 (S 1046 0)) ∧ (g1 1100024 (g1 1046 0)) = (S 1100024 (S 1046 0)) ∧ (g1 1100025 (g1 1046 0)) = (S 1100025 (S 1046 0)) ∧ (g1 1100007 (g1 1100023 (g1 1046 0))) = (S 1100007 (S 1100023 (S 1046 0))) ∧ (g1 1100007 (g1 1100025 (g1 1046 0))) = (S 1100007 (S 1100025 (S 1046 0))) ∧ sm_AP (g1 1100030) (S 1053 0) (g1 1053 0) ∧ (g1 1053 0) ≤ (S 1053 0) + 3 * ((g1 1046 0) - (S 1046 0)))) ∧ ((if (S 13 l2_2) = -1 then 0 else (S 1024 0) - (S 13 l2_2))) < ((if l2_2 = -1 then 0 else (S 1024 0) - l2_2)))))))))))))))))))) := by
  intro p1
  intro S
  intro h1_
  intro h2_
  rintro ⟨h3_, ⟨h4_, ⟨h5_, ⟨h6_, ⟨h7_, ⟨h8_, ⟨h9_, ⟨h10_, ⟨h11_, ⟨h12_, ⟨h13_, ⟨h14_, ⟨h15_, ⟨h16_, ⟨h17_, ⟨h18_, ⟨h19_, ⟨h20_, ⟨h21_, ⟨h22_, ⟨h23_, ⟨h24_, ⟨h25_, ⟨h26_, ⟨h27_, ⟨h28_, ⟨h29_, ⟨h30_, ⟨h31_, h32_⟩⟩⟩⟩⟩⟩⟩⟩⟩⟩⟩⟩⟩⟩⟩⟩⟩⟩⟩⟩⟩⟩⟩⟩⟩⟩⟩⟩⟩
  refine ⟨?_, ?_⟩
  · skip
    refine ⟨(la_declare_0 h22_), ?_⟩
    refine ⟨(la_declare_1 h7_ h22_ h23_), ?_⟩
    refine ⟨h14_, ?_⟩
    refine ⟨h15_, ?_⟩
    refine ⟨h16_, ?_⟩
    refine ⟨h17_, ?_⟩
    refine ⟨h18_, ?_⟩
    refine ⟨h19_, ?_⟩
    refine ⟨h20_, ?_⟩
    refine ⟨la_declare_2, ?_⟩
    refine ⟨sm_F1_rf, ?_⟩
    refine ⟨sm_F1_rf, ?_⟩
    refine ⟨sm_F1_rf, ?_⟩
    refine ⟨sm_F1_rf, ?_⟩
    refine ⟨sm_F1_rf, ?_⟩
    refine ⟨sm_F1_rf, ?_⟩
    refine ⟨sm_F1_rf, ?_⟩
    refine ⟨sm_F1_rf, ?_⟩
    refine ⟨sm_F1_rf, ?_⟩
    refine ⟨sm_F1_rf, ?_⟩
    refine ⟨sm_F1_rf, ?_⟩
    refine ⟨sm_F1_rf, ?_⟩
    refine ⟨sm_F1_rf, ?_⟩
    refine ⟨sm_F1_rf, ?_⟩
    refine ⟨la_declare_2, ?_⟩
    refine ⟨?_, ?_⟩
    · skip
      by_cases c59_ : p1 = (-1)
      · skip
        have e60_ : (if p1 = (-1) then 0 else (if S 1100002 p1 < 0 then 0 else S 1100002 p1) : Int) = 0 := if_pos c59_
        exact (la_declare_4 h15_ e60_)
      · skip
        have e61_ : (if p1 = (-1) then 0 else (if S 1100002 p1 < 0 then 0 else S 1100002 p1) : Int) = (if S 1100002 p1 < 0 then 0 else S 1100002 p1) := if_neg c59_
        obtain ⟨h62_, ⟨h63_, ⟨h64_, h65_⟩⟩⟩ := (h23_ c59_)
        by_cases c70_ : S 1100002 p1 < 0
        · skip
          have e71_ : (if S 1100002 p1 < 0 then 0 else S 1100002 p1 : Int) = 0 := if_pos c70_
          exact (la_declare_6 h15_ e61_ e71_)
        · skip
          have e72_ : (if S 1100002 p1 < 0 then 0 else S 1100002 p1 : Int) = S 1100002 p1 := if_neg c70_
          exact (la_declare_7 h15_ e61_ c70_ e72_)
    intro h73_
    refine ⟨h24_, ?_⟩
    refine ⟨h25_, ?_⟩
    refine ⟨h26_, ?_⟩
    refine ⟨h27_, ?_⟩
    refine ⟨h28_, ?_⟩
    refine ⟨(sm_FC_0 la_declare_2), ?_⟩
    refine ⟨la_declare_8, ?_⟩
    refine ⟨la_declare_9, ?_⟩
    refine ⟨la_declare_9, ?_⟩
    refine ⟨la_declare_9, ?_⟩
    refine ⟨la_declare_9, ?_⟩
    refine ⟨la_declare_9, ?_⟩
    refine ⟨(sm_AP_0 la_declare_2), ?_⟩
    exact la_declare_10
  intro l2_2
  intro h74_
  intro g1
  rintro ⟨h75_, ⟨h76_, ⟨h77_, ⟨h78_, ⟨h79_, ⟨h80_, ⟨h81_, ⟨h82_, ⟨h83_, ⟨h84_, ⟨h85_, ⟨h86_, ⟨h87_, ⟨h88_, ⟨h89_, ⟨h90_, ⟨h91_, ⟨h92_, ⟨h93_, ⟨h94_, ⟨h95_, ⟨h96_, ⟨h97_, ⟨h98_, ⟨h99_, ⟨h100_, h101_⟩⟩⟩⟩⟩⟩⟩⟩⟩⟩⟩⟩⟩⟩⟩⟩⟩⟩⟩⟩⟩⟩⟩⟩⟩⟩
  refine ⟨?_, ?_⟩
  · skip
    by_cases c102_ : l2_2 = (-1)
    · skip
      have e103_ : (if l2_2 = (-1) then 0 else S 1024 0 - l2_2 : Int) = 0 := if_pos c102_
      exact (la_declare_11 e103_)
    · skip
      have e104_ : (if l2_2 = (-1) then 0 else S 1024 0 - l2_2 : Int) = S 1024 0 - l2_2 := if_neg c102_
      have h105_ : ¬ (p1 = (-1)) := fun q_ => c102_ (h75_ q_)
      have h106_ := (h76_ h105_)
      have e107_ : (if p1 = (-1) then 0 else (if S 1100002 p1 < 0 then 0 else S 1100002 p1) : Int) = (if S 1100002 p1 < 0 then 0 else S 1100002 p1) := if_neg h105_
      obtain ⟨h108_, ⟨h109_, ⟨h110_, h111_⟩⟩⟩ := (h23_ h105_)
      obtain ⟨h112_, ⟨h113_, ⟨h114_, ⟨h115_, h116_⟩⟩⟩⟩ := (h106_.resolve_left c102_)
      exact (la_declare_13 e104_ h113_)
  refine ⟨?_, ?_⟩
  · skip
    intro h117_
    refine ⟨h77_, ?_⟩
    refine ⟨h78_, ?_⟩
    refine ⟨h79_, ?_⟩
    refine ⟨h80_, ?_⟩
    refine ⟨h81_, ?_⟩
    refine ⟨h82_, ?_⟩
    refine ⟨h83_, ?_⟩
    refine ⟨h84_, ?_⟩
    refine ⟨h85_, ?_⟩
    refine ⟨h86_, ?_⟩
    refine ⟨h87_, ?_⟩
    refine ⟨h88_, ?_⟩
    refine ⟨h89_, ?_⟩
    refine ⟨h90_, ?_⟩
    refine ⟨h91_, ?_⟩
    refine ⟨h92_, ?_⟩
    refine ⟨h93_, ?_⟩
    refine ⟨h94_, ?_⟩
    refine ⟨h95_, ?_⟩
    refine ⟨h96_, ?_⟩
    refine ⟨h97_, ?_⟩
    refine ⟨h98_, ?_⟩
    refine ⟨h99_, ?_⟩
    refine ⟨h100_, ?_⟩
    intro h118_
    obtain ⟨h119_, ⟨h120_, ⟨h121_, ⟨h122_, ⟨h123_, ⟨h124_, ⟨h125_, ⟨h126_, ⟨h127_, ⟨h128_, ⟨h129_, ⟨h130_, ⟨h131_, h132_⟩⟩⟩⟩⟩⟩⟩⟩⟩⟩⟩⟩⟩ := (h101_ h118_)
    refine ⟨h119_, ?_⟩
    refine ⟨h120_, ?_⟩
    refine ⟨h121_, ?_⟩
    refine ⟨h122_, ?_⟩
    refine ⟨h123_, ?_⟩
    refine ⟨h124_, ?_⟩
    refine ⟨h125_, ?_⟩
    refine ⟨h126_, ?_⟩
    refine ⟨h127_, ?_⟩
    refine ⟨h128_, ?_⟩
    refine ⟨h129_, ?_⟩
    refine ⟨h130_, ?_⟩
    refine ⟨h131_, ?_⟩
    exact h132_
  intro h133_
  have h134_ : ¬ (p1 = (-1)) := fun q_ => h133_ (h75_ q_)
  have h135_ := (h76_ h134_)
  have e136_ : (if p1 = (-1) then 0 else (if S 1100002 p1 < 0 then 0 else S 1100002 p1) : Int) = (if S 1100002 p1 < 0 then 0 else S 1100002 p1) := if_neg h134_
  obtain ⟨h137_, ⟨h138_, ⟨h139_, h140_⟩⟩⟩ := (h23_ h134_)
  obtain ⟨h141_, ⟨h142_, ⟨h143_, ⟨h144_, h145_⟩⟩⟩⟩ := (h135_.resolve_left h133_)
  rintro ⟨h146_, h147_⟩
  intro h148_
  have h149_ := (h148_ h75_)
  have h150_ := (h149_ h133_)
  intro h151_
  have h152_ := (h151_ h3_)
  have h153_ := (h152_ h141_)
  obtain ⟨h154_, ⟨h155_, ⟨h156_, h157_⟩⟩⟩ := (h153_ h142_)
  intro h158_
  have h159_ := (h158_ h3_)
  have h160_ := (h159_ h141_)
  have h161_ := (h160_ h142_)
  obtain ⟨h162_, h163_⟩ := (h161_ h143_)
  intro h164_
  have h165_ := (h164_ h163_)
  obtain ⟨h166_, h167_⟩ := (h165_ h4_)
  intro h168_
  have h169_ := (h168_ h3_)
  have h170_ := (h169_ h141_)
  have h171_ := (h170_ h142_)
  have h172_ := (h171_ (la_declare_18 h143_))
  intro h173_
  intro h174_
  have h175_ := (h174_ h3_)
  intro h176_
  intro h177_
  refine ⟨(la_declare_19 h8_ h141_ h142_), ?_⟩
  refine ⟨?_, ?_⟩
  · skip
    have e178_ : (if p1 = (-1) then 9 else (if S 1100002 p1 < 0 then 0 else S 1100002 p1) + (600 - S 1046 0) + 10 : Int) = (if S 1100002 p1 < 0 then 0 else S 1100002 p1) + (600 - S 1046 0) + 10 := if_neg h134_
    have e179_ : S 1100002 (S 12 (5 * l2_2 + 0)) = S 1100002 (S 12 (5 * l2_2)) := congrArg ((S 1100002)) h173_
    have e180_ : S 1100005 (S 12 (5 * l2_2 + 0)) = S 1100005 (S 12 (5 * l2_2)) := congrArg ((S 1100005)) h173_
    have e181_ : S 12 (5 * l2_2 + 0) = S 12 (5 * l2_2) := congrArg ((S 12)) la_declare_20
    exact (la_declare_21 h15_ h147_ e178_)
  refine ⟨?_, ?_⟩
  · skip
    intro h182_
    intro h183_
    have h184_ := (h183_ h182_)
    refine ⟨?_, ?_⟩
    · skip
      refine ⟨h3_, ?_⟩
      refine ⟨h4_, ?_⟩
      refine ⟨h5_, ?_⟩
      refine ⟨h6_, ?_⟩
      refine ⟨h7_, ?_⟩
      refine ⟨h8_, ?_⟩
      refine ⟨h9_, ?_⟩
      refine ⟨h10_, ?_⟩
      refine ⟨h11_, ?_⟩
      refine ⟨h12_, ?_⟩
      refine ⟨h13_, ?_⟩
      refine ⟨h77_, ?_⟩
      refine ⟨h78_, ?_⟩
      refine ⟨h79_, ?_⟩
      refine ⟨h80_, ?_⟩
      refine ⟨h81_, ?_⟩
      refine ⟨h82_, ?_⟩
      refine ⟨?_, ?_⟩
      · skip
        have h185_ := (h175_ (sm_ex_e (sm_li_r h162_ h184_)).1)
        obtain ⟨h186_, ⟨h187_, ⟨h188_, h189_⟩⟩⟩ := (h185_ (sm_ex_e (sm_li_r h162_ h184_)).2.1)
        obtain ⟨h190_, ⟨h191_, ⟨h192_, h193_⟩⟩⟩ := (h186_ (sm_ex_e (sm_li_r h162_ h184_)).2.2.1)
        have e194_ : (if S 1100002 p1 < 0 then 0 else S 1100002 p1 : Int) = S 1100002 p1 := if_neg (la_declare_26 h144_ (sm_ex_e (sm_li_r h162_ h184_)).2.2.2.1 h190_)
        have e195_ : S 1100002 (S 12 (5 * l2_2 + 0)) = S 1100002 (S 12 (5 * l2_2)) := congrArg ((S 1100002)) h173_
        have e196_ : S 1100005 (S 12 (5 * l2_2 + 0)) = S 1100005 (S 12 (5 * l2_2)) := congrArg ((S 1100005)) h173_
        have e197_ : S 12 (5 * l2_2 + 0) = S 12 (5 * l2_2) := congrArg ((S 12)) la_declare_20
        exact (la_declare_27 (la_declare_5 (la_declare_22 h173_ (sm_ex_e (sm_li_r h162_ h184_)).1) h182_))
      refine ⟨?_, ?_⟩
      · skip
        have h198_ := (h175_ (sm_ex_e (sm_li_r h162_ h184_)).1)
        obtain ⟨h199_, ⟨h200_, ⟨h201_, h202_⟩⟩⟩ := (h198_ (sm_ex_e (sm_li_r h162_ h184_)).2.1)
        obtain ⟨h203_, ⟨h204_, ⟨h205_, h206_⟩⟩⟩ := (h199_ (sm_ex_e (sm_li_r h162_ h184_)).2.2.1)
        have e207_ : (if S 1100002 p1 < 0 then 0 else S 1100002 p1 : Int) = S 1100002 p1 := if_neg (la_declare_26 h144_ (sm_ex_e (sm_li_r h162_ h184_)).2.2.2.1 h203_)
        have e208_ : S 1100002 (S 12 (5 * l2_2 + 0)) = S 1100002 (S 12 (5 * l2_2)) := congrArg ((S 1100002)) h173_
        have e209_ : S 1100005 (S 12 (5 * l2_2 + 0)) = S 1100005 (S 12 (5 * l2_2)) := congrArg ((S 1100005)) h173_
        have e210_ : S 12 (5 * l2_2 + 0) = S 12 (5 * l2_2) := congrArg ((S 12)) la_declare_20
        exact (la_declare_28 h173_ (sm_ex_e (sm_li_r h162_ h184_)).2.1)
      refine ⟨?_, ?_⟩
      · skip
        have h211_ := (h175_ (sm_ex_e (sm_li_r h162_ h184_)).1)
        obtain ⟨h212_, ⟨h213_, ⟨h214_, h215_⟩⟩⟩ := (h211_ (sm_ex_e (sm_li_r h162_ h184_)).2.1)
        obtain ⟨h216_, ⟨h217_, ⟨h218_, h219_⟩⟩⟩ := (h212_ (sm_ex_e (sm_li_r h162_ h184_)).2.2.1)
        have e220_ : (if S 1100002 p1 < 0 then 0 else S 1100002 p1 : Int) = S 1100002 p1 := if_neg (la_declare_26 h144_ (sm_ex_e (sm_li_r h162_ h184_)).2.2.2.1 h216_)
        have e221_ : S 1100001 (S 12 (5 * l2_2 + 0)) = S 1100001 (S 12 (5 * l2_2)) := congrArg ((S 1100001)) h173_
        have e222_ : S 1100002 (S 12 (5 * l2_2 + 0)) = S 1100002 (S 12 (5 * l2_2)) := congrArg ((S 1100002)) h173_
        have e223_ : S 1100005 (S 12 (5 * l2_2 + 0)) = S 1100005 (S 12 (5 * l2_2)) := congrArg ((S 1100005)) h173_
        have e224_ : S 12 (5 * l2_2 + 0) = S 12 (5 * l2_2) := congrArg ((S 12)) la_declare_20
        exact (la_declare_29 (sm_ex_e (sm_li_r h162_ h184_)).2.2.1 e221_)
      refine ⟨(sm_LF_0 h83_), ?_⟩
      intro h225_
      obtain ⟨h226_, ⟨h227_, ⟨h228_, ⟨h229_, ⟨h230_, ⟨h231_, ⟨h232_, ⟨h233_, ⟨h234_, ⟨h235_, ⟨h236_, ⟨h237_, ⟨h238_, h239_⟩⟩⟩⟩⟩⟩⟩⟩⟩⟩⟩⟩⟩ := (h101_ h225_)
      refine ⟨h226_, ?_⟩
      refine ⟨h227_, ?_⟩
      refine ⟨h228_, ?_⟩
      refine ⟨h229_, ?_⟩
      refine ⟨(la_declare_30 h29_ h232_ h233_ h236_), ?_⟩
      refine ⟨(la_declare_30 h30_ h232_ h235_ h237_), ?_⟩
      refine ⟨(la_declare_31 (sm_KC_n h24_).2.1.2.2.2.2.1 h31_ h77_ h84_ h232_), ?_⟩
      have h240_ := (h175_ (sm_ex_e (sm_li_r h162_ h184_)).1)
      obtain ⟨h241_, ⟨h242_, ⟨h243_, h244_⟩⟩⟩ := (h240_ (sm_ex_e (sm_li_r h162_ h184_)).2.1)
      obtain ⟨h245_, ⟨h246_, ⟨h247_, h248_⟩⟩⟩ := (h241_ (sm_ex_e (sm_li_r h162_ h184_)).2.2.1)
      have e249_ : (if S 1100002 p1 < 0 then 0 else S 1100002 p1 : Int) = S 1100002 p1 := if_neg (la_declare_26 h144_ (sm_ex_e (sm_li_r h162_ h184_)).2.2.2.1 h245_)
      have e250_ : S 1100002 (S 12 (5 * l2_2 + 0)) = S 1100002 (S 12 (5 * l2_2)) := congrArg ((S 1100002)) h173_
      have e251_ : S 1100005 (S 12 (5 * l2_2 + 0)) = S 1100005 (S 12 (5 * l2_2)) := congrArg ((S 1100005)) h173_
      have e252_ : S 1100007 (g1 1100023 (g1 1046 0)) = S 1100007 (S 1100023 (S 1046 0)) := congrArg ((S 1100007)) h233_
      have e253_ : S 1100007 (g1 1100025 (g1 1046 0)) = S 1100007 (S 1100025 (S 1046 0)) := congrArg ((S 1100007)) h235_
      have e254_ : S 12 (5 * l2_2 + 0) = S 12 (5 * l2_2) := congrArg ((S 12)) la_declare_20
      exact (la_declare_33 h32_ e136_ h144_ h146_ h177_ h239_ (sm_ex_e (sm_li_r h162_ h184_)).2.2.2.1)
    refine ⟨?_, ?_⟩
    · skip
      have h255_ := (h175_ (sm_ex_e (sm_li_r h162_ h184_)).1)
      obtain ⟨h256_, ⟨h257_, ⟨h258_, h259_⟩⟩⟩ := (h255_ (sm_ex_e (sm_li_r h162_ h184_)).2.1)
      obtain ⟨h260_, ⟨h261_, ⟨h262_, h263_⟩⟩⟩ := (h256_ (sm_ex_e (sm_li_r h162_ h184_)).2.2.1)
      have e264_ : (if S 1100002 p1 < 0 then 0 else S 1100002 p1 : Int) = S 1100002 p1 := if_neg (la_declare_26 h144_ (sm_ex_e (sm_li_r h162_ h184_)).2.2.2.1 h260_)
      have e265_ : S 1100002 (S 12 (5 * l2_2 + 0)) = S 1100002 (S 12 (5 * l2_2)) := congrArg ((S 1100002)) h173_
      have e266_ : S 1100005 (S 12 (5 * l2_2 + 0)) = S 1100005 (S 12 (5 * l2_2)) := congrArg ((S 1100005)) h173_
      have e267_ : S 12 (5 * l2_2 + 0) = S 12 (5 * l2_2) := congrArg ((S 12)) la_declare_20
      by_cases c268_ : g1 1047 0 = 0
      · skip
        have e269_ : (if g1 1047 0 = 0 then S 1100002 (S 12 (5 * l2_2 + 0)) + (600 - g1 1046 0) + 8 else 4 : Int) = S 1100002 (S 12 (5 * l2_2 + 0)) + (600 - g1 1046 0) + 8 := if_pos c268_
        obtain ⟨h270_, ⟨h271_, ⟨h272_, ⟨h273_, ⟨h274_, ⟨h275_, ⟨h276_, ⟨h277_, ⟨h278_, ⟨h279_, ⟨h280_, ⟨h281_, ⟨h282_, h283_⟩⟩⟩⟩⟩⟩⟩⟩⟩⟩⟩⟩⟩ := (h101_ c268_)
        exact (la_declare_34 h78_ h177_ h260_ e269_)
      · skip
        have e284_ : (if g1 1047 0 = 0 then S 1100002 (S 12 (5 * l2_2 + 0)) + (600 - g1 1046 0) + 8 else 4 : Int) = 4 := if_neg c268_
        exact (la_declare_36 e284_)
    refine ⟨?_, ?_⟩
    · skip
      refine ⟨?_, ?_⟩
      · skip
        have h285_ := (h175_ (sm_ex_e (sm_li_r h162_ h184_)).1)
        obtain ⟨h286_, ⟨h287_, ⟨h288_, h289_⟩⟩⟩ := (h285_ (sm_ex_e (sm_li_r h162_ h184_)).2.1)
        obtain ⟨h290_, ⟨h291_, ⟨h292_, h293_⟩⟩⟩ := (h286_ (sm_ex_e (sm_li_r h162_ h184_)).2.2.1)
        have e294_ : (if S 1100002 p1 < 0 then 0 else S 1100002 p1 : Int) = S 1100002 p1 := if_neg (la_declare_26 h144_ (sm_ex_e (sm_li_r h162_ h184_)).2.2.2.1 h290_)
        have e295_ : S 1100002 (S 12 (5 * l2_2 + 0)) = S 1100002 (S 12 (5 * l2_2)) := congrArg ((S 1100002)) h173_
        have e296_ : S 1100005 (S 12 (5 * l2_2 + 0)) = S 1100005 (S 12 (5 * l2_2)) := congrArg ((S 1100005)) h173_
        have e297_ : S 12 (5 * l2_2 + 0) = S 12 (5 * l2_2) := congrArg ((S 12)) la_declare_20
        by_cases c298_ : g1 1047 0 = 0
        · skip
          have e299_ : (if g1 1047 0 = 0 then S 1100002 (S 12 (5 * l2_2 + 0)) + (600 - g1 1046 0) + 8 else 4 : Int) = S 1100002 (S 12 (5 * l2_2 + 0)) + (600 - g1 1046 0) + 8 := if_pos c298_
          obtain ⟨h300_, ⟨h301_, ⟨h302_, ⟨h303_, ⟨h304_, ⟨h305_, ⟨h306_, ⟨h307_, ⟨h308_, ⟨h309_, ⟨h310_, ⟨h311_, ⟨h312_, h313_⟩⟩⟩⟩⟩⟩⟩⟩⟩⟩⟩⟩⟩ := (h101_ c298_)
          exact (la_declare_34 h78_ h177_ h290_ e299_)
        · skip
          have e314_ : (if g1 1047 0 = 0 then S 1100002 (S 12 (5 * l2_2 + 0)) + (600 - g1 1046 0) + 8 else 4 : Int) = 4 := if_neg c298_
          exact (la_declare_36 e314_)
      have e315_ : (if p1 = (-1) then 9 else (if S 1100002 p1 < 0 then 0 else S 1100002 p1) + (600 - S 1046 0) + 10 : Int) = (if S 1100002 p1 < 0 then 0 else S 1100002 p1) + (600 - S 1046 0) + 10 := if_neg h134_
      have h316_ := (h175_ (sm_ex_e (sm_li_r h162_ h184_)).1)
      obtain ⟨h317_, ⟨h318_, ⟨h319_, h320_⟩⟩⟩ := (h316_ (sm_ex_e (sm_li_r h162_ h184_)).2.1)
      obtain ⟨h321_, ⟨h322_, ⟨h323_, h324_⟩⟩⟩ := (h317_ (sm_ex_e (sm_li_r h162_ h184_)).2.2.1)
      have e325_ : (if S 1100002 p1 < 0 then 0 else S 1100002 p1 : Int) = S 1100002 p1 := if_neg (la_declare_26 h144_ (sm_ex_e (sm_li_r h162_ h184_)).2.2.2.1 h321_)
      have e326_ : S 1100002 (S 12 (5 * l2_2 + 0)) = S 1100002 (S 12 (5 * l2_2)) := congrArg ((S 1100002)) h173_
      have e327_ : S 1100005 (S 12 (5 * l2_2 + 0)) = S 1100005 (S 12 (5 * l2_2)) := congrArg ((S 1100005)) h173_
      have e328_ : S 12 (5 * l2_2 + 0) = S 12 (5 * l2_2) := congrArg ((S 12)) la_declare_20
      by_cases c329_ : g1 1047 0 = 0
      · skip
        have e330_ : (if g1 1047 0 = 0 then S 1100002 (S 12 (5 * l2_2 + 0)) + (600 - g1 1046 0) + 8 else 4 : Int) = S 1100002 (S 12 (5 * l2_2 + 0)) + (600 - g1 1046 0) + 8 := if_pos c329_
        obtain ⟨h331_, ⟨h332_, ⟨h333_, ⟨h334_, ⟨h335_, ⟨h336_, ⟨h337_, ⟨h338_, ⟨h339_, ⟨h340_, ⟨h341_, ⟨h342_, ⟨h343_, h344_⟩⟩⟩⟩⟩⟩⟩⟩⟩⟩⟩⟩⟩ := (h101_ c329_)
        exact (la_declare_37 h84_ h144_ h146_ h177_ (sm_ex_e (sm_li_r h162_ h184_)).2.2.2.1 e315_ e330_)
      · skip
        have e345_ : (if g1 1047 0 = 0 then S 1100002 (S 12 (5 * l2_2 + 0)) + (600 - g1 1046 0) + 8 else 4 : Int) = 4 := if_neg c329_
        exact (la_declare_38 h15_ h147_ e315_ e345_)
    intro g24
    rintro ⟨h346_, ⟨h347_, ⟨h348_, ⟨h349_, ⟨h350_, ⟨h351_, ⟨h352_, ⟨h353_, ⟨h354_, ⟨h355_, ⟨h356_, ⟨h357_, ⟨h358_, ⟨h359_, ⟨h360_, ⟨h361_, ⟨h362_, ⟨h363_, ⟨h364_, ⟨h365_, ⟨h366_, ⟨h367_, ⟨h368_, ⟨h369_, ⟨h370_, ⟨h371_, ⟨h372_, h373_⟩⟩⟩⟩⟩⟩⟩⟩⟩⟩⟩⟩⟩⟩⟩⟩⟩⟩⟩⟩⟩⟩⟩⟩⟩⟩⟩
    refine ⟨(la_declare_39 h8_ h141_ h142_), ?_⟩
    refine ⟨?_, ?_⟩
    · skip
      refine ⟨h346_, ?_⟩
      refine ⟨h347_, ?_⟩
      refine ⟨h348_, ?_⟩
      refine ⟨h349_, ?_⟩
      refine ⟨h11_, ?_⟩
      refine ⟨h12_, ?_⟩
      refine ⟨h10_, ?_⟩
      refine ⟨h13_, ?_⟩
      refine ⟨la_declare_40, ?_⟩
      intro h374_
      have h375_ : ¬ (g1 1047 0 = 1) := fun q_ => (la_declare_41 h374_) (h353_ q_)
      obtain ⟨h376_, ⟨h377_, ⟨h378_, ⟨h379_, ⟨h380_, ⟨h381_, ⟨h382_, ⟨h383_, ⟨h384_, ⟨h385_, ⟨h386_, ⟨h387_, ⟨h388_, ⟨h389_, ⟨h390_, ⟨h391_, -⟩⟩⟩⟩⟩⟩⟩⟩⟩⟩⟩⟩⟩⟩⟩⟩ := (h373_ h374_)
      have h392_ := (h372_ h376_)
      obtain ⟨h393_, ⟨h394_, ⟨h395_, ⟨h396_, ⟨h397_, ⟨h398_, ⟨h399_, ⟨h400_, ⟨h401_, ⟨h402_, ⟨h403_, ⟨h404_, ⟨h405_, h406_⟩⟩⟩⟩⟩⟩⟩⟩⟩⟩⟩⟩⟩ := (h101_ h376_)
      refine ⟨h377_, ?_⟩
      refine ⟨h166_, ?_⟩
      refine ⟨h167_, ?_⟩
      refine ⟨la_declare_43, ?_⟩
      intro h407_
      refine ⟨(la_declare_44 h383_ (sm_KC_n h393_).2.1.1), ?_⟩
      refine ⟨(la_declare_45 h29_ h383_ h384_ h387_ h399_ h400_ h403_), ?_⟩
      intro h408_
      have h409_ := (h30_ (la_declare_46 h386_ h402_ h408_))
      exact (la_declare_47 h383_ h388_ h399_ h404_ h409_)
    refine ⟨?_, ?_⟩
    · skip
      have e410_ : (if p1 = (-1) then 9 else (if S 1100002 p1 < 0 then 0 else S 1100002 p1) + (600 - S 1046 0) + 10 : Int) = (if S 1100002 p1 < 0 then 0 else S 1100002 p1) + (600 - S 1046 0) + 10 := if_neg h134_
      have h411_ := (h175_ (sm_ex_e (sm_li_r h162_ h184_)).1)
      obtain ⟨h412_, ⟨h413_, ⟨h414_, h415_⟩⟩⟩ := (h411_ (sm_ex_e (sm_li_r h162_ h184_)).2.1)
      obtain ⟨h416_, ⟨h417_, ⟨h418_, h419_⟩⟩⟩ := (h412_ (sm_ex_e (sm_li_r h162_ h184_)).2.2.1)
      have e420_ : (if S 1100002 p1 < 0 then 0 else S 1100002 p1 : Int) = S 1100002 p1 := if_neg (la_declare_26 h144_ (sm_ex_e (sm_li_r h162_ h184_)).2.2.2.1 h416_)
      have e421_ : S 1100002 (S 12 (5 * l2_2 + 0)) = S 1100002 (S 12 (5 * l2_2)) := congrArg ((S 1100002)) h173_
      have e422_ : S 1100005 (S 12 (5 * l2_2 + 0)) = S 1100005 (S 12 (5 * l2_2)) := congrArg ((S 1100005)) h173_
      have e423_ : S 12 (5 * l2_2 + 0) = S 12 (5 * l2_2) := congrArg ((S 12)) la_declare_20
      exact (la_declare_48 h15_ h147_ e410_)
    intro g33
    rintro ⟨h424_, ⟨h425_, ⟨h426_, ⟨h427_, ⟨h428_, ⟨h429_, ⟨h430_, ⟨h431_, ⟨h432_, ⟨h433_, ⟨h434_, ⟨h435_, ⟨h436_, ⟨h437_, ⟨h438_, ⟨h439_, h440_⟩⟩⟩⟩⟩⟩⟩⟩⟩⟩⟩⟩⟩⟩⟩⟩
    have e441_ : (if (2 : Int) = 1 then 1 else 0 : Int) = 0 := if_neg la_declare_49
    refine ⟨?_, ?_⟩
    · skip
      refine ⟨(la_declare_50 h426_), ?_⟩
      refine ⟨h429_, ?_⟩
      refine ⟨h424_, ?_⟩
      refine ⟨h425_, ?_⟩
      intro h442_
      have h443_ : ¬ (g24 1047 0 = 1) := fun q_ => (la_declare_41 h442_) (h430_ q_)
      obtain ⟨h444_, ⟨h445_, ⟨h446_, ⟨h447_, ⟨h448_, ⟨h449_, ⟨h450_, ⟨h451_, ⟨h452_, ⟨h453_, ⟨h454_, h455_⟩⟩⟩⟩⟩⟩⟩⟩⟩⟩⟩ := (h440_ h442_)
      have h456_ : ¬ (g1 1047 0 = 1) := fun q_ => h443_ (h353_ q_)
      obtain ⟨h457_, ⟨h458_, ⟨h459_, ⟨h460_, ⟨h461_, ⟨h462_, ⟨h463_, ⟨h464_, ⟨h465_, ⟨h466_, ⟨h467_, ⟨h468_, ⟨h469_, ⟨h470_, ⟨h471_, ⟨h472_, -⟩⟩⟩⟩⟩⟩⟩⟩⟩⟩⟩⟩⟩⟩⟩⟩ := (h373_ h444_)
      have h473_ := (h372_ h457_)
      obtain ⟨h474_, ⟨h475_, ⟨h476_, ⟨h477_, ⟨h478_, ⟨h479_, ⟨h480_, ⟨h481_, ⟨h482_, ⟨h483_, ⟨h484_, ⟨h485_, ⟨h486_, h487_⟩⟩⟩⟩⟩⟩⟩⟩⟩⟩⟩⟩⟩ := (h101_ h457_)
      refine ⟨h446_, ?_⟩
      refine ⟨la_declare_51, ?_⟩
      refine ⟨la_declare_52, ?_⟩
      refine ⟨(sm_ci_17 (la_declare_53 h29_ h30_ (sv_i01 (p := (2 : Int) = 1)).1 e441_ h450_ h451_ h453_ h454_ h455_ h464_ h465_ h467_ h468_ h469_ (sm_KC_n h474_).2.1.1 h480_ h481_ h483_ h484_ h485_ (sm_dl_17 : sm_dl 17 0 = (-1)) (sm_nt_17 : sm_nt 17 (g33 1046 0) (g33 1100023 (g33 1046 0)) (g33 1100023 (g33 1100023 (g33 1046 0))) = g33 1100023 (g33 1046 0)) (sm_nl_17b : (0 ≤ g33 1100025 (g33 1046 0) → g33 1100007 (g33 1100025 (g33 1046 0)) < g33 1100007 (g33 1046 0)) → sm_nl 17 (g33 1046 0) (g33 1100007 (g33 1046 0)) (g33 1100025 (g33 1046 0)) (g33 1100007 (g33 1100025 (g33 1046 0))) (g33 1100025 (g33 1100025 (g33 1046 0))) = g33 1100025 (g33 1046 0)))), ?_⟩
      refine ⟨la_declare_54, ?_⟩
      intro h488_
      have h489_ := (h488_.resolve_left la_declare_55)
      have e490_ : (if S 1100002 p1 < 0 then 0 else S 1100002 p1 : Int) = 0 := if_pos (la_declare_59 h489_)
      have h491_ := (h29_ (la_declare_60 h489_))
      have h492_ := (h30_ (la_declare_60 h489_))
      obtain ⟨h493_, ⟨h494_, ⟨h495_, ⟨h496_, ⟨h497_, ⟨h498_, ⟨h499_, ⟨h500_, h501_⟩⟩⟩⟩⟩⟩⟩⟩ := (h172_.resolve_left (la_declare_61 h489_))
      have h502_ := (h175_ (sm_ex_e (sm_li_r h162_ h184_)).1)
      have h503_ := (h448_.resolve_left (la_declare_64 h489_))
      have h504_ := ((sm_nl_17b : (0 ≤ g33 1100025 (g33 1046 0) → g33 1100007 (g33 1100025 (g33 1046 0)) < g33 1100007 (g33 1046 0)) → sm_nl 17 (g33 1046 0) (g33 1100007 (g33 1046 0)) (g33 1100025 (g33 1046 0)) (g33 1100007 (g33 1100025 (g33 1046 0))) (g33 1100025 (g33 1100025 (g33 1046 0))) = g33 1100025 (g33 1046 0)) (la_declare_65 h489_))
      have h505_ := (h500_ (la_declare_66 h489_))
      have h506_ := (h501_ (la_declare_67 h489_))
      obtain ⟨h507_, ⟨h508_, ⟨h509_, h510_⟩⟩⟩ := (h502_ (sm_ex_e (sm_li_r h162_ h184_)).2.1)
      have h511_ := (h506_ (la_declare_68 h489_))
      obtain ⟨h512_, ⟨h513_, ⟨h514_, h515_⟩⟩⟩ := (h507_ (sm_ex_e (sm_li_r h162_ h184_)).2.2.1)
      obtain ⟨h516_, ⟨h517_, h518_⟩⟩ := (h508_ (la_declare_68 h489_))
      obtain ⟨h519_, ⟨h520_, h521_⟩⟩ := (h509_ (la_declare_67 h489_))
      have h522_ := (h510_ (la_declare_69 h489_))
      have h523_ := (h513_ (la_declare_69 h489_))
      have h524_ := (h514_ (la_declare_70 h489_))
      have h525_ := (h518_ (la_declare_71 h489_))
      have h526_ := (h521_ (la_declare_72 h489_))
      have e527_ : S 1100001 (S 13 l2_2) = S 1100001 (S 12 (5 * l2_2)) := congrArg ((S 1100001)) (la_declare_73 h489_)
      have e528_ : S 1100001 l2_2 = S 1100001 (S 12 (5 * l2_2)) := congrArg ((S 1100001)) (la_declare_73 h489_)
      have e529_ : S 1100001 l2_2 = S 1100001 (S 13 l2_2) := congrArg ((S 1100001)) (la_declare_73 h489_)
      have e530_ : S 1100001 p1 = S 1100001 (S 12 (5 * l2_2)) := congrArg ((S 1100001)) (la_declare_73 h489_)
      have e531_ : S 1100001 p1 = S 1100001 (S 13 l2_2) := congrArg ((S 1100001)) (la_declare_73 h489_)
      have e532_ : S 1100001 p1 = S 1100001 l2_2 := congrArg ((S 1100001)) (la_declare_73 h489_)
      have e533_ : S 1100002 (S 12 (5 * l2_2 + 0)) = S 1100002 (S 12 (5 * l2_2)) := congrArg ((S 1100002)) h173_
      have e534_ : S 1100002 (S 13 l2_2) = S 1100002 (S 12 (5 * l2_2)) := congrArg ((S 1100002)) (la_declare_73 h489_)
      have e535_ : S 1100002 (S 13 l2_2) = S 1100002 (S 12 (5 * l2_2 + 0)) := congrArg ((S 1100002)) (la_declare_73 h489_)
      have e536_ : S 1100002 l2_2 = S 1100002 (S 12 (5 * l2_2)) := congrArg ((S 1100002)) (la_declare_73 h489_)
      have e537_ : S 1100002 l2_2 = S 1100002 (S 12 (5 * l2_2 + 0)) := congrArg ((S 1100002)) (la_declare_73 h489_)
      have e538_ : S 1100002 l2_2 = S 1100002 (S 13 l2_2) := congrArg ((S 1100002)) (la_declare_73 h489_)
      have e539_ : S 1100002 p1 = S 1100002 (S 12 (5 * l2_2)) := congrArg ((S 1100002)) (la_declare_73 h489_)
      have e540_ : S 1100002 p1 = S 1100002 (S 12 (5 * l2_2 + 0)) := congrArg ((S 1100002)) (la_declare_73 h489_)
      have e541_ : S 1100002 p1 = S 1100002 (S 13 l2_2) := congrArg ((S 1100002)) (la_declare_73 h489_)
      have e542_ : S 1100002 p1 = S 1100002 l2_2 := congrArg ((S 1100002)) (la_declare_73 h489_)
      have e543_ : S 1100003 l2_2 = S 1100003 (S 13 l2_2) := congrArg ((S 1100003)) (la_declare_73 h489_)
      have e544_ : S 1100004 (S 13 l2_2) = S 1100004 (S 12 (5 * l2_2)) := congrArg ((S 1100004)) (la_declare_73 h489_)
      have e545_ : S 1100004 l2_2 = S 1100004 (S 12 (5 * l2_2)) := congrArg ((S 1100004)) (la_declare_73 h489_)
      have e546_ : S 1100004 l2_2 = S 1100004 (S 13 l2_2) := congrArg ((S 1100004)) (la_declare_73 h489_)
      have e547_ : S 1100005 (S 12 (5 * l2_2 + 0)) = S 1100005 (S 12 (5 * l2_2)) := congrArg ((S 1100005)) h173_
      have e548_ : S 1100005 (S 13 l2_2) = S 1100005 (S 12 (5 * l2_2)) := congrArg ((S 1100005)) (la_declare_73 h489_)
      have e549_ : S 1100005 (S 13 l2_2) = S 1100005 (S 12 (5 * l2_2 + 0)) := congrArg ((S 1100005)) (la_declare_73 h489_)
      have e550_ : S 1100005 l2_2 = S 1100005 (S 12 (5 * l2_2)) := congrArg ((S 1100005)) (la_declare_73 h489_)
      have e551_ : S 1100005 l2_2 = S 1100005 (S 12 (5 * l2_2 + 0)) := congrArg ((S 1100005)) (la_declare_73 h489_)
      have e552_ : S 1100005 l2_2 = S 1100005 (S 13 l2_2) := congrArg ((S 1100005)) (la_declare_73 h489_)
      have e553_ : S 1100005 p1 = S 1100005 (S 12 (5 * l2_2)) := congrArg ((S 1100005)) (la_declare_73 h489_)
      have e554_ : S 1100005 p1 = S 1100005 (S 12 (5 * l2_2 + 0)) := congrArg ((S 1100005)) (la_declare_73 h489_)
      have e555_ : S 1100005 p1 = S 1100005 (S 13 l2_2) := congrArg ((S 1100005)) (la_declare_73 h489_)
      have e556_ : S 1100005 p1 = S 1100005 l2_2 := congrArg ((S 1100005)) (la_declare_73 h489_)
      have e557_ : S 1100007 (S 1100023 (S 1046 0)) = S 1100007 (S 1046 0) := congrArg ((S 1100007)) (la_declare_73 h489_)
      have e558_ : S 1100007 (S 1100025 (S 1046 0)) = S 1100007 (S 1046 0) := congrArg ((S 1100007)) (la_declare_73 h489_)
      have e559_ : S 1100007 (S 1100025 (S 1046 0)) = S 1100007 (S 1100023 (S 1046 0)) := congrArg ((S 1100007)) (la_declare_73 h489_)
      have e560_ : S 1100007 (g1 1046 0) = S 1100007 (S 1046 0) := congrArg ((S 1100007)) (la_declare_73 h489_)
      have e561_ : S 1100007 (g1 1046 0) = S 1100007 (S 1100023 (S 1046 0)) := congrArg ((S 1100007)) (la_declare_73 h489_)
      have e562_ : S 1100007 (g1 1046 0) = S 1100007 (S 1100025 (S 1046 0)) := congrArg ((S 1100007)) (la_declare_73 h489_)
      have e563_ : S 1100007 (g1 1100023 (g1 1046 0)) = S 1100007 (S 1046 0) := congrArg ((S 1100007)) (la_declare_73 h489_)
      have e564_ : S 1100007 (g1 1100023 (g1 1046 0)) = S 1100007 (S 1100023 (S 1046 0)) := congrArg ((S 1100007)) h481_
      have e565_ : S 1100007 (g1 1100023 (g1 1046 0)) = S 1100007 (S 1100025 (S 1046 0)) := congrArg ((S 1100007)) (la_declare_73 h489_)
      have e566_ : S 1100007 (g1 1100023 (g1 1046 0)) = S 1100007 (g1 1046 0) := congrArg ((S 1100007)) (la_declare_73 h489_)
      have e567_ : S 1100007 (g1 1100025 (g1 1046 0)) = S 1100007 (S 1046 0) := congrArg ((S 1100007)) (la_declare_73 h489_)
      have e568_ : S 1100007 (g1 1100025 (g1 1046 0)) = S 1100007 (S 1100023 (S 1046 0)) := congrArg ((S 1100007)) (la_declare_73 h489_)
      have e569_ : S 1100007 (g1 1100025 (g1 1046 0)) = S 1100007 (S 1100025 (S 1046 0)) := congrArg ((S 1100007)) h483_
      have e570_ : S 1100007 (g1 1100025 (g1 1046 0)) = S 1100007 (g1 1046 0) := congrArg ((S 1100007)) (la_declare_73 h489_)
      have e571_ : S 1100007 (g1 1100025 (g1 1046 0)) = S 1100007 (g1 1100023 (g1 1046 0)) := congrArg ((S 1100007)) (la_declare_73 h489_)
      have e572_ : S 1100007 (g24 1046 0) = S 1100007 (S 1046 0) := congrArg ((S 1100007)) (la_declare_73 h489_)
      have e573_ : S 1100007 (g24 1046 0) = S 1100007 (S 1100023 (S 1046 0)) := congrArg ((S 1100007)) (la_declare_73 h489_)
      have e574_ : S 1100007 (g24 1046 0) = S 1100007 (S 1100025 (S 1046 0)) := congrArg ((S 1100007)) (la_declare_73 h489_)
      have e575_ : S 1100007 (g24 1046 0) = S 1100007 (g1 1046 0) := congrArg ((S 1100007)) (la_declare_73 h489_)
      have e576_ : S 1100007 (g24 1046 0) = S 1100007 (g1 1100023 (g1 1046 0)) := congrArg ((S 1100007)) (la_declare_73 h489_)
      have e577_ : S 1100007 (g24 1046 0) = S 1100007 (g1 1100025 (g1 1046 0)) := congrArg ((S 1100007)) (la_declare_73 h489_)
      have e578_ : S 1100007 (g24 1100023 (g24 1046 0)) = S 1100007 (S 1046 0) := congrArg ((S 1100007)) (la_declare_73 h489_)
      have e579_ : S 1100007 (g24 1100023 (g24 1046 0)) = S 1100007 (S 1100023 (S 1046 0)) := congrArg ((S 1100007)) (la_declare_73 h489_)
      have e580_ : S 1100007 (g24 1100023 (g24 1046 0)) = S 1100007 (S 1100025 (S 1046 0)) := congrArg ((S 1100007)) (la_declare_73 h489_)
      have e581_ : S 1100007 (g24 1100023 (g24 1046 0)) = S 1100007 (g1 1046 0) := congrArg ((S 1100007)) (la_declare_73 h489_)
      have e582_ : S 1100007 (g24 1100023 (g24 1046 0)) = S 1100007 (g1 1100023 (g1 1046 0)) := congrArg ((S 1100007)) h465_
      have e583_ : S 1100007 (g24 1100023 (g24 1046 0)) = S 1100007 (g1 1100025 (g1 1046 0)) := congrArg ((S 1100007)) (la_declare_73 h489_)
      have e584_ : S 1100007 (g24 1100023 (g24 1046 0)) = S 1100007 (g24 1046 0) := congrArg ((S 1100007)) (la_declare_73 h489_)
      have e585_ : S 1100007 (g24 1100025 (g24 1046 0)) = S 1100007 (S 1046 0) := congrArg ((S 1100007)) (la_declare_73 h489_)
      have e586_ : S 1100007 (g24 1100025 (g24 1046 0)) = S 1100007 (S 1100023 (S 1046 0)) := congrArg ((S 1100007)) (la_declare_73 h489_)
      have e587_ : S 1100007 (g24 1100025 (g24 1046 0)) = S 1100007 (S 1100025 (S 1046 0)) := congrArg ((S 1100007)) (la_declare_73 h489_)
      have e588_ : S 1100007 (g24 1100025 (g24 1046 0)) = S 1100007 (g1 1046 0) := congrArg ((S 1100007)) (la_declare_73 h489_)
      have e589_ : S 1100007 (g24 1100025 (g24 1046 0)) = S 1100007 (g1 1100023 (g1 1046 0)) := congrArg ((S 1100007)) (la_declare_73 h489_)
      have e590_ : S 1100007 (g24 1100025 (g24 1046 0)) = S 1100007 (g1 1100025 (g1 1046 0)) := congrArg ((S 1100007)) h467_
      have e591_ : S 1100007 (g24 1100025 (g24 1046 0)) = S 1100007 (g24 1046 0) := congrArg ((S 1100007)) (la_declare_73 h489_)
      have e592_ : S 1100007 (g24 1100025 (g24 1046 0)) = S 1100007 (g24 1100023 (g24 1046 0)) := congrArg ((S 1100007)) (la_declare_73 h489_)
      have e593_ : S 1100007 (g33 1046 0) = S 1100007 (S 1046 0) := congrArg ((S 1100007)) (la_declare_73 h489_)
      have e594_ : S 1100007 (g33 1046 0) = S 1100007 (S 1100023 (S 1046 0)) := congrArg ((S 1100007)) (la_declare_73 h489_)
      have e595_ : S 1100007 (g33 1046 0) = S 1100007 (S 1100025 (S 1046 0)) := congrArg ((S 1100007)) (la_declare_73 h489_)
      have e596_ : S 1100007 (g33 1046 0) = S 1100007 (g1 1046 0) := congrArg ((S 1100007)) (la_declare_73 h489_)
      have e597_ : S 1100007 (g33 1046 0) = S 1100007 (g1 1100023 (g1 1046 0)) := congrArg ((S 1100007)) (la_declare_73 h489_)
      have e598_ : S 1100007 (g33 1046 0) = S 1100007 (g1 1100025 (g1 1046 0)) := congrArg ((S 1100007)) (la_declare_73 h489_)
      have e599_ : S 1100007 (g33 1046 0) = S 1100007 (g24 1046 0) := congrArg ((S 1100007)) (la_declare_73 h489_)
      have e600_ : S 1100007 (g33 1046 0) = S 1100007 (g24 1100023 (g24 1046 0)) := congrArg ((S 1100007)) (la_declare_73 h489_)
      have e601_ : S 1100007 (g33 1046 0) = S 1100007 (g24 1100025 (g24 1046 0)) := congrArg ((S 1100007)) (la_declare_73 h489_)
      have e602_ : S 1100007 (g33 1100023 (g33 1046 0)) = S 1100007 (S 1046 0) := congrArg ((S 1100007)) (la_declare_73 h489_)
      have e603_ : S 1100007 (g33 1100023 (g33 1046 0)) = S 1100007 (S 1100023 (S 1046 0)) := congrArg ((S 1100007)) (la_declare_73 h489_)
      have e604_ : S 1100007 (g33 1100023 (g33 1046 0)) = S 1100007 (S 1100025 (S 1046 0)) := congrArg ((S 1100007)) (la_declare_73 h489_)
      have e605_ : S 1100007 (g33 1100023 (g33 1046 0)) = S 1100007 (g1 1046 0) := congrArg ((S 1100007)) (la_declare_73 h489_)
      have e606_ : S 1100007 (g33 1100023 (g33 1046 0)) = S 1100007 (g1 1100023 (g1 1046 0)) := congrArg ((S 1100007)) (la_declare_73 h489_)
      have e607_ : S 1100007 (g33 1100023 (g33 1046 0)) = S 1100007 (g1 1100025 (g1 1046 0)) := congrArg ((S 1100007)) (la_declare_73 h489_)
      have e608_ : S 1100007 (g33 1100023 (g33 1046 0)) = S 1100007 (g24 1046 0) := congrArg ((S 1100007)) (la_declare_73 h489_)
      have e609_ : S 1100007 (g33 1100023 (g33 1046 0)) = S 1100007 (g24 1100023 (g24 1046 0)) := congrArg ((S 1100007)) h451_
      have e610_ : S 1100007 (g33 1100023 (g33 1046 0)) = S 1100007 (g24 1100025 (g24 1046 0)) := congrArg ((S 1100007)) (la_declare_73 h489_)
      have e611_ : S 1100007 (g33 1100023 (g33 1046 0)) = S 1100007 (g33 1046 0) := congrArg ((S 1100007)) (la_declare_73 h489_)
      have e612_ : S 1100007 (g33 1100025 (g33 1046 0)) = S 1100007 (S 1046 0) := congrArg ((S 1100007)) (la_declare_73 h489_)
      have e613_ : S 1100007 (g33 1100025 (g33 1046 0)) = S 1100007 (S 1100023 (S 1046 0)) := congrArg ((S 1100007)) (la_declare_73 h489_)
      have e614_ : S 1100007 (g33 1100025 (g33 1046 0)) = S 1100007 (S 1100025 (S 1046 0)) := congrArg ((S 1100007)) (la_declare_73 h489_)
      have e615_ : S 1100007 (g33 1100025 (g33 1046 0)) = S 1100007 (g1 1046 0) := congrArg ((S 1100007)) (la_declare_73 h489_)
      have e616_ : S 1100007 (g33 1100025 (g33 1046 0)) = S 1100007 (g1 1100023 (g1 1046 0)) := congrArg ((S 1100007)) (la_declare_73 h489_)
      have e617_ : S 1100007 (g33 1100025 (g33 1046 0)) = S 1100007 (g1 1100025 (g1 1046 0)) := congrArg ((S 1100007)) (la_declare_73 h489_)
      have e618_ : S 1100007 (g33 1100025 (g33 1046 0)) = S 1100007 (g24 1046 0) := congrArg ((S 1100007)) (la_declare_73 h489_)
      have e619_ : S 1100007 (g33 1100025 (g33 1046 0)) = S 1100007 (g24 1100023 (g24 1046 0)) := congrArg ((S 1100007)) (la_declare_73 h489_)
      have e620_ : S 1100007 (g33 1100025 (g33 1046 0)) = S 1100007 (g24 1100025 (g24 1046 0)) := congrArg ((S 1100007)) h453_
      have e621_ : S 1100007 (g33 1100025 (g33 1046 0)) = S 1100007 (g33 1046 0) := congrArg ((S 1100007)) (la_declare_73 h489_)
      have e622_ : S 1100007 (g33 1100025 (g33 1046 0)) = S 1100007 (g33 1100023 (g33 1046 0)) := congrArg ((S 1100007)) (la_declare_73 h489_)
      have e623_ : S 1100023 (g1 1046 0) = S 1100023 (S 1046 0) := congrArg ((S 1100023)) (la_declare_73 h489_)
      have e624_ : S 1100023 (g24 1046 0) = S 1100023 (S 1046 0) := congrArg ((S 1100023)) (la_declare_73 h489_)
      have e625_ : S 1100023 (g24 1046 0) = S 1100023 (g1 1046 0) := congrArg ((S 1100023)) (la_declare_73 h489_)
      have e626_ : S 1100023 (g33 1046 0) = S 1100023 (S 1046 0) := congrArg ((S 1100023)) (la_declare_73 h489_)
      have e627_ : S 1100023 (g33 1046 0) = S 1100023 (g1 1046 0) := congrArg ((S 1100023)) (la_declare_73 h489_)
      have e628_ : S 1100023 (g33 1046 0) = S 1100023 (g24 1046 0) := congrArg ((S 1100023)) (la_declare_73 h489_)
      have e629_ : S 1100024 (g1 1046 0) = S 1100024 (S 1046 0) := congrArg ((S 1100024)) (la_declare_73 h489_)
      have e630_ : S 1100024 (g24 1046 0) = S 1100024 (S 1046 0) := congrArg ((S 1100024)) (la_declare_73 h489_)
      have e631_ : S 1100024 (g24 1046 0) = S 1100024 (g1 1046 0) := congrArg ((S 1100024)) (la_declare_73 h489_)
      have e632_ : S 1100024 (g33 1046 0) = S 1100024 (S 1046 0) := congrArg ((S 1100024)) (la_declare_73 h489_)
      have e633_ : S 1100024 (g33 1046 0) = S 1100024 (g1 1046 0) := congrArg ((S 1100024)) (la_declare_73 h489_)
      have e634_ : S 1100024 (g33 1046 0) = S 1100024 (g24 1046 0) := congrArg ((S 1100024)) (la_declare_73 h489_)
      have e635_ : S 1100025 (g1 1046 0) = S 1100025 (S 1046 0) := congrArg ((S 1100025)) (la_declare_73 h489_)
      have e636_ : S 1100025 (g24 1046 0) = S 1100025 (S 1046 0) := congrArg ((S 1100025)) (la_declare_73 h489_)
      have e637_ : S 1100025 (g24 1046 0) = S 1100025 (g1 1046 0) := congrArg ((S 1100025)) (la_declare_73 h489_)
      have e638_ : S 1100025 (g33 1046 0) = S 1100025 (S 1046 0) := congrArg ((S 1100025)) (la_declare_73 h489_)
      have e639_ : S 1100025 (g33 1046 0) = S 1100025 (g1 1046 0) := congrArg ((S 1100025)) (la_declare_73 h489_)
      have e640_ : S 1100025 (g33 1046 0) = S 1100025 (g24 1046 0) := congrArg ((S 1100025)) (la_declare_73 h489_)
      have e641_ : S 12 (5 * S 12 (5 * l2_2) + 1) = S 12 (5 * l2_2) := congrArg ((S 12)) (la_declare_74 h489_)
      have e642_ : S 12 (5 * l2_2 + 0) = S 12 (5 * l2_2) := congrArg ((S 12)) la_declare_20
      have e643_ : S 12 (5 * l2_2 + 0) = S 12 (5 * S 12 (5 * l2_2) + 1) := congrArg ((S 12)) (la_declare_75 h489_)
      have e644_ : S 12 (5 * l2_2 + 1) = S 12 (5 * l2_2) := congrArg ((S 12)) (la_declare_76 h489_)
      have e645_ : S 12 (5 * l2_2 + 1) = S 12 (5 * S 12 (5 * l2_2) + 1) := congrArg ((S 12)) (la_declare_77 h489_)
      have e646_ : S 12 (5 * l2_2 + 1) = S 12 (5 * l2_2 + 0) := congrArg ((S 12)) (la_declare_78 h489_)
      have e647_ : g1 1100007 (g1 1100023 (g1 1046 0)) = g1 1100007 (g1 1046 0) := congrArg ((g1 1100007)) (la_declare_73 h489_)
      have e648_ : g1 1100007 (g1 1100025 (g1 1046 0)) = g1 1100007 (g1 1046 0) := congrArg ((g1 1100007)) (la_declare_73 h489_)
      have e649_ : g1 1100007 (g1 1100025 (g1 1046 0)) = g1 1100007 (g1 1100023 (g1 1046 0)) := congrArg ((g1 1100007)) (la_declare_73 h489_)
      have e650_ : g1 1100007 (g24 1046 0) = g1 1100007 (g1 1046 0) := congrArg ((g1 1100007)) (la_declare_73 h489_)
      have e651_ : g1 1100007 (g24 1046 0) = g1 1100007 (g1 1100023 (g1 1046 0)) := congrArg ((g1 1100007)) (la_declare_73 h489_)
      have e652_ : g1 1100007 (g24 1046 0) = g1 1100007 (g1 1100025 (g1 1046 0)) := congrArg ((g1 1100007)) (la_declare_73 h489_)
      have e653_ : g1 1100007 (g24 1100023 (g24 1046 0)) = g1 1100007 (g1 1046 0) := congrArg ((g1 1100007)) (la_declare_73 h489_)
      have e654_ : g1 1100007 (g24 1100023 (g24 1046 0)) = g1 1100007 (g1 1100023 (g1 1046 0)) := congrArg ((g1 1100007)) h465_
      have e655_ : g1 1100007 (g24 1100023 (g24 1046 0)) = g1 1100007 (g1 1100025 (g1 1046 0)) := congrArg ((g1 1100007)) (la_declare_73 h489_)
      have e656_ : g1 1100007 (g24 1100023 (g24 1046 0)) = g1 1100007 (g24 1046 0) := congrArg ((g1 1100007)) (la_declare_73 h489_)
      have e657_ : g1 1100007 (g24 1100025 (g24 1046 0)) = g1 1100007 (g1 1046 0) := congrArg ((g1 1100007)) (la_declare_73 h489_)
      have e658_ : g1 1100007 (g24 1100025 (g24 1046 0)) = g1 1100007 (g1 1100023 (g1 1046 0)) := congrArg ((g1 1100007)) (la_declare_73 h489_)
      have e659_ : g1 1100007 (g24 1100025 (g24 1046 0)) = g1 1100007 (g1 1100025 (g1 1046 0)) := congrArg ((g1 1100007)) h467_
      have e660_ : g1 1100007 (g24 1100025 (g24 1046 0)) = g1 1100007 (g24 1046 0) := congrArg ((g1 1100007)) (la_declare_73 h489_)
      have e661_ : g1 1100007 (g24 1100025 (g24 1046 0)) = g1 1100007 (g24 1100023 (g24 1046 0)) := congrArg ((g1 1100007)) (la_declare_73 h489_)
      have e662_ : g1 1100007 (g33 1046 0) = g1 1100007 (g1 1046 0) := congrArg ((g1 1100007)) (la_declare_73 h489_)
      have e663_ : g1 1100007 (g33 1046 0) = g1 1100007 (g1 1100023 (g1 1046 0)) := congrArg ((g1 1100007)) (la_declare_73 h489_)
      have e664_ : g1 1100007 (g33 1046 0) = g1 1100007 (g1 1100025 (g1 1046 0)) := congrArg ((g1 1100007)) (la_declare_73 h489_)
      have e665_ : g1 1100007 (g33 1046 0) = g1 1100007 (g24 1046 0) := congrArg ((g1 1100007)) (la_declare_73 h489_)
      have e666_ : g1 1100007 (g33 1046 0) = g1 1100007 (g24 1100023 (g24 1046 0)) := congrArg ((g1 1100007)) (la_declare_73 h489_)
      have e667_ : g1 1100007 (g33 1046 0) = g1 1100007 (g24 1100025 (g24 1046 0)) := congrArg ((g1 1100007)) (la_declare_73 h489_)
      have e668_ : g1 1100007 (g33 1100023 (g33 1046 0)) = g1 1100007 (g1 1046 0) := congrArg ((g1 1100007)) (la_declare_73 h489_)
      have e669_ : g1 1100007 (g33 1100023 (g33 1046 0)) = g1 1100007 (g1 1100023 (g1 1046 0)) := congrArg ((g1 1100007)) (la_declare_73 h489_)
      have e670_ : g1 1100007 (g33 1100023 (g33 1046 0)) = g1 1100007 (g1 1100025 (g1 1046 0)) := congrArg ((g1 1100007)) (la_declare_73 h489_)
      have e671_ : g1 1100007 (g33 1100023 (g33 1046 0)) = g1 1100007 (g24 1046 0) := congrArg ((g1 1100007)) (la_declare_73 h489_)
      have e672_ : g1 1100007 (g33 1100023 (g33 1046 0)) = g1 1100007 (g24 1100023 (g24 1046 0)) := congrArg ((g1 1100007)) h451_
      have e673_ : g1 1100007 (g33 1100023 (g33 1046 0)) = g1 1100007 (g24 1100025 (g24 1046 0)) := congrArg ((g1 1100007)) (la_declare_73 h489_)
      have e674_ : g1 1100007 (g33 1100023 (g33 1046 0)) = g1 1100007 (g33 1046 0) := congrArg ((g1 1100007)) (la_declare_73 h489_)
      have e675_ : g1 1100007 (g33 1100025 (g33 1046 0)) = g1 1100007 (g1 1046 0) := congrArg ((g1 1100007)) (la_declare_73 h489_)
      have e676_ : g1 1100007 (g33 1100025 (g33 1046 0)) = g1 1100007 (g1 1100023 (g1 1046 0)) := congrArg ((g1 1100007)) (la_declare_73 h489_)
      have e677_ : g1 1100007 (g33 1100025 (g33 1046 0)) = g1 1100007 (g1 1100025 (g1 1046 0)) := congrArg ((g1 1100007)) (la_declare_73 h489_)
      have e678_ : g1 1100007 (g33 1100025 (g33 1046 0)) = g1 1100007 (g24 1046 0) := congrArg ((g1 1100007)) (la_declare_73 h489_)
      have e679_ : g1 1100007 (g33 1100025 (g33 1046 0)) = g1 1100007 (g24 1100023 (g24 1046 0)) := congrArg ((g1 1100007)) (la_declare_73 h489_)
      have e680_ : g1 1100007 (g33 1100025 (g33 1046 0)) = g1 1100007 (g24 1100025 (g24 1046 0)) := congrArg ((g1 1100007)) h453_
      have e681_ : g1 1100007 (g33 1100025 (g33 1046 0)) = g1 1100007 (g33 1046 0) := congrArg ((g1 1100007)) (la_declare_73 h489_)
      have e682_ : g1 1100007 (g33 1100025 (g33 1046 0)) = g1 1100007 (g33 1100023 (g33 1046 0)) := congrArg ((g1 1100007)) (la_declare_73 h489_)
      have e683_ : g1 1100023 (g24 1046 0) = g1 1100023 (g1 1046 0) := congrArg ((g1 1100023)) (la_declare_73 h489_)
      have e684_ : g1 1100023 (g33 1046 0) = g1 1100023 (g1 1046 0) := congrArg ((g1 1100023)) (la_declare_73 h489_)
      have e685_ : g1 1100023 (g33 1046 0) = g1 1100023 (g24 1046 0) := congrArg ((g1 1100023)) (la_declare_73 h489_)
      have e686_ : g1 1100024 (g24 1046 0) = g1 1100024 (g1 1046 0) := congrArg ((g1 1100024)) (la_declare_73 h489_)
      have e687_ : g1 1100024 (g33 1046 0) = g1 1100024 (g1 1046 0) := congrArg ((g1 1100024)) (la_declare_73 h489_)
      have e688_ : g1 1100024 (g33 1046 0) = g1 1100024 (g24 1046 0) := congrArg ((g1 1100024)) (la_declare_73 h489_)
      have e689_ : g1 1100025 (g24 1046 0) = g1 1100025 (g1 1046 0) := congrArg ((g1 1100025)) (la_declare_73 h489_)
      have e690_ : g1 1100025 (g33 1046 0) = g1 1100025 (g1 1046 0) := congrArg ((g1 1100025)) (la_declare_73 h489_)
      have e691_ : g1 1100025 (g33 1046 0) = g1 1100025 (g24 1046 0) := congrArg ((g1 1100025)) (la_declare_73 h489_)
      have e692_ : g24 1100007 (g24 1100023 (g24 1046 0)) = g24 1100007 (g24 1046 0) := congrArg ((g24 1100007)) (la_declare_73 h489_)
      have e693_ : g24 1100007 (g24 1100025 (g24 1046 0)) = g24 1100007 (g24 1046 0) := congrArg ((g24 1100007)) (la_declare_73 h489_)
      have e694_ : g24 1100007 (g24 1100025 (g24 1046 0)) = g24 1100007 (g24 1100023 (g24 1046 0)) := congrArg ((g24 1100007)) (la_declare_73 h489_)
      have e695_ : g24 1100007 (g33 1046 0) = g24 1100007 (g24 1046 0) := congrArg ((g24 1100007)) (la_declare_73 h489_)
      have e696_ : g24 1100007 (g33 1046 0) = g24 1100007 (g24 1100023 (g24 1046 0)) := congrArg ((g24 1100007)) (la_declare_73 h489_)
      have e697_ : g24 1100007 (g33 1046 0) = g24 1100007 (g24 1100025 (g24 1046 0)) := congrArg ((g24 1100007)) (la_declare_73 h489_)
      have e698_ : g24 1100007 (g33 1100023 (g33 1046 0)) = g24 1100007 (g24 1046 0) := congrArg ((g24 1100007)) (la_declare_73 h489_)
      have e699_ : g24 1100007 (g33 1100023 (g33 1046 0)) = g24 1100007 (g24 1100023 (g24 1046 0)) := congrArg ((g24 1100007)) h451_
      have e700_ : g24 1100007 (g33 1100023 (g33 1046 0)) = g24 1100007 (g24 1100025 (g24 1046 0)) := congrArg ((g24 1100007)) (la_declare_73 h489_)
      have e701_ : g24 1100007 (g33 1100023 (g33 1046 0)) = g24 1100007 (g33 1046 0) := congrArg ((g24 1100007)) (la_declare_73 h489_)
      have e702_ : g24 1100007 (g33 1100025 (g33 1046 0)) = g24 1100007 (g24 1046 0) := congrArg ((g24 1100007)) (la_declare_73 h489_)
      have e703_ : g24 1100007 (g33 1100025 (g33 1046 0)) = g24 1100007 (g24 1100023 (g24 1046 0)) := congrArg ((g24 1100007)) (la_declare_73 h489_)
      have e704_ : g24 1100007 (g33 1100025 (g33 1046 0)) = g24 1100007 (g24 1100025 (g24 1046 0)) := congrArg ((g24 1100007)) h453_
      have e705_ : g24 1100007 (g33 1100025 (g33 1046 0)) = g24 1100007 (g33 1046 0) := congrArg ((g24 1100007)) (la_declare_73 h489_)
      have e706_ : g24 1100007 (g33 1100025 (g33 1046 0)) = g24 1100007 (g33 1100023 (g33 1046 0)) := congrArg ((g24 1100007)) (la_declare_73 h489_)
      have e707_ : g24 1100023 (g33 1046 0) = g24 1100023 (g24 1046 0) := congrArg ((g24 1100023)) (la_declare_73 h489_)
      have e708_ : g24 1100024 (g33 1046 0) = g24 1100024 (g24 1046 0) := congrArg ((g24 1100024)) (la_declare_73 h489_)
      have e709_ : g24 1100025 (g33 1046 0) = g24 1100025 (g24 1046 0) := congrArg ((g24 1100025)) (la_declare_73 h489_)
      have e710_ : g33 1100007 (g33 1100023 (g33 1046 0)) = g33 1100007 (g33 1046 0) := congrArg ((g33 1100007)) (la_declare_73 h489_)
      have e711_ : g33 1100007 (g33 1100025 (g33 1046 0)) = g33 1100007 (g33 1046 0) := congrArg ((g33 1100007)) (la_declare_73 h489_)
      have e712_ : g33 1100007 (g33 1100025 (g33 1046 0)) = g33 1100007 (g33 1100023 (g33 1046 0)) := congrArg ((g33 1100007)) (la_declare_73 h489_)
      have e713_ : g33 1100023 (g33 1100023 (g33 1046 0)) = g33 1100023 (g33 1046 0) := congrArg ((g33 1100023)) (la_declare_73 h489_)
      have e714_ : g33 1100025 (g33 1100025 (g33 1046 0)) = g33 1100025 (g33 1046 0) := congrArg ((g33 1100025)) (la_declare_73 h489_)
      have e715_ : S 1100023 (g33 1100023 (g33 1046 0)) = S 1100023 (S 1046 0) := congrArg ((S 1100023)) (la_declare_73 h489_)
      have e716_ : S 1100023 (g33 1100023 (g33 1046 0)) = S 1100023 (g1 1046 0) := congrArg ((S 1100023)) (la_declare_73 h489_)
      have e717_ : S 1100023 (g33 1100023 (g33 1046 0)) = S 1100023 (g24 1046 0) := congrArg ((S 1100023)) (la_declare_73 h489_)
      have e718_ : S 1100023 (g33 1100023 (g33 1046 0)) = S 1100023 (g33 1046 0) := congrArg ((S 1100023)) (la_declare_73 h489_)
      have e719_ : S 1100025 (g33 1100025 (g33 1046 0)) = S 1100025 (S 1046 0) := congrArg ((S 1100025)) (la_declare_73 h489_)
      have e720_ : S 1100025 (g33 1100025 (g33 1046 0)) = S 1100025 (g1 1046 0) := congrArg ((S 1100025)) (la_declare_73 h489_)
      have e721_ : S 1100025 (g33 1100025 (g33 1046 0)) = S 1100025 (g24 1046 0) := congrArg ((S 1100025)) (la_declare_73 h489_)
      have e722_ : S 1100025 (g33 1100025 (g33 1046 0)) = S 1100025 (g33 1046 0) := congrArg ((S 1100025)) (la_declare_73 h489_)
      have e723_ : g1 1100023 (g33 1100023 (g33 1046 0)) = g1 1100023 (g1 1046 0) := congrArg ((g1 1100023)) (la_declare_73 h489_)
      have e724_ : g1 1100023 (g33 1100023 (g33 1046 0)) = g1 1100023 (g24 1046 0) := congrArg ((g1 1100023)) (la_declare_73 h489_)
      have e725_ : g1 1100023 (g33 1100023 (g33 1046 0)) = g1 1100023 (g33 1046 0) := congrArg ((g1 1100023)) (la_declare_73 h489_)
      have e726_ : g1 1100025 (g33 1100025 (g33 1046 0)) = g1 1100025 (g1 1046 0) := congrArg ((g1 1100025)) (la_declare_73 h489_)
      have e727_ : g1 1100025 (g33 1100025 (g33 1046 0)) = g1 1100025 (g24 1046 0) := congrArg ((g1 1100025)) (la_declare_73 h489_)
      have e728_ : g1 1100025 (g33 1100025 (g33 1046 0)) = g1 1100025 (g33 1046 0) := congrArg ((g1 1100025)) (la_declare_73 h489_)
      have e729_ : g24 1100023 (g33 1100023 (g33 1046 0)) = g24 1100023 (g24 1046 0) := congrArg ((g24 1100023)) (la_declare_73 h489_)
      have e730_ : g24 1100023 (g33 1100023 (g33 1046 0)) = g24 1100023 (g33 1046 0) := congrArg ((g24 1100023)) (la_declare_73 h489_)
      have e731_ : g24 1100025 (g33 1100025 (g33 1046 0)) = g24 1100025 (g24 1046 0) := congrArg ((g24 1100025)) (la_declare_73 h489_)
      have e732_ : g24 1100025 (g33 1100025 (g33 1046 0)) = g24 1100025 (g33 1046 0) := congrArg ((g24 1100025)) (la_declare_73 h489_)
      exact ((la_declare_79 h489_)).elim
    refine ⟨?_, ?_⟩
    · skip
      have e733_ : (if p1 = (-1) then 9 else (if S 1100002 p1 < 0 then 0 else S 1100002 p1) + (600 - S 1046 0) + 10 : Int) = (if S 1100002 p1 < 0 then 0 else S 1100002 p1) + (600 - S 1046 0) + 10 := if_neg h134_
      have h734_ := (h175_ (sm_ex_e (sm_li_r h162_ h184_)).1)
      obtain ⟨h735_, ⟨h736_, ⟨h737_, h738_⟩⟩⟩ := (h734_ (sm_ex_e (sm_li_r h162_ h184_)).2.1)
      obtain ⟨h739_, ⟨h740_, ⟨h741_, h742_⟩⟩⟩ := (h735_ (sm_ex_e (sm_li_r h162_ h184_)).2.2.1)
      have e743_ : (if S 1100002 p1 < 0 then 0 else S 1100002 p1 : Int) = S 1100002 p1 := if_neg (la_declare_26 h144_ (sm_ex_e (sm_li_r h162_ h184_)).2.2.2.1 h739_)
      have e744_ : S 1100002 (S 12 (5 * l2_2 + 0)) = S 1100002 (S 12 (5 * l2_2)) := congrArg ((S 1100002)) h173_
      have e745_ : S 1100005 (S 12 (5 * l2_2 + 0)) = S 1100005 (S 12 (5 * l2_2)) := congrArg ((S 1100005)) h173_
      have e746_ : S 12 (5 * l2_2 + 0) = S 12 (5 * l2_2) := congrArg ((S 12)) la_declare_20
      exact (la_declare_80 h15_ h147_ e733_)
    intro g41
    rintro ⟨h747_, ⟨h748_, ⟨h749_, ⟨h750_, ⟨h751_, ⟨h752_, ⟨h753_, ⟨h754_, ⟨h755_, ⟨h756_, ⟨h757_, ⟨h758_, ⟨h759_, ⟨h760_, ⟨h761_, ⟨h762_, h763_⟩⟩⟩⟩⟩⟩⟩⟩⟩⟩⟩⟩⟩⟩⟩⟩
    refine ⟨(la_declare_81 h8_ h141_ h142_), ?_⟩
    intro h764_
    refine ⟨?_, ?_⟩
    · skip
      refine ⟨(la_declare_82 h137_), ?_⟩
      refine ⟨(la_declare_83 h137_ h138_ (la_declare_5 h22_ h134_) h141_ h143_ h144_ h145_ h172_), ?_⟩
      refine ⟨(la_declare_50 h749_), ?_⟩
      refine ⟨h752_, ?_⟩
      refine ⟨h747_, ?_⟩
      refine ⟨h748_, ?_⟩
      refine ⟨h350_, ?_⟩
      refine ⟨h351_, ?_⟩
      refine ⟨(la_declare_84 h83_ h351_ h369_), ?_⟩
      refine ⟨(la_declare_85 h84_ h352_ h427_ h750_), ?_⟩
      refine ⟨(sm_F1_tr (sm_F1_tr (sm_F1_tr (sm_F1_le h85_ (Int.le_refl _)) h354_ h84_) h432_ (la_declare_87 h84_ h352_)) h755_ (la_declare_86 h84_ h352_ h427_)), ?_⟩
      refine ⟨(sm_F1_tr (sm_F1_tr (sm_F1_tr (sm_F1_le h86_ (Int.le_refl _)) h355_ h84_) h433_ (la_declare_87 h84_ h352_)) h756_ (la_declare_86 h84_ h352_ h427_)), ?_⟩
      refine ⟨(sm_F1_tr (sm_F1_tr (sm_F1_tr (sm_F1_le h87_ (Int.le_refl _)) h356_ h84_) h434_ (la_declare_87 h84_ h352_)) h757_ (la_declare_86 h84_ h352_ h427_)), ?_⟩
      refine ⟨(sm_F1_tr (sm_F1_tr (sm_F1_tr (sm_F1_le h88_ (Int.le_refl _)) h357_ h84_) h435_ (la_declare_87 h84_ h352_)) h758_ (la_declare_86 h84_ h352_ h427_)), ?_⟩
      refine ⟨(sm_F1_tr (sm_F1_tr (sm_F1_tr (sm_F1_le h89_ (Int.le_refl _)) h358_ (la_declare_90 h84_)) h436_ (la_declare_89 h84_ h352_)) h759_ (la_declare_88 h84_ h352_ h427_)), ?_⟩
      refine ⟨(sm_F1_tr (sm_F1_tr (sm_F1_tr (sm_F1_le h90_ (Int.le_refl _)) h359_ (la_declare_90 h84_)) h437_ (la_declare_89 h84_ h352_)) h760_ (la_declare_88 h84_ h352_ h427_)), ?_⟩
      refine ⟨(sm_F1_tr (sm_F1_tr (sm_F1_tr (sm_F1_le h91_ (Int.le_refl _)) h360_ (la_declare_90 h84_)) h438_ (la_declare_89 h84_ h352_)) h761_ (la_declare_88 h84_ h352_ h427_)), ?_⟩
      refine ⟨(sm_F1_tr (sm_F1_tr (sm_F1_tr (sm_F1_le h92_ (Int.le_refl _)) h361_ (la_declare_90 h84_)) h439_ (la_declare_89 h84_ h352_)) h762_ (la_declare_88 h84_ h352_ h427_)), ?_⟩
      refine ⟨(sm_F1_tr (sm_F1_le h93_ (Int.le_refl _)) h362_ h99_), ?_⟩
      refine ⟨(sm_F1_tr (sm_F1_le h94_ (Int.le_refl _)) h363_ h99_), ?_⟩
      refine ⟨(sm_F1_tr (sm_F1_le h95_ (Int.le_refl _)) h364_ h99_), ?_⟩
      refine ⟨(sm_F1_tr (sm_F1_le h96_ (Int.le_refl _)) h365_ h99_), ?_⟩
      refine ⟨(sm_F1_tr (sm_F1_le h97_ (Int.le_refl _)) h366_ h99_), ?_⟩
      refine ⟨(sm_F1_tr (sm_F1_le h98_ (Int.le_refl _)) h367_ h99_), ?_⟩
      refine ⟨(la_declare_87 h99_ h368_), ?_⟩
      refine ⟨?_, ?_⟩
      · skip
        have h765_ := (h175_ (sm_ex_e (sm_li_r h162_ h184_)).1)
        obtain ⟨h766_, ⟨h767_, ⟨h768_, h769_⟩⟩⟩ := (h765_ (sm_ex_e (sm_li_r h162_ h184_)).2.1)
        obtain ⟨h770_, ⟨h771_, ⟨h772_, h773_⟩⟩⟩ := (h766_ (sm_ex_e (sm_li_r h162_ h184_)).2.2.1)
        have e774_ : (if S 1100002 p1 < 0 then 0 else S 1100002 p1 : Int) = S 1100002 p1 := if_neg (la_declare_26 h144_ (sm_ex_e (sm_li_r h162_ h184_)).2.2.2.1 h770_)
        have e775_ : S 1100002 (S 12 (5 * l2_2 + 0)) = S 1100002 (S 12 (5 * l2_2)) := congrArg ((S 1100002)) h173_
        have e776_ : S 1100005 (S 12 (5 * l2_2 + 0)) = S 1100005 (S 12 (5 * l2_2)) := congrArg ((S 1100005)) h173_
        have e777_ : S 12 (5 * l2_2 + 0) = S 12 (5 * l2_2) := congrArg ((S 12)) la_declare_20
        by_cases c778_ : g1 1047 0 = 1
        · skip
          have h779_ := (h353_ c778_)
          have h780_ := (h371_ c778_)
          have h781_ := (h430_ h779_)
          have h782_ := (h431_ h781_)
          have h783_ := (h753_ h781_)
          have h784_ := (h754_ h783_)
          exact (la_declare_92 h100_ h780_)
        · skip
          obtain ⟨h785_, ⟨h786_, ⟨h787_, ⟨h788_, ⟨h789_, ⟨h790_, ⟨h791_, ⟨h792_, ⟨h793_, ⟨h794_, ⟨h795_, ⟨h796_, ⟨h797_, h798_⟩⟩⟩⟩⟩⟩⟩⟩⟩⟩⟩⟩⟩ := (h101_ (la_declare_93 h79_ (la_declare_42 h80_ c778_)))
          have h799_ := (h372_ (la_declare_93 h79_ (la_declare_42 h80_ c778_)))
          exact (la_declare_94 e136_ h144_ h177_ (sm_ex_e (sm_li_r h162_ h184_)).2.2.2.1 e774_ h798_ h799_)
      intro h800_
      have h801_ : ¬ (g33 1047 0 = 1) := fun q_ => (la_declare_41 h800_) (h753_ q_)
      obtain ⟨h802_, ⟨h803_, ⟨h804_, ⟨h805_, ⟨h806_, ⟨h807_, ⟨h808_, ⟨h809_, ⟨h810_, ⟨h811_, ⟨h812_, ⟨h813_, ⟨h814_, h815_⟩⟩⟩⟩⟩⟩⟩⟩⟩⟩⟩⟩⟩ := (h763_ h800_)
      have h816_ : ¬ (g24 1047 0 = 1) := fun q_ => h801_ (h430_ q_)
      have h817_ := (h814_ la_declare_96)
      have h818_ := (h815_ la_declare_95)
      obtain ⟨h819_, ⟨h820_, ⟨h821_, ⟨h822_, ⟨h823_, ⟨h824_, ⟨h825_, ⟨h826_, ⟨h827_, ⟨h828_, ⟨h829_, h830_⟩⟩⟩⟩⟩⟩⟩⟩⟩⟩⟩ := (h440_ h802_)
      have h831_ : ¬ (g1 1047 0 = 1) := fun q_ => h816_ (h353_ q_)
      obtain ⟨h832_, ⟨h833_, ⟨h834_, ⟨h835_, ⟨h836_, ⟨h837_, ⟨h838_, ⟨h839_, ⟨h840_, ⟨h841_, ⟨h842_, ⟨h843_, ⟨h844_, ⟨h845_, ⟨h846_, ⟨h847_, -⟩⟩⟩⟩⟩⟩⟩⟩⟩⟩⟩⟩⟩⟩⟩⟩ := (h373_ h819_)
      have h848_ := (h372_ h832_)
      obtain ⟨h849_, ⟨h850_, ⟨h851_, ⟨h852_, ⟨h853_, ⟨h854_, ⟨h855_, ⟨h856_, ⟨h857_, ⟨h858_, ⟨h859_, ⟨h860_, ⟨h861_, h862_⟩⟩⟩⟩⟩⟩⟩⟩⟩⟩⟩⟩⟩ := (h101_ h832_)
      refine ⟨h804_, ?_⟩
      refine ⟨h834_, ?_⟩
      refine ⟨h835_, ?_⟩
      refine ⟨(la_declare_97 h803_ h820_ h836_), ?_⟩
      refine ⟨?_, ?_⟩
      · skip
        have h863_ := (h175_ (sm_ex_e (sm_li_r h162_ h184_)).1)
        obtain ⟨h864_, ⟨h865_, ⟨h866_, h867_⟩⟩⟩ := (h863_ (sm_ex_e (sm_li_r h162_ h184_)).2.1)
        obtain ⟨h868_, ⟨h869_, ⟨h870_, h871_⟩⟩⟩ := (h864_ (sm_ex_e (sm_li_r h162_ h184_)).2.2.1)
        have e872_ : (if S 1100002 p1 < 0 then 0 else S 1100002 p1 : Int) = S 1100002 p1 := if_neg (la_declare_26 h144_ (sm_ex_e (sm_li_r h162_ h184_)).2.2.2.1 h868_)
        have e873_ : S 1100002 (S 12 (5 * l2_2 + 0)) = S 1100002 (S 12 (5 * l2_2)) := congrArg ((S 1100002)) h173_
        have e874_ : S 1100005 (S 12 (5 * l2_2 + 0)) = S 1100005 (S 12 (5 * l2_2)) := congrArg ((S 1100005)) h173_
        have e875_ : S 1100007 (g1 1100023 (g1 1046 0)) = S 1100007 (S 1100023 (S 1046 0)) := congrArg ((S 1100007)) h856_
        have e876_ : S 1100007 (g1 1100025 (g1 1046 0)) = S 1100007 (S 1100025 (S 1046 0)) := congrArg ((S 1100007)) h858_
        have e877_ : S 1100007 (g24 1100023 (g24 1046 0)) = S 1100007 (S 1100023 (S 1046 0)) := congrArg ((S 1100007)) (la_declare_120 h840_ h856_)
        have e878_ : S 1100007 (g24 1100023 (g24 1046 0)) = S 1100007 (g1 1100023 (g1 1046 0)) := congrArg ((S 1100007)) h840_
        have e879_ : S 1100007 (g24 1100025 (g24 1046 0)) = S 1100007 (S 1100025 (S 1046 0)) := congrArg ((S 1100007)) (la_declare_120 h842_ h858_)
        have e880_ : S 1100007 (g24 1100025 (g24 1046 0)) = S 1100007 (g1 1100025 (g1 1046 0)) := congrArg ((S 1100007)) h842_
        have e881_ : S 1100007 (g33 1100023 (g33 1046 0)) = S 1100007 (S 1100023 (S 1046 0)) := congrArg ((S 1100007)) (la_declare_121 h826_ h840_ h856_)
        have e882_ : S 1100007 (g33 1100023 (g33 1046 0)) = S 1100007 (g1 1100023 (g1 1046 0)) := congrArg ((S 1100007)) (la_declare_120 h826_ h840_)
        have e883_ : S 1100007 (g33 1100023 (g33 1046 0)) = S 1100007 (g24 1100023 (g24 1046 0)) := congrArg ((S 1100007)) h826_
        have e884_ : S 1100007 (g33 1100025 (g33 1046 0)) = S 1100007 (S 1100025 (S 1046 0)) := congrArg ((S 1100007)) (la_declare_121 h828_ h842_ h858_)
        have e885_ : S 1100007 (g33 1100025 (g33 1046 0)) = S 1100007 (g1 1100025 (g1 1046 0)) := congrArg ((S 1100007)) (la_declare_120 h828_ h842_)
        have e886_ : S 1100007 (g33 1100025 (g33 1046 0)) = S 1100007 (g24 1100025 (g24 1046 0)) := congrArg ((S 1100007)) h828_
        have e887_ : S 12 (5 * l2_2 + 0) = S 12 (5 * l2_2) := congrArg ((S 12)) la_declare_20
        have e888_ : g1 1100007 (g24 1100023 (g24 1046 0)) = g1 1100007 (g1 1100023 (g1 1046 0)) := congrArg ((g1 1100007)) h840_
        have e889_ : g1 1100007 (g24 1100025 (g24 1046 0)) = g1 1100007 (g1 1100025 (g1 1046 0)) := congrArg ((g1 1100007)) h842_
        have e890_ : g1 1100007 (g33 1100023 (g33 1046 0)) = g1 1100007 (g1 1100023 (g1 1046 0)) := congrArg ((g1 1100007)) (la_declare_120 h826_ h840_)
        have e891_ : g1 1100007 (g33 1100023 (g33 1046 0)) = g1 1100007 (g24 1100023 (g24 1046 0)) := congrArg ((g1 1100007)) h826_
        have e892_ : g1 1100007 (g33 1100025 (g33 1046 0)) = g1 1100007 (g1 1100025 (g1 1046 0)) := congrArg ((g1 1100007)) (la_declare_120 h828_ h842_)
        have e893_ : g1 1100007 (g33 1100025 (g33 1046 0)) = g1 1100007 (g24 1100025 (g24 1046 0)) := congrArg ((g1 1100007)) h828_
        have e894_ : g1 1100007 (g41 1100023 (g41 1046 0)) = g1 1100007 (g1 1100023 (g1 1046 0)) := congrArg ((g1 1100007)) (la_declare_122 h809_ (sm_nt_17 : sm_nt 17 (g33 1046 0) (g33 1100023 (g33 1046 0)) (g33 1100023 (g33 1100023 (g33 1046 0))) = g33 1100023 (g33 1046 0)) h826_ h840_)
        have e895_ : g1 1100007 (g41 1100023 (g41 1046 0)) = g1 1100007 (g24 1100023 (g24 1046 0)) := congrArg ((g1 1100007)) (la_declare_121 h809_ (sm_nt_17 : sm_nt 17 (g33 1046 0) (g33 1100023 (g33 1046 0)) (g33 1100023 (g33 1100023 (g33 1046 0))) = g33 1100023 (g33 1046 0)) h826_)
        have e896_ : g1 1100007 (g41 1100023 (g41 1046 0)) = g1 1100007 (g33 1100023 (g33 1046 0)) := congrArg ((g1 1100007)) (la_declare_120 h809_ (sm_nt_17 : sm_nt 17 (g33 1046 0) (g33 1100023 (g33 1046 0)) (g33 1100023 (g33 1100023 (g33 1046 0))) = g33 1100023 (g33 1046 0)))
        have e897_ : g24 1100007 (g33 1100023 (g33 1046 0)) = g24 1100007 (g24 1100023 (g24 1046 0)) := congrArg ((g24 1100007)) h826_
        have e898_ : g24 1100007 (g33 1100025 (g33 1046 0)) = g24 1100007 (g24 1100025 (g24 1046 0)) := congrArg ((g24 1100007)) h828_
        have e899_ : g24 1100007 (g41 1100023 (g41 1046 0)) = g24 1100007 (g24 1100023 (g24 1046 0)) := congrArg ((g24 1100007)) (la_declare_121 h809_ (sm_nt_17 : sm_nt 17 (g33 1046 0) (g33 1100023 (g33 1046 0)) (g33 1100023 (g33 1100023 (g33 1046 0))) = g33 1100023 (g33 1046 0)) h826_)
        have e900_ : g24 1100007 (g41 1100023 (g41 1046 0)) = g24 1100007 (g33 1100023 (g33 1046 0)) := congrArg ((g24 1100007)) (la_declare_120 h809_ (sm_nt_17 : sm_nt 17 (g33 1046 0) (g33 1100023 (g33 1046 0)) (g33 1100023 (g33 1100023 (g33 1046 0))) = g33 1100023 (g33 1046 0)))
        have e901_ : g33 1100007 (g41 1100023 (g41 1046 0)) = g33 1100007 (g33 1100023 (g33 1046 0)) := congrArg ((g33 1100007)) (la_declare_120 h809_ (sm_nt_17 : sm_nt 17 (g33 1046 0) (g33 1100023 (g33 1046 0)) (g33 1100023 (g33 1100023 (g33 1046 0))) = g33 1100023 (g33 1046 0)))
        have e902_ : g33 1100007 (g41 1100025 (g41 1046 0)) = g33 1100007 (g33 1100025 (g33 1046 0)) := congrArg ((g33 1100007)) (la_declare_123 h30_ (sv_i01 (p := (2 : Int) = 1)).1 e441_ (sm_KC_n h804_).2.1.2.2.2.2.2.2.1 h811_ (sm_nl_17b : (0 ≤ g33 1100025 (g33 1046 0) → g33 1100007 (g33 1100025 (g33 1046 0)) < g33 1100007 (g33 1046 0)) → sm_nl 17 (g33 1046 0) (g33 1100007 (g33 1046 0)) (g33 1100025 (g33 1046 0)) (g33 1100007 (g33 1100025 (g33 1046 0))) (g33 1100025 (g33 1100025 (g33 1046 0))) = g33 1100025 (g33 1046 0)) h825_ h828_ h830_ h839_ h842_ h844_ h855_ h858_ h860_)
        exact (sm_HB_s (sm_HB_F h853_ (sm_F1_tr (sm_F1_tr (sm_F1_le h358_ la_declare_104) h436_ (la_declare_103 h837_)) h759_ (la_declare_102 h820_ h837_)) (Int.le_refl _) (Int.le_refl _) (Int.le_refl _) (la_declare_101 h803_ h820_ h837_)) (sm_HB_1 (by rw [((sm_F1_at h759_ (g1 1046 0) (la_declare_105 h820_ h837_)).trans ((sm_F1_at h436_ (g1 1046 0) (la_declare_106 h837_)).trans ((sm_F1_at h358_ (g1 1046 0) la_declare_107).trans rfl)))]; exact (la_declare_108 (sm_KC_n h24_).2.1.2.2.2.2.1 h31_ h84_ h803_ h820_ (sm_KC_n h833_).2.1.2.1 h837_ h839_ h855_)) (sm_HB_s (sm_HB_F h846_ (sm_F1_tr (sm_F1_le h436_ la_declare_104) h759_ (la_declare_125 h820_)) (Int.le_refl _) la_declare_104 (Int.le_refl _) (la_declare_124 (sm_KC_n h24_).2.1.2.2.2.2.1 h31_ h77_ h84_ h140_ h145_ h176_ h803_ h820_ h855_ (sm_ex_e (sm_li_r h162_ h184_)).2.2.2.2)) (sm_HB_1 (by rw [((sm_F1_at h759_ (g24 1046 0) (la_declare_126 h820_)).trans ((sm_F1_at h436_ (g24 1046 0) la_declare_107).trans rfl))]; exact (la_declare_127 (sm_KC_n h24_).2.1.2.2.2.2.1 h31_ h84_ h803_ h820_ (sm_KC_n h833_).2.1.2.1 h837_ h839_ h855_)) (sm_HB_1 (by rw [((sm_F1_at h759_ (g24 1046 0 + 1) (la_declare_128 h820_)).trans ((congrArg (g33 1100007) (la_declare_129 h428_ h820_)).trans h825_))]; exact (la_declare_130 (sm_KC_n h24_).2.1.2.2.2.2.1 h31_ h84_ e441_ h803_ h820_ (sm_KC_n h821_).2.1.2.1 h825_ h837_ h839_ h855_)) (sm_HB_0 (la_declare_131 h428_ h751_)))))))
      refine ⟨(sm_FC_s (sm_FC_F h854_ (sm_F1_tr (sm_F1_tr (sm_F1_le h357_ (Int.le_refl _)) h435_ h352_) h758_ (la_declare_134 h820_ h837_)) (Int.le_refl _) (Int.le_refl _) (Int.le_refl _) rfl) (sm_FC_s (sm_FC_F h838_ (sm_F1_tr (sm_F1_le h435_ (Int.le_refl _)) h758_ h427_) (Int.le_refl _) (Int.le_refl _) (Int.le_refl _) rfl) (sm_FC_1 (((sm_F1_at h758_ (g24 1046 0) (la_declare_137 h820_)).trans rfl).trans h824_) (sm_FC_1 (((congrArg (g41 29) (la_declare_129 h428_ h820_)).trans h807_).trans rfl) (sm_FC_0 (la_declare_131 h428_ h751_)))))), ?_⟩
      refine ⟨(la_declare_138 e441_ h808_ (sm_dl_17 : sm_dl 17 0 = (-1)) h825_ h839_ h855_), ?_⟩
      refine ⟨(la_declare_139 h809_ (sm_nt_17 : sm_nt 17 (g33 1046 0) (g33 1100023 (g33 1046 0)) (g33 1100023 (g33 1100023 (g33 1046 0))) = g33 1100023 (g33 1046 0)) h826_ h840_ h856_), ?_⟩
      refine ⟨(la_declare_139 h810_ (sm_nd_17 : sm_nd 17 (g33 1100024 (g33 1046 0)) = g33 1100024 (g33 1046 0)) h827_ h841_ h857_), ?_⟩
      refine ⟨?_, ?_⟩
      · skip
        have h903_ := (h175_ (sm_ex_e (sm_li_r h162_ h184_)).1)
        obtain ⟨h904_, ⟨h905_, ⟨h906_, h907_⟩⟩⟩ := (h903_ (sm_ex_e (sm_li_r h162_ h184_)).2.1)
        obtain ⟨h908_, ⟨h909_, ⟨h910_, h911_⟩⟩⟩ := (h904_ (sm_ex_e (sm_li_r h162_ h184_)).2.2.1)
        have e912_ : (if S 1100002 p1 < 0 then 0 else S 1100002 p1 : Int) = S 1100002 p1 := if_neg (la_declare_26 h144_ (sm_ex_e (sm_li_r h162_ h184_)).2.2.2.1 h908_)
        have e913_ : S 1100002 (S 12 (5 * l2_2 + 0)) = S 1100002 (S 12 (5 * l2_2)) := congrArg ((S 1100002)) h173_
        have e914_ : S 1100005 (S 12 (5 * l2_2 + 0)) = S 1100005 (S 12 (5 * l2_2)) := congrArg ((S 1100005)) h173_
        have e915_ : S 1100007 (g1 1100023 (g1 1046 0)) = S 1100007 (S 1100023 (S 1046 0)) := congrArg ((S 1100007)) h856_
        have e916_ : S 1100007 (g1 1100025 (g1 1046 0)) = S 1100007 (S 1100025 (S 1046 0)) := congrArg ((S 1100007)) h858_
        have e917_ : S 1100007 (g24 1100023 (g24 1046 0)) = S 1100007 (S 1100023 (S 1046 0)) := congrArg ((S 1100007)) (la_declare_120 h840_ h856_)
        have e918_ : S 1100007 (g24 1100023 (g24 1046 0)) = S 1100007 (g1 1100023 (g1 1046 0)) := congrArg ((S 1100007)) h840_
        have e919_ : S 1100007 (g24 1100025 (g24 1046 0)) = S 1100007 (S 1100025 (S 1046 0)) := congrArg ((S 1100007)) (la_declare_120 h842_ h858_)
        have e920_ : S 1100007 (g24 1100025 (g24 1046 0)) = S 1100007 (g1 1100025 (g1 1046 0)) := congrArg ((S 1100007)) h842_
        have e921_ : S 1100007 (g33 1100023 (g33 1046 0)) = S 1100007 (S 1100023 (S 1046 0)) := congrArg ((S 1100007)) (la_declare_121 h826_ h840_ h856_)
        have e922_ : S 1100007 (g33 1100023 (g33 1046 0)) = S 1100007 (g1 1100023 (g1 1046 0)) := congrArg ((S 1100007)) (la_declare_120 h826_ h840_)
        have e923_ : S 1100007 (g33 1100023 (g33 1046 0)) = S 1100007 (g24 1100023 (g24 1046 0)) := congrArg ((S 1100007)) h826_
        have e924_ : S 1100007 (g33 1100025 (g33 1046 0)) = S 1100007 (S 1100025 (S 1046 0)) := congrArg ((S 1100007)) (la_declare_121 h828_ h842_ h858_)
        have e925_ : S 1100007 (g33 1100025 (g33 1046 0)) = S 1100007 (g1 1100025 (g1 1046 0)) := congrArg ((S 1100007)) (la_declare_120 h828_ h842_)
        have e926_ : S 1100007 (g33 1100025 (g33 1046 0)) = S 1100007 (g24 1100025 (g24 1046 0)) := congrArg ((S 1100007)) h828_
        have e927_ : S 12 (5 * l2_2 + 0) = S 12 (5 * l2_2) := congrArg ((S 12)) la_declare_20
        have e928_ : g1 1100007 (g24 1100023 (g24 1046 0)) = g1 1100007 (g1 1100023 (g1 1046 0)) := congrArg ((g1 1100007)) h840_
        have e929_ : g1 1100007 (g24 1100025 (g24 1046 0)) = g1 1100007 (g1 1100025 (g1 1046 0)) := congrArg ((g1 1100007)) h842_
        have e930_ : g1 1100007 (g33 1100023 (g33 1046 0)) = g1 1100007 (g1 1100023 (g1 1046 0)) := congrArg ((g1 1100007)) (la_declare_120 h826_ h840_)
        have e931_ : g1 1100007 (g33 1100023 (g33 1046 0)) = g1 1100007 (g24 1100023 (g24 1046 0)) := congrArg ((g1 1100007)) h826_
        have e932_ : g1 1100007 (g33 1100025 (g33 1046 0)) = g1 1100007 (g1 1100025 (g1 1046 0)) := congrArg ((g1 1100007)) (la_declare_120 h828_ h842_)
        have e933_ : g1 1100007 (g33 1100025 (g33 1046 0)) = g1 1100007 (g24 1100025 (g24 1046 0)) := congrArg ((g1 1100007)) h828_
        have e934_ : g1 1100007 (g41 1100023 (g41 1046 0)) = g1 1100007 (g1 1100023 (g1 1046 0)) := congrArg ((g1 1100007)) (la_declare_122 h809_ (sm_nt_17 : sm_nt 17 (g33 1046 0) (g33 1100023 (g33 1046 0)) (g33 1100023 (g33 1100023 (g33 1046 0))) = g33 1100023 (g33 1046 0)) h826_ h840_)
        have e935_ : g1 1100007 (g41 1100023 (g41 1046 0)) = g1 1100007 (g24 1100023 (g24 1046 0)) := congrArg ((g1 1100007)) (la_declare_121 h809_ (sm_nt_17 : sm_nt 17 (g33 1046 0) (g33 1100023 (g33 1046 0)) (g33 1100023 (g33 1100023 (g33 1046 0))) = g33 1100023 (g33 1046 0)) h826_)
        have e936_ : g1 1100007 (g41 1100023 (g41 1046 0)) = g1 1100007 (g33 1100023 (g33 1046 0)) := congrArg ((g1 1100007)) (la_declare_120 h809_ (sm_nt_17 : sm_nt 17 (g33 1046 0) (g33 1100023 (g33 1046 0)) (g33 1100023 (g33 1100023 (g33 1046 0))) = g33 1100023 (g33 1046 0)))
        have e937_ : g24 1100007 (g33 1100023 (g33 1046 0)) = g24 1100007 (g24 1100023 (g24 1046 0)) := congrArg ((g24 1100007)) h826_
        have e938_ : g24 1100007 (g33 1100025 (g33 1046 0)) = g24 1100007 (g24 1100025 (g24 1046 0)) := congrArg ((g24 1100007)) h828_
        have e939_ : g24 1100007 (g41 1100023 (g41 1046 0)) = g24 1100007 (g24 1100023 (g24 1046 0)) := congrArg ((g24 1100007)) (la_declare_121 h809_ (sm_nt_17 : sm_nt 17 (g33 1046 0) (g33 1100023 (g33 1046 0)) (g33 1100023 (g33 1100023 (g33 1046 0))) = g33 1100023 (g33 1046 0)) h826_)
        have e940_ : g24 1100007 (g41 1100023 (g41 1046 0)) = g24 1100007 (g33 1100023 (g33 1046 0)) := congrArg ((g24 1100007)) (la_declare_120 h809_ (sm_nt_17 : sm_nt 17 (g33 1046 0) (g33 1100023 (g33 1046 0)) (g33 1100023 (g33 1100023 (g33 1046 0))) = g33 1100023 (g33 1046 0)))
        have e941_ : g33 1100007 (g41 1100023 (g41 1046 0)) = g33 1100007 (g33 1100023 (g33 1046 0)) := congrArg ((g33 1100007)) (la_declare_120 h809_ (sm_nt_17 : sm_nt 17 (g33 1046 0) (g33 1100023 (g33 1046 0)) (g33 1100023 (g33 1100023 (g33 1046 0))) = g33 1100023 (g33 1046 0)))
        have e942_ : g33 1100007 (g41 1100025 (g41 1046 0)) = g33 1100007 (g33 1100025 (g33 1046 0)) := congrArg ((g33 1100007)) (la_declare_123 h30_ (sv_i01 (p := (2 : Int) = 1)).1 e441_ (sm_KC_n h804_).2.1.2.2.2.2.2.2.1 h811_ (sm_nl_17b : (0 ≤ g33 1100025 (g33 1046 0) → g33 1100007 (g33 1100025 (g33 1046 0)) < g33 1100007 (g33 1046 0)) → sm_nl 17 (g33 1046 0) (g33 1100007 (g33 1046 0)) (g33 1100025 (g33 1046 0)) (g33 1100007 (g33 1100025 (g33 1046 0))) (g33 1100025 (g33 1100025 (g33 1046 0))) = g33 1100025 (g33 1046 0)) h825_ h828_ h830_ h839_ h842_ h844_ h855_ h858_ h860_)
        exact (la_declare_140 h30_ (sv_i01 (p := (2 : Int) = 1)).1 (sm_KC_n h804_).2.1.2.2.2.2.2.2.1 h811_ (sm_nl_17b : (0 ≤ g33 1100025 (g33 1046 0) → g33 1100007 (g33 1100025 (g33 1046 0)) < g33 1100007 (g33 1046 0)) → sm_nl 17 (g33 1046 0) (g33 1100007 (g33 1046 0)) (g33 1100025 (g33 1046 0)) (g33 1100007 (g33 1100025 (g33 1046 0))) (g33 1100025 (g33 1100025 (g33 1046 0))) = g33 1100025 (g33 1046 0)) h825_ h828_ h830_ h839_ h842_ h844_ h855_ h858_ h860_)
      refine ⟨(la_declare_139 h812_ (sm_nt_17 : sm_nt 17 (g33 1100007 (g33 1046 0)) (g33 1100007 (g33 1100023 (g33 1046 0))) (g33 1100007 (g33 1100023 (g33 1100023 (g33 1046 0)))) = g33 1100007 (g33 1100023 (g33 1046 0))) h829_ h843_ h859_), ?_⟩
      refine ⟨?_, ?_⟩
      · skip
        have h943_ := (h175_ (sm_ex_e (sm_li_r h162_ h184_)).1)
        obtain ⟨h944_, ⟨h945_, ⟨h946_, h947_⟩⟩⟩ := (h943_ (sm_ex_e (sm_li_r h162_ h184_)).2.1)
        obtain ⟨h948_, ⟨h949_, ⟨h950_, h951_⟩⟩⟩ := (h944_ (sm_ex_e (sm_li_r h162_ h184_)).2.2.1)
        have e952_ : (if S 1100002 p1 < 0 then 0 else S 1100002 p1 : Int) = S 1100002 p1 := if_neg (la_declare_26 h144_ (sm_ex_e (sm_li_r h162_ h184_)).2.2.2.1 h948_)
        have e953_ : S 1100002 (S 12 (5 * l2_2 + 0)) = S 1100002 (S 12 (5 * l2_2)) := congrArg ((S 1100002)) h173_
        have e954_ : S 1100005 (S 12 (5 * l2_2 + 0)) = S 1100005 (S 12 (5 * l2_2)) := congrArg ((S 1100005)) h173_
        have e955_ : S 1100007 (g1 1100023 (g1 1046 0)) = S 1100007 (S 1100023 (S 1046 0)) := congrArg ((S 1100007)) h856_
        have e956_ : S 1100007 (g1 1100025 (g1 1046 0)) = S 1100007 (S 1100025 (S 1046 0)) := congrArg ((S 1100007)) h858_
        have e957_ : S 1100007 (g24 1100023 (g24 1046 0)) = S 1100007 (S 1100023 (S 1046 0)) := congrArg ((S 1100007)) (la_declare_120 h840_ h856_)
        have e958_ : S 1100007 (g24 1100023 (g24 1046 0)) = S 1100007 (g1 1100023 (g1 1046 0)) := congrArg ((S 1100007)) h840_
        have e959_ : S 1100007 (g24 1100025 (g24 1046 0)) = S 1100007 (S 1100025 (S 1046 0)) := congrArg ((S 1100007)) (la_declare_120 h842_ h858_)
        have e960_ : S 1100007 (g24 1100025 (g24 1046 0)) = S 1100007 (g1 1100025 (g1 1046 0)) := congrArg ((S 1100007)) h842_
        have e961_ : S 1100007 (g33 1100023 (g33 1046 0)) = S 1100007 (S 1100023 (S 1046 0)) := congrArg ((S 1100007)) (la_declare_121 h826_ h840_ h856_)
        have e962_ : S 1100007 (g33 1100023 (g33 1046 0)) = S 1100007 (g1 1100023 (g1 1046 0)) := congrArg ((S 1100007)) (la_declare_120 h826_ h840_)
        have e963_ : S 1100007 (g33 1100023 (g33 1046 0)) = S 1100007 (g24 1100023 (g24 1046 0)) := congrArg ((S 1100007)) h826_
        have e964_ : S 1100007 (g33 1100025 (g33 1046 0)) = S 1100007 (S 1100025 (S 1046 0)) := congrArg ((S 1100007)) (la_declare_121 h828_ h842_ h858_)
        have e965_ : S 1100007 (g33 1100025 (g33 1046 0)) = S 1100007 (g1 1100025 (g1 1046 0)) := congrArg ((S 1100007)) (la_declare_120 h828_ h842_)
        have e966_ : S 1100007 (g33 1100025 (g33 1046 0)) = S 1100007 (g24 1100025 (g24 1046 0)) := congrArg ((S 1100007)) h828_
        have e967_ : S 12 (5 * l2_2 + 0) = S 12 (5 * l2_2) := congrArg ((S 12)) la_declare_20
        have e968_ : g1 1100007 (g24 1100023 (g24 1046 0)) = g1 1100007 (g1 1100023 (g1 1046 0)) := congrArg ((g1 1100007)) h840_
        have e969_ : g1 1100007 (g24 1100025 (g24 1046 0)) = g1 1100007 (g1 1100025 (g1 1046 0)) := congrArg ((g1 1100007)) h842_
        have e970_ : g1 1100007 (g33 1100023 (g33 1046 0)) = g1 1100007 (g1 1100023 (g1 1046 0)) := congrArg ((g1 1100007)) (la_declare_120 h826_ h840_)
        have e971_ : g1 1100007 (g33 1100023 (g33 1046 0)) = g1 1100007 (g24 1100023 (g24 1046 0)) := congrArg ((g1 1100007)) h826_
        have e972_ : g1 1100007 (g33 1100025 (g33 1046 0)) = g1 1100007 (g1 1100025 (g1 1046 0)) := congrArg ((g1 1100007)) (la_declare_120 h828_ h842_)
        have e973_ : g1 1100007 (g33 1100025 (g33 1046 0)) = g1 1100007 (g24 1100025 (g24 1046 0)) := congrArg ((g1 1100007)) h828_
        have e974_ : g1 1100007 (g41 1100023 (g41 1046 0)) = g1 1100007 (g1 1100023 (g1 1046 0)) := congrArg ((g1 1100007)) (la_declare_122 h809_ (sm_nt_17 : sm_nt 17 (g33 1046 0) (g33 1100023 (g33 1046 0)) (g33 1100023 (g33 1100023 (g33 1046 0))) = g33 1100023 (g33 1046 0)) h826_ h840_)
        have e975_ : g1 1100007 (g41 1100023 (g41 1046 0)) = g1 1100007 (g24 1100023 (g24 1046 0)) := congrArg ((g1 1100007)) (la_declare_121 h809_ (sm_nt_17 : sm_nt 17 (g33 1046 0) (g33 1100023 (g33 1046 0)) (g33 1100023 (g33 1100023 (g33 1046 0))) = g33 1100023 (g33 1046 0)) h826_)
        have e976_ : g1 1100007 (g41 1100023 (g41 1046 0)) = g1 1100007 (g33 1100023 (g33 1046 0)) := congrArg ((g1 1100007)) (la_declare_120 h809_ (sm_nt_17 : sm_nt 17 (g33 1046 0) (g33 1100023 (g33 1046 0)) (g33 1100023 (g33 1100023 (g33 1046 0))) = g33 1100023 (g33 1046 0)))
        have e977_ : g24 1100007 (g33 1100023 (g33 1046 0)) = g24 1100007 (g24 1100023 (g24 1046 0)) := congrArg ((g24 1100007)) h826_
        have e978_ : g24 1100007 (g33 1100025 (g33 1046 0)) = g24 1100007 (g24 1100025 (g24 1046 0)) := congrArg ((g24 1100007)) h828_
        have e979_ : g24 1100007 (g41 1100023 (g41 1046 0)) = g24 1100007 (g24 1100023 (g24 1046 0)) := congrArg ((g24 1100007)) (la_declare_121 h809_ (sm_nt_17 : sm_nt 17 (g33 1046 0) (g33 1100023 (g33 1046 0)) (g33 1100023 (g33 1100023 (g33 1046 0))) = g33 1100023 (g33 1046 0)) h826_)
        have e980_ : g24 1100007 (g41 1100023 (g41 1046 0)) = g24 1100007 (g33 1100023 (g33 1046 0)) := congrArg ((g24 1100007)) (la_declare_120 h809_ (sm_nt_17 : sm_nt 17 (g33 1046 0) (g33 1100023 (g33 1046 0)) (g33 1100023 (g33 1100023 (g33 1046 0))) = g33 1100023 (g33 1046 0)))
        have e981_ : g33 1100007 (g41 1100023 (g41 1046 0)) = g33 1100007 (g33 1100023 (g33 1046 0)) := congrArg ((g33 1100007)) (la_declare_120 h809_ (sm_nt_17 : sm_nt 17 (g33 1046 0) (g33 1100023 (g33 1046 0)) (g33 1100023 (g33 1100023 (g33 1046 0))) = g33 1100023 (g33 1046 0)))
        have e982_ : g33 1100007 (g41 1100025 (g41 1046 0)) = g33 1100007 (g33 1100025 (g33 1046 0)) := congrArg ((g33 1100007)) (la_declare_123 h30_ (sv_i01 (p := (2 : Int) = 1)).1 e441_ (sm_KC_n h804_).2.1.2.2.2.2.2.2.1 h811_ (sm_nl_17b : (0 ≤ g33 1100025 (g33 1046 0) → g33 1100007 (g33 1100025 (g33 1046 0)) < g33 1100007 (g33 1046 0)) → sm_nl 17 (g33 1046 0) (g33 1100007 (g33 1046 0)) (g33 1100025 (g33 1046 0)) (g33 1100007 (g33 1100025 (g33 1046 0))) (g33 1100025 (g33 1100025 (g33 1046 0))) = g33 1100025 (g33 1046 0)) h825_ h828_ h830_ h839_ h842_ h844_ h855_ h858_ h860_)
        exact (la_declare_141 h830_ h844_ h860_ (sm_F1_at h759_ (g41 1100025 (g41 1046 0)) (la_declare_114 h751_ (sm_KC_n h804_).2.1.2.2.2.2.2.2.2)) e982_)
      refine ⟨(sm_AP_s (sm_AP_F h861_ (sm_F1_le h366_ (Int.le_refl _)) (Int.le_refl _) (Int.le_refl _) (Int.le_refl _)) (sm_AP_F h845_ sm_F1_rf (Int.le_refl _) (Int.le_refl _) (Int.le_refl _))), ?_⟩
      exact (la_declare_142 h803_ h820_ h847_ h862_)
    have e983_ : (if l2_2 = (-1) then 0 else S 1024 0 - l2_2 : Int) = S 1024 0 - l2_2 := if_neg h133_
    have h984_ := (h175_ (sm_ex_e (sm_li_r h162_ h184_)).1)
    obtain ⟨h985_, ⟨h986_, ⟨h987_, h988_⟩⟩⟩ := (h984_ (sm_ex_e (sm_li_r h162_ h184_)).2.1)
    obtain ⟨h989_, ⟨h990_, ⟨h991_, h992_⟩⟩⟩ := (h985_ (sm_ex_e (sm_li_r h162_ h184_)).2.2.1)
    have e993_ : (if S 1100002 p1 < 0 then 0 else S 1100002 p1 : Int) = S 1100002 p1 := if_neg (la_declare_26 h144_ (sm_ex_e (sm_li_r h162_ h184_)).2.2.2.1 h989_)
    have e994_ : S 1100002 (S 12 (5 * l2_2 + 0)) = S 1100002 (S 12 (5 * l2_2)) := congrArg ((S 1100002)) h173_
    have e995_ : S 1100005 (S 12 (5 * l2_2 + 0)) = S 1100005 (S 12 (5 * l2_2)) := congrArg ((S 1100005)) h173_
    have e996_ : S 12 (5 * l2_2 + 0) = S 12 (5 * l2_2) := congrArg ((S 12)) la_declare_20
    by_cases c997_ : S 13 l2_2 = (-1)
    · skip
      have e998_ : (if S 13 l2_2 = (-1) then 0 else S 1024 0 - S 13 l2_2 : Int) = 0 := if_pos c997_
      have h999_ := (h172_.resolve_right (la_declare_143 h141_ h143_ (la_declare_5 (la_declare_12 h141_) h133_) c997_))
      exact (la_declare_144 h142_ e983_ e998_)
    · skip
      have e1000_ : (if S 13 l2_2 = (-1) then 0 else S 1024 0 - S 13 l2_2 : Int) = S 1024 0 - S 13 l2_2 := if_neg c997_
      obtain ⟨h1001_, ⟨h1002_, ⟨h1003_, ⟨h1004_, ⟨h1005_, ⟨h1006_, ⟨h1007_, ⟨h1008_, h1009_⟩⟩⟩⟩⟩⟩⟩⟩ := (h172_.resolve_left c997_)
      exact (la_declare_147 e983_ e1000_ h1001_)
  intro h1010_
  refine ⟨(la_declare_149 h8_ h142_ (la_declare_5 (la_declare_12 h141_) h133_)), ?_⟩
  intro h1011_
  refine ⟨⟨(la_declare_82 h137_), ⟨(la_declare_150 h137_ h138_ (la_declare_5 h22_ h134_) h141_ h142_ h143_ h144_ h145_ (la_declare_5 (la_declare_12 h141_) h133_) h172_), ⟨h77_, ⟨h78_, ⟨h79_, ⟨h80_, ⟨h81_, ⟨h82_, ⟨h83_, ⟨h84_, ⟨h85_, ⟨h86_, ⟨h87_, ⟨h88_, ⟨h89_, ⟨h90_, ⟨h91_, ⟨h92_, ⟨h93_, ⟨h94_, ⟨h95_, ⟨h96_, ⟨h97_, ⟨h98_, ⟨h99_, ⟨h100_, h101_⟩⟩⟩⟩⟩⟩⟩⟩⟩⟩⟩⟩⟩⟩⟩⟩⟩⟩⟩⟩⟩⟩⟩⟩⟩⟩, ?_⟩
  have e1012_ : (if l2_2 = (-1) then 0 else S 1024 0 - l2_2 : Int) = S 1024 0 - l2_2 := if_neg h133_
  have e1013_ : S 1100002 (S 12 (5 * l2_2 + 0)) = S 1100002 (S 12 (5 * l2_2)) := congrArg ((S 1100002)) h173_
  have e1014_ : S 1100005 (S 12 (5 * l2_2 + 0)) = S 1100005 (S 12 (5 * l2_2)) := congrArg ((S 1100005)) h173_
  have e1015_ : S 12 (5 * l2_2 + 0) = S 12 (5 * l2_2) := congrArg ((S 12)) la_declare_20
  by_cases c1016_ : S 13 l2_2 = (-1)
  · skip
    have e1017_ : (if S 13 l2_2 = (-1) then 0 else S 1024 0 - S 13 l2_2 : Int) = 0 := if_pos c1016_
    have h1018_ := (h172_.resolve_right (la_declare_143 h141_ h143_ (la_declare_5 (la_declare_12 h141_) h133_) c1016_))
    exact (la_declare_144 h142_ e1012_ e1017_)
  · skip
    have e1019_ : (if S 13 l2_2 = (-1) then 0 else S 1024 0 - S 13 l2_2 : Int) = S 1024 0 - S 13 l2_2 := if_neg c1016_
    obtain ⟨h1020_, ⟨h1021_, ⟨h1022_, ⟨h1023_, ⟨h1024_, ⟨h1025_, ⟨h1026_, ⟨h1027_, h1028_⟩⟩⟩⟩⟩⟩⟩⟩ := (h172_.resolve_left c1016_)
    exact (la_declare_147 e1012_ e1019_ h1020_)
set_option maxRecDepth 8000 in
set_option maxHeartbeats 8000000 in
theorem t_declare : ∀ (p1 : Int) (S : sv_S), sm_ok S → sv_R p1 → (sm_WF (S 11) (S 12) (S 13) (S 1100001) (S 1100002) (S 1100005) (S 1100003) (S 1100004) (S 1024 0) (S 1007 0) (S 1009 0) (sm_fn (S 1032 0) (S 21) (S 1056 0)) ∧ (S 1009 0) = 0 ∧ 0 ≤ (S 1007 0) ∧ (S 1007 0) ≤ 90 ∧ 0 ≤ (S 1024 0) ∧ (S 1024 0) ≤ 12000 ∧ 1 ≤ (S 1032 0) ∧ (S 1032 0) ≤ 11 ∧ 0 ≤ (S 1056 0) ∧ (S 1056 0) < (S 1032 0) ∧ sm_VB (S 33) (S 21) (S 1032 0) ∧ 0 ≤ (S 1046 0) ∧ (S 1046 0) ≤ 600 ∧ 0 ≤ (S 1047 0) ∧ (S 1047 0) ≤ 1 ∧ 0 ≤ (S 1053 0) ∧ 0 ≤ (S 1066 0) ∧ (S 1066 0) = 0 ∧ (S 1047 0) = 0 ∧ -1 ≤ p1 ∧ (¬ p1 = -1 → 0 ≤ p1 ∧ p1 < (S 1024 0) ∧ (S 1100001 p1) = 5 ∧ (S 1100005 p1) ≤ 20) ∧ sm_KC (S 26) (S 27) (S 28) (S 29) (S 1100007) (S 1100023) (S 1100024) (S 1100025) (S 31) (S 1100009) (S 1100027) (S 1100028) (S 1100026) (S 1100030) (S 21) (S 32) (S 33) (S 1046 0) (S 1053 0) (S 1056 0) (S 1032 0) (S 1007 0) (S 1100033 0) ∧ (S 1100033 0) = (S 1055 0) ∧ 0 ≤ (S 1055 0) ∧ (S 1055 0) ≤ (S 1046 0) ∧ sm_HB (S 1100007) 0 (S 1046 0) ((S 1046 0) + 170) ∧ (0 ≤ (S 1100023 (S 1046 0)) → (S 1100007 (S 1100023 (S 1046 0))) ≤ (S 1100007 (S 1046 0))) ∧ (0 ≤ (S 1100025 (S 1046 0)) → (S 1100007 (S 1100025 (S 1046 0))) ≤ (S 1100007 (S 1046 0))) ∧ 3 * (S 1100007 (S 1046 0)) + (S 1100024 (S 1046 0)) ≤ (S 1046 0) ∧ (S 1053 0) + 3 * (600 - (S 1046 0)) + (if p1 = -1 then 0 else (if (S 1100002 p1) < 0 then 0 else (S 1100002 p1))) ≤ 8000) → sv_T sm_XS sm_cs sm_L sm_sh ((if p1 = -1 then 9 else (if (S 1100002 p1) < 0 then 0 else (S 1100002 p1)) + (600 - (S 1046 0)) + 10)).toNat (q_declare p1 S) 109 0 (lv_args 0 [.ref 0, sv_I p1]) [] S := by
  intro p1 S hok hp1 hpre
  have h := f_declare p1 S hok hp1 hpre
  have hM := sm_h109
  show sv_T sm_XS sm_cs sm_L sm_sh ((if p1 = -1 then 9 else (if (S 1100002 p1) < 0 then 0 else (S 1100002 p1)) + (600 - (S 1046 0)) + 10)).toNat (q_declare p1 S) 109 0 [(0, .ref 0), (1, sv_I p1)] [] S
  refine sv_iload_n hM dX12_declare_0 rfl rfl ?_
  refine sv_istore_n hM dX12_declare_1 (by decide) rfl ?_
  show sv_T sm_XS sm_cs sm_L sm_sh ((if p1 = -1 then 9 else (if (S 1100002 p1) < 0 then 0 else (S 1100002 p1)) + (600 - (S 1046 0)) + 10)).toNat (q_declare p1 S) 109 2 [(0, .ref 0), (1, sv_I p1), (2, sv_I p1)] [] S
  obtain ⟨hin4, h⟩ := h
  have hJ : ∀ a : Int × sv_S, (sv_R a.1 ∧ sm_ok (sv_sts S [26, 27, 28, 29, 1046, 1047, 1100007, 1100023, 1100024, 1100025, 1053, 31, 1100030, 1100009, 1100027, 1100028, 1100026, 1055, 1100033, 39, 1066] a.2) ∧ ((p1 = -1 → a.1 = -1) ∧ (¬ p1 = -1 → (a.1 = -1 ∨ (0 ≤ a.1 ∧ a.1 < (S 1024 0) ∧ (S 1100001 a.1) = 5 ∧ (S 1100002 a.1) ≤ (S 1100002 p1) ∧ (S 1100005 a.1) ≤ (S 1100005 p1)))) ∧ 0 ≤ (a.2 1046 0) ∧ (a.2 1046 0) ≤ 600 ∧ 0 ≤ (a.2 1047 0) ∧ (a.2 1047 0) ≤ 1 ∧ 0 ≤ (a.2 1053 0) ∧ 0 ≤ (a.2 1066 0) ∧ (a.2 1066 0) = 0 ∧ (S 1046 0) ≤ (a.2 1046 0) ∧ sm_F1 (S 26) (a.2 26) (S 1046 0) ∧ sm_F1 (S 27) (a.2 27) (S 1046 0) ∧ sm_F1 (S 28) (a.2 28) (S 1046 0) ∧ sm_F1 (S 29) (a.2 29) (S 1046 0) ∧ sm_F1 (S 1100007) (a.2 1100007) ((S 1046 0) + 1) ∧ sm_F1 (S 1100023) (a.2 1100023) ((S 1046 0) + 1) ∧ sm_F1 (S 1100024) (a.2 1100024) ((S 1046 0) + 1) ∧ sm_F1 (S 1100025) (a.2 1100025) ((S 1046 0) + 1) ∧ sm_F1 (S 1100009) (a.2 1100009) (S 1053 0) ∧ sm_F1 (S 1100027) (a.2 1100027) (S 1053 0) ∧ sm_F1 (S 1100028) (a.2 1100028) (S 1053 0) ∧ sm_F1 (S 1100026) (a.2 1100026) (S 1053 0) ∧ sm_F1 (S 1100030) (a.2 1100030) (S 1053 0) ∧ sm_F1 (S 31) (a.2 31) (S 1053 0) ∧ (S 1053 0) ≤ (a.2 1053 0) ∧ (a.2 1053 0) ≤ (S 1053 0) + 3 * (600 - (S 1046 0)) + (if p1 = -1 then 0 else (if (S 1100002 p1) < 0 then 0 else (S 1100002 p1))) ∧ ((a.2 1047 0) = 0 → sm_KC (a.2 26) (a.2 27) (a.2 28) (a.2 29) (a.2 1100007) (a.2 1100023) (a.2 1100024) (a.2 1100025) (a.2 31) (a.2 1100009) (a.2 1100027) (a.2 1100028) (a.2 1100026) (a.2 1100030) (S 21) (S 32) (S 33) (a.2 1046 0) (a.2 1053 0) (S 1056 0) (S 1032 0) (S 1007 0) (a.2 1100033 0) ∧ (a.2 1100033 0) = (a.2 1055 0) ∧ 0 ≤ (a.2 1055 0) ∧ (a.2 1055 0) ≤ (a.2 1046 0) ∧ sm_HB (a.2 1100007) 0 (a.2 1046 0) ((a.2 1046 0) + 170) ∧ sm_FC (a.2 29) (S 1046 0) (a.2 1046 0) (S 1056 0) ∧ (a.2 1100007 (a.2 1046 0)) = (S 1100007 (S 1046 0)) + 0 ∧ (a.2 1100023 (a.2 1046 0)) = (S 1100023 (S 1046 0)) ∧ (a.2 1100024 (a.2 1046 0)) = (S 1100024 (S 1046 0)) ∧ (a.2 1100025 (a.2 1046 0)) = (S 1100025 (S 1046 0)) ∧ (a.2 1100007 (a.2 1100023 (a.2 1046 0))) = (S 1100007 (S 1100023 (S 1046 0))) ∧ (a.2 1100007 (a.2 1100025 (a.2 1046 0))) = (S 1100007 (S 1100025 (S 1046 0))) ∧ sm_AP (a.2 1100030) (S 1053 0) (a.2 1053 0) ∧ (a.2 1053 0) ≤ (S 1053 0) + 3 * ((a.2 1046 0) - (S 1046 0))))) → sv_T sm_XS sm_cs sm_L sm_sh ((if p1 = -1 then 9 else (if (S 1100002 p1) < 0 then 0 else (S 1100002 p1)) + (600 - (S 1046 0)) + 10)).toNat (q_declare p1 S) 109 2 [(0, .ref 0), (1, sv_I p1), (2, sv_I a.1)] [] (sv_sts S [26, 27, 28, 29, 1046, 1047, 1100007, 1100023, 1100024, 1100025, 1053, 31, 1100030, 1100009, 1100027, 1100028, 1100026, 1055, 1100033, 39, 1066] a.2) := by
    refine sv_loop (α := Int × sv_S) (fun a => sv_R a.1 ∧ sm_ok (sv_sts S [26, 27, 28, 29, 1046, 1047, 1100007, 1100023, 1100024, 1100025, 1053, 31, 1100030, 1100009, 1100027, 1100028, 1100026, 1055, 1100033, 39, 1066] a.2) ∧ ((p1 = -1 → a.1 = -1) ∧ (¬ p1 = -1 → (a.1 = -1 ∨ (0 ≤ a.1 ∧ a.1 < (S 1024 0) ∧ (S 1100001 a.1) = 5 ∧ (S 1100002 a.1) ≤ (S 1100002 p1) ∧ (S 1100005 a.1) ≤ (S 1100005 p1)))) ∧ 0 ≤ (a.2 1046 0) ∧ (a.2 1046 0) ≤ 600 ∧ 0 ≤ (a.2 1047 0) ∧ (a.2 1047 0) ≤ 1 ∧ 0 ≤ (a.2 1053 0) ∧ 0 ≤ (a.2 1066 0) ∧ (a.2 1066 0) = 0 ∧ (S 1046 0) ≤ (a.2 1046 0) ∧ sm_F1 (S 26) (a.2 26) (S 1046 0) ∧ sm_F1 (S 27) (a.2 27) (S 1046 0) ∧ sm_F1 (S 28) (a.2 28) (S 1046 0) ∧ sm_F1 (S 29) (a.2 29) (S 1046 0) ∧ sm_F1 (S 1100007) (a.2 1100007) ((S 1046 0) + 1) ∧ sm_F1 (S 1100023) (a.2 1100023) ((S 1046 0) + 1) ∧ sm_F1 (S 1100024) (a.2 1100024) ((S 1046 0) + 1) ∧ sm_F1 (S 1100025) (a.2 1100025) ((S 1046 0) + 1) ∧ sm_F1 (S 1100009) (a.2 1100009) (S 1053 0) ∧ sm_F1 (S 1100027) (a.2 1100027) (S 1053 0) ∧ sm_F1 (S 1100028) (a.2 1100028) (S 1053 0) ∧ sm_F1 (S 1100026) (a.2 1100026) (S 1053 0) ∧ sm_F1 (S 1100030) (a.2 1100030) (S 1053 0) ∧ sm_F1 (S 31) (a.2 31) (S 1053 0) ∧ (S 1053 0) ≤ (a.2 1053 0) ∧ (a.2 1053 0) ≤ (S 1053 0) + 3 * (600 - (S 1046 0)) + (if p1 = -1 then 0 else (if (S 1100002 p1) < 0 then 0 else (S 1100002 p1))) ∧ ((a.2 1047 0) = 0 → sm_KC (a.2 26) (a.2 27) (a.2 28) (a.2 29) (a.2 1100007) (a.2 1100023) (a.2 1100024) (a.2 1100025) (a.2 31) (a.2 1100009) (a.2 1100027) (a.2 1100028) (a.2 1100026) (a.2 1100030) (S 21) (S 32) (S 33) (a.2 1046 0) (a.2 1053 0) (S 1056 0) (S 1032 0) (S 1007 0) (a.2 1100033 0) ∧ (a.2 1100033 0) = (a.2 1055 0) ∧ 0 ≤ (a.2 1055 0) ∧ (a.2 1055 0) ≤ (a.2 1046 0) ∧ sm_HB (a.2 1100007) 0 (a.2 1046 0) ((a.2 1046 0) + 170) ∧ sm_FC (a.2 29) (S 1046 0) (a.2 1046 0) (S 1056 0) ∧ (a.2 1100007 (a.2 1046 0)) = (S 1100007 (S 1046 0)) + 0 ∧ (a.2 1100023 (a.2 1046 0)) = (S 1100023 (S 1046 0)) ∧ (a.2 1100024 (a.2 1046 0)) = (S 1100024 (S 1046 0)) ∧ (a.2 1100025 (a.2 1046 0)) = (S 1100025 (S 1046 0)) ∧ (a.2 1100007 (a.2 1100023 (a.2 1046 0))) = (S 1100007 (S 1100023 (S 1046 0))) ∧ (a.2 1100007 (a.2 1100025 (a.2 1046 0))) = (S 1100007 (S 1100025 (S 1046 0))) ∧ sm_AP (a.2 1100030) (S 1053 0) (a.2 1053 0) ∧ (a.2 1053 0) ≤ (S 1053 0) + 3 * ((a.2 1046 0) - (S 1046 0))))) (fun a => (if a.1 = -1 then 0 else (S 1024 0) - a.1)) (fun a => sv_T sm_XS sm_cs sm_L sm_sh ((if p1 = -1 then 9 else (if (S 1100002 p1) < 0 then 0 else (S 1100002 p1)) + (600 - (S 1046 0)) + 10)).toNat (q_declare p1 S) 109 2 [(0, .ref 0), (1, sv_I p1), (2, sv_I a.1)] [] (sv_sts S [26, 27, 28, 29, 1046, 1047, 1100007, 1100023, 1100024, 1100025, 1053, 31, 1100030, 1100009, 1100027, 1100028, 1100026, 1055, 1100033, 39, 1066] a.2)) (fun a q => (h a.1 q.1 a.2 q.2.2).1) (fun a q ih3 => ?_)
    obtain ⟨l2_2, g1⟩ := a
    obtain ⟨hl2_2, ok5, hin4i⟩ := q
    have h := (h l2_2 hl2_2 g1 hin4i).2
    show sv_T sm_XS sm_cs sm_L sm_sh ((if p1 = -1 then 9 else (if (S 1100002 p1) < 0 then 0 else (S 1100002 p1)) + (600 - (S 1046 0)) + 10)).toNat (q_declare p1 S) 109 2 [(0, .ref 0), (1, sv_I p1), (2, sv_I l2_2)] [] (sv_sts S [26, 27, 28, 29, 1046, 1047, 1100007, 1100023, 1100024, 1100025, 1053, 31, 1100030, 1100009, 1100027, 1100028, 1100026, 1055, 1100033, 39, 1066] g1)
    have md6 : sv_mod [26, 27, 28, 29, 1046, 1047, 1100007, 1100023, 1100024, 1100025, 1053, 31, 1100030, 1100009, 1100027, 1100028, 1100026, 1055, 1100033, 39, 1066] S (sv_sts S [26, 27, 28, 29, 1046, 1047, 1100007, 1100023, 1100024, 1100025, 1053, 31, 1100030, 1100009, 1100027, 1100028, 1100026, 1055, 1100033, 39, 1066] g1) := sv_mod.sts sv_mod.rf (by decide)
    have md7 : sv_mod [26, 27, 28, 29, 1046, 1047, 1100007, 1100023, 1100024, 1100025, 1053, 31, 1100030, 1100009, 1100027, 1100028, 1100026, 1055, 1100033, 39, 1066] S (sv_sts S [26, 27, 28, 29, 1046, 1047, 1100007, 1100023, 1100024, 1100025, 1053, 31, 1100030, 1100009, 1100027, 1100028, 1100026, 1055, 1100033, 39, 1066] g1) := sv_mod.sts sv_mod.rf (by decide)
    refine sv_iload_n hM dX12_declare_2 rfl rfl ?_
    refine sv_iconst (d := (-1 : Int)) hM dX12_declare_3 rfl rfl ?_
    refine sv_icmp_eq hM dX12_declare_4 hl2_2 (⟨by decide, by decide⟩ : sv_R (-1 : Int)) (t := 56) rfl rfl (fun hc => ?_) (fun hc => ?_)
    · have h := h.1 (hc)
      exact sv_vret hM dX12_declare_56 rfl ⟨rfl, ok5, md6, h⟩
    · have h := h.2 (hc)
      have k8 : ((S 1100002 p1) ≤ (if (S 1100002 p1) < 0 then 0 else (S 1100002 p1)) ∧ 0 ≤ (if (S 1100002 p1) < 0 then 0 else (S 1100002 p1))) := sm_h_mp
      have h := h k8
      have k9 : ((p1 = -1 → l2_2 = -1) → ¬ l2_2 = -1 → ¬ p1 = -1) := fun a b q => b (a q)
      have h := h k9
      have k10 : (sm_WF (S 11) (S 12) (S 13) (S 1100001) (S 1100002) (S 1100005) (S 1100003) (S 1100004) (S 1024 0) (S 1007 0) (S 1009 0) (sm_fn (S 1032 0) (S 21) (S 1056 0)) → 0 ≤ l2_2 → l2_2 < (S 1024 0) → ((S 1100001 (l2_2)) = 1 → 0 ≤ (S 1100002 (l2_2)) ∧ ((S 11 (l2_2)) = 3 → (S 12 (5 * (l2_2) + 1)) < (l2_2)) ∧ ((S 11 (l2_2)) = 4 ∨ (S 11 (l2_2)) = 5 ∨ (S 11 (l2_2)) = 8 ∨ (S 11 (l2_2)) = 9 → 17 * (S 1100005 (l2_2)) + 2 ≤ (S 1100002 (l2_2))) ∧ 0 ≤ (S 1100005 (l2_2))) ∧ ((S 1100001 (l2_2)) = 2 → 0 ≤ (S 1100005 (l2_2)) ∧ (S 1100002 (l2_2)) ≤ 17 * (S 1100005 (l2_2)) + 5 ∧ ((S 11 (l2_2)) = 33 → 1 ≤ (S 1100005 (l2_2)))) ∧ ((S 1100001 (l2_2)) = 6 → 0 ≤ (S 1100002 (l2_2)) ∧ 1 ≤ (S 1100004 (l2_2)) ∧ ((S 12 (5 * (l2_2))) = - 1 → (S 1100004 (l2_2)) = 2)) ∧ ((S 1100001 (l2_2)) = 3 → 1 ≤ (S 1100002 (l2_2)))) := fun h a0 a1 => sm_gx h _ a0 a1
      have h := h k10
      have k11 : (sm_WF (S 11) (S 12) (S 13) (S 1100001) (S 1100002) (S 1100005) (S 1100003) (S 1100004) (S 1024 0) (S 1007 0) (S 1009 0) (sm_fn (S 1032 0) (S 21) (S 1056 0)) → 0 ≤ l2_2 → l2_2 < (S 1024 0) → (S 1100001 l2_2) = 5 → sm_li (S 1100001) (S 1100002) (S 1100005) (S 1024 0) 1 ((S 12 (5 * (l2_2)))) ((S 1100002 (l2_2))) ((S 1100005 (l2_2))) ∧ sm_nm (S 1007 0) (S 1009 0) ((S 12 (5 * (l2_2) + 1)))) := fun h a0 a1 a2 => sm_g3_5 h _ a0 a1 a2
      have h := h k11
      have k12 : (sm_nm (S 1007 0) (S 1009 0) ((S 12 (5 * l2_2 + 1))) → (S 1009 0) = 0 → 0 ≤ (S 12 (5 * l2_2 + 1)) ∧ (S 12 (5 * l2_2 + 1)) < (S 1007 0)) := fun h a => sm_h_nm h a
      have h := h k12
      have k13 : (sm_WF (S 11) (S 12) (S 13) (S 1100001) (S 1100002) (S 1100005) (S 1100003) (S 1100004) (S 1024 0) (S 1007 0) (S 1009 0) (sm_fn (S 1032 0) (S 21) (S 1056 0)) → 0 ≤ l2_2 → l2_2 < (S 1024 0) → 2 ≤ (S 1100001 l2_2) → (S 13 (l2_2)) = - 1 ∨ ((l2_2) < (S 13 (l2_2)) ∧ (S 13 (l2_2)) < (S 1024 0) ∧ (S 1100001 ((S 13 (l2_2)))) = (S 1100001 (l2_2)) ∧ (S 1100002 ((S 13 (l2_2)))) ≤ (S 1100002 (l2_2)) ∧ (S 1100005 ((S 13 (l2_2)))) ≤ (S 1100005 (l2_2)) ∧ (S 1100003 ((S 13 (l2_2)))) ≤ (S 1100003 (l2_2)) ∧ (S 1100004 ((S 13 (l2_2)))) ≤ (S 1100004 (l2_2)) ∧ ((S 1100001 (l2_2)) = 3 ∨ (S 1100001 (l2_2)) = 6 → (S 1100002 ((S 13 (l2_2)))) < (S 1100002 (l2_2))) ∧ ((S 1100001 (l2_2)) = 6 → (S 1100004 (l2_2)) = 2 → (S 1100004 ((S 13 (l2_2)))) < 2))) := fun h a0 a1 a2 => sm_gn h _ a0 a1 a2
      have h := h k13
      have k14 : ((S 12 (5 * l2_2 + 0)) = (S 12 (5 * l2_2))) := by rw [Int.add_zero]
      have h := h k14
      have k15 : (sm_WF (S 11) (S 12) (S 13) (S 1100001) (S 1100002) (S 1100005) (S 1100003) (S 1100004) (S 1024 0) (S 1007 0) (S 1009 0) (sm_fn (S 1032 0) (S 21) (S 1056 0)) → 0 ≤ (S 12 (5 * l2_2)) → (S 12 (5 * l2_2)) < (S 1024 0) → ((S 1100001 ((S 12 (5 * l2_2)))) = 1 → 0 ≤ (S 1100002 ((S 12 (5 * l2_2)))) ∧ ((S 11 ((S 12 (5 * l2_2)))) = 3 → (S 12 (5 * ((S 12 (5 * l2_2))) + 1)) < ((S 12 (5 * l2_2)))) ∧ ((S 11 ((S 12 (5 * l2_2)))) = 4 ∨ (S 11 ((S 12 (5 * l2_2)))) = 5 ∨ (S 11 ((S 12 (5 * l2_2)))) = 8 ∨ (S 11 ((S 12 (5 * l2_2)))) = 9 → 17 * (S 1100005 ((S 12 (5 * l2_2)))) + 2 ≤ (S 1100002 ((S 12 (5 * l2_2))))) ∧ 0 ≤ (S 1100005 ((S 12 (5 * l2_2))))) ∧ ((S 1100001 ((S 12 (5 * l2_2)))) = 2 → 0 ≤ (S 1100005 ((S 12 (5 * l2_2)))) ∧ (S 1100002 ((S 12 (5 * l2_2)))) ≤ 17 * (S 1100005 ((S 12 (5 * l2_2)))) + 5 ∧ ((S 11 ((S 12 (5 * l2_2)))) = 33 → 1 ≤ (S 1100005 ((S 12 (5 * l2_2)))))) ∧ ((S 1100001 ((S 12 (5 * l2_2)))) = 6 → 0 ≤ (S 1100002 ((S 12 (5 * l2_2)))) ∧ 1 ≤ (S 1100004 ((S 12 (5 * l2_2)))) ∧ ((S 12 (5 * ((S 12 (5 * l2_2))))) = - 1 → (S 1100004 ((S 12 (5 * l2_2)))) = 2)) ∧ ((S 1100001 ((S 12 (5 * l2_2)))) = 3 → 1 ≤ (S 1100002 ((S 12 (5 * l2_2)))))) := fun h a0 a1 => sm_gx h _ a0 a1
      have h := h k15
      have k16 : ((S 1100005 (S 12 (5 * l2_2 + 0))) = (S 1100005 (S 12 (5 * l2_2)))) := by rw [Int.add_zero]
      have h := h k16
      have k17 : ((S 1100002 (S 12 (5 * l2_2 + 0))) = (S 1100002 (S 12 (5 * l2_2)))) := by rw [Int.add_zero]
      have h := h k17
      refine sv_aload_n hM dX12_declare_7 rfl rfl ?_
      refine sv_iload_n hM dX12_declare_8 rfl rfl ?_
      refine sv_iconst (d := (0 : Int)) hM dX12_declare_9 rfl rfl ?_
      obtain ⟨o18, h⟩ := h
      obtain ⟨o19, h⟩ := h
      refine sv_callV hM dX12_declare_10 sm_iv_644 (by decide) (sm_a0 _) rfl rfl (Nat.le_of_ble_eq_true rfl) sm_h34 (Nat.le_of_ble_eq_true rfl) (Nat.le_of_ble_eq_true rfl) (F' := 0) (sv_Fn (n := 0) o19) rfl (t_part l2_2 (0 : Int) (sv_sts S [26, 27, 28, 29, 1046, 1047, 1100007, 1100023, 1100024, 1100025, 1053, 31, 1100030, 1100009, 1100027, 1100028, 1100026, 1055, 1100033, 39, 1066] g1) ok5 hl2_2 (⟨by decide, by decide⟩ : sv_R (0 : Int)) o18) (fun v S1 hq => ?_)
      obtain ⟨rfl, hS1⟩ := hq
      obtain rfl : (sv_sts S [26, 27, 28, 29, 1046, 1047, 1100007, 1100023, 1100024, 1100025, 1053, 31, 1100030, 1100009, 1100027, 1100028, 1100026, 1055, 1100033, 39, 1066] g1) = S1 := hS1.symm
      show sv_T sm_XS sm_cs sm_L sm_sh ((if p1 = -1 then 9 else (if (S 1100002 p1) < 0 then 0 else (S 1100002 p1)) + (600 - (S 1046 0)) + 10)).toNat (q_declare p1 S) 109 13 [(0, .ref 0), (1, sv_I p1), (2, sv_I l2_2)] [sv_I ((S 12 (5 * l2_2 + (0 : Int))))] (sv_sts S [26, 27, 28, 29, 1046, 1047, 1100007, 1100023, 1100024, 1100025, 1053, 31, 1100030, 1100009, 1100027, 1100028, 1100026, 1055, 1100033, 39, 1066] g1)
      refine sv_iconst (d := (-1 : Int)) hM dX12_declare_13 rfl rfl ?_
      refine sv_icmp_ne hM dX12_declare_14 (sm_okI ok5 sm_r12 _) (⟨by decide, by decide⟩ : sv_R (-1 : Int)) (t := 20) rfl rfl (fun hc => ?_) (fun hc => ?_)
      · have h := h.1 (hc)
        have k20 : (¬ (S 12 (5 * l2_2 + 0)) = -1 → ¬ (S 12 (5 * l2_2)) = -1) := fun h => by rw [Int.add_zero] at h; exact h
        have h := h k20
        refine sv_aload_n hM dX12_declare_20 rfl rfl ?_
        refine sv_aload_n hM dX12_declare_21 rfl rfl ?_
        refine sv_iload_n hM dX12_declare_22 rfl rfl ?_
        refine sv_iconst (d := (0 : Int)) hM dX12_declare_23 rfl rfl ?_
        refine sv_callV hM dX12_declare_24 sm_iv_644 (by decide) (sm_a0 _) rfl rfl (Nat.le_of_ble_eq_true rfl) sm_h34 (Nat.le_of_ble_eq_true rfl) (Nat.le_of_ble_eq_true rfl) (F' := 0) (sv_Fn (n := 0) o19) rfl (t_part l2_2 (0 : Int) (sv_sts S [26, 27, 28, 29, 1046, 1047, 1100007, 1100023, 1100024, 1100025, 1053, 31, 1100030, 1100009, 1100027, 1100028, 1100026, 1055, 1100033, 39, 1066] g1) ok5 hl2_2 (⟨by decide, by decide⟩ : sv_R (0 : Int)) o18) (fun v S1 hq => ?_)
        obtain ⟨rfl, hS1⟩ := hq
        obtain rfl : (sv_sts S [26, 27, 28, 29, 1046, 1047, 1100007, 1100023, 1100024, 1100025, 1053, 31, 1100030, 1100009, 1100027, 1100028, 1100026, 1055, 1100033, 39, 1066] g1) = S1 := hS1.symm
        show sv_T sm_XS sm_cs sm_L sm_sh ((if p1 = -1 then 9 else (if (S 1100002 p1) < 0 then 0 else (S 1100002 p1)) + (600 - (S 1046 0)) + 10)).toNat (q_declare p1 S) 109 27 [(0, .ref 0), (1, sv_I p1), (2, sv_I l2_2)] [sv_I ((S 12 (5 * l2_2 + (0 : Int)))), .ref 0] (sv_sts S [26, 27, 28, 29, 1046, 1047, 1100007, 1100023, 1100024, 1100025, 1053, 31, 1100030, 1100009, 1100027, 1100028, 1100026, 1055, 1100033, 39, 1066] g1)
        obtain ⟨o21, h⟩ := h
        obtain ⟨o22, h⟩ := h
        obtain ⟨o23, h⟩ := h
        refine sv_callV hM dX12_declare_27 sm_iv_668 (by decide) (sm_a0 _) rfl rfl (Nat.le_of_ble_eq_true rfl) sm_h96 (Nat.le_of_ble_eq_true rfl) (Nat.le_of_ble_eq_true rfl) (F' := (((if (g1 1047 0) = 0 then (S 1100002 ((S 12 (5 * l2_2 + (0 : Int))))) + (600 - (g1 1046 0)) + 8 else 4))).toNat) (sv_Fe o23) rfl (t_value ((S 12 (5 * l2_2 + (0 : Int)))) (sv_sts S [26, 27, 28, 29, 1046, 1047, 1100007, 1100023, 1100024, 1100025, 1053, 31, 1100030, 1100009, 1100027, 1100028, 1100026, 1055, 1100033, 39, 1066] g1) ok5 (sm_okI ok5 sm_r12 _) o21 o22) (fun v S1 hq => ?_)
        obtain ⟨rfl, ok25, md26, hpo27⟩ := hq
        obtain ⟨g24, rfl⟩ : ∃ g, S1 = sv_sts (sv_sts S [26, 27, 28, 29, 1046, 1047, 1100007, 1100023, 1100024, 1100025, 1053, 31, 1100030, 1100009, 1100027, 1100028, 1100026, 1055, 1100033, 39, 1066] g1) [26, 27, 28, 29, 1046, 1047, 1100007, 1100023, 1100024, 1100025, 1053, 31, 1100030, 1100009, 1100027, 1100028, 1100026, 1055, 1100033, 39, 1066] g := ⟨_, md26.eq⟩
        show sv_T sm_XS sm_cs sm_L sm_sh ((if p1 = -1 then 9 else (if (S 1100002 p1) < 0 then 0 else (S 1100002 p1)) + (600 - (S 1046 0)) + 10)).toNat (q_declare p1 S) 109 30 [(0, .ref 0), (1, sv_I p1), (2, sv_I l2_2)] [] (sv_sts (sv_sts S [26, 27, 28, 29, 1046, 1047, 1100007, 1100023, 1100024, 1100025, 1053, 31, 1100030, 1100009, 1100027, 1100028, 1100026, 1055, 1100033, 39, 1066] g1) [26, 27, 28, 29, 1046, 1047, 1100007, 1100023, 1100024, 1100025, 1053, 31, 1100030, 1100009, 1100027, 1100028, 1100026, 1055, 1100033, 39, 1066] g24)
        have md28 : sv_mod [26, 27, 28, 29, 1046, 1047, 1100007, 1100023, 1100024, 1100025, 1053, 31, 1100030, 1100009, 1100027, 1100028, 1100026, 1055, 1100033, 39, 1066] S (sv_sts (sv_sts S [26, 27, 28, 29, 1046, 1047, 1100007, 1100023, 1100024, 1100025, 1053, 31, 1100030, 1100009, 1100027, 1100028, 1100026, 1055, 1100033, 39, 1066] g1) [26, 27, 28, 29, 1046, 1047, 1100007, 1100023, 1100024, 1100025, 1053, 31, 1100030, 1100009, 1100027, 1100028, 1100026, 1055, 1100033, 39, 1066] g24) := sv_mod.sts md6 (by decide)
        have md29 : sv_mod [26, 27, 28, 29, 1046, 1047, 1100007, 1100023, 1100024, 1100025, 1053, 31, 1100030, 1100009, 1100027, 1100028, 1100026, 1055, 1100033, 39, 1066] S (sv_sts (sv_sts S [26, 27, 28, 29, 1046, 1047, 1100007, 1100023, 1100024, 1100025, 1053, 31, 1100030, 1100009, 1100027, 1100028, 1100026, 1055, 1100033, 39, 1066] g1) [26, 27, 28, 29, 1046, 1047, 1100007, 1100023, 1100024, 1100025, 1053, 31, 1100030, 1100009, 1100027, 1100028, 1100026, 1055, 1100033, 39, 1066] g24) := sv_mod.sts md7 (by decide)
        have h := h g24 hpo27
        refine sv_aload_n hM dX12_declare_30 rfl rfl ?_
        refine sv_aload_n hM dX12_declare_31 rfl rfl ?_
        refine sv_iload_n hM dX12_declare_32 rfl rfl ?_
        refine sv_iconst (d := (1 : Int)) hM dX12_declare_33 rfl rfl ?_
        obtain ⟨o30, h⟩ := h
        refine sv_callV hM dX12_declare_34 sm_iv_644 (by decide) (sm_a0 _) rfl rfl (Nat.le_of_ble_eq_true rfl) sm_h34 (Nat.le_of_ble_eq_true rfl) (Nat.le_of_ble_eq_true rfl) (F' := 0) (sv_Fn (n := 0) o19) rfl (t_part l2_2 (1 : Int) (sv_sts (sv_sts S [26, 27, 28, 29, 1046, 1047, 1100007, 1100023, 1100024, 1100025, 1053, 31, 1100030, 1100009, 1100027, 1100028, 1100026, 1055, 1100033, 39, 1066] g1) [26, 27, 28, 29, 1046, 1047, 1100007, 1100023, 1100024, 1100025, 1053, 31, 1100030, 1100009, 1100027, 1100028, 1100026, 1055, 1100033, 39, 1066] g24) ok25 hl2_2 (⟨by decide, by decide⟩ : sv_R (1 : Int)) o30) (fun v S1 hq => ?_)
        obtain ⟨rfl, hS1⟩ := hq
        obtain rfl : (sv_sts (sv_sts S [26, 27, 28, 29, 1046, 1047, 1100007, 1100023, 1100024, 1100025, 1053, 31, 1100030, 1100009, 1100027, 1100028, 1100026, 1055, 1100033, 39, 1066] g1) [26, 27, 28, 29, 1046, 1047, 1100007, 1100023, 1100024, 1100025, 1053, 31, 1100030, 1100009, 1100027, 1100028, 1100026, 1055, 1100033, 39, 1066] g24) = S1 := hS1.symm
        show sv_T sm_XS sm_cs sm_L sm_sh ((if p1 = -1 then 9 else (if (S 1100002 p1) < 0 then 0 else (S 1100002 p1)) + (600 - (S 1046 0)) + 10)).toNat (q_declare p1 S) 109 37 [(0, .ref 0), (1, sv_I p1), (2, sv_I l2_2)] [sv_I ((S 12 (5 * l2_2 + (1 : Int)))), .ref 0] (sv_sts (sv_sts S [26, 27, 28, 29, 1046, 1047, 1100007, 1100023, 1100024, 1100025, 1053, 31, 1100030, 1100009, 1100027, 1100028, 1100026, 1055, 1100033, 39, 1066] g1) [26, 27, 28, 29, 1046, 1047, 1100007, 1100023, 1100024, 1100025, 1053, 31, 1100030, 1100009, 1100027, 1100028, 1100026, 1055, 1100033, 39, 1066] g24)
        obtain ⟨o31, h⟩ := h
        obtain ⟨o32, h⟩ := h
        refine sv_callV hM dX12_declare_37 sm_iv_704 (by decide) (sm_a0 _) rfl rfl (Nat.le_of_ble_eq_true rfl) sm_h89 (Nat.le_of_ble_eq_true rfl) (Nat.le_of_ble_eq_true rfl) (F' := 2) (sv_Fn (n := 2) o32) rfl (t_coderset ((S 12 (5 * l2_2 + (1 : Int)))) (sv_sts (sv_sts S [26, 27, 28, 29, 1046, 1047, 1100007, 1100023, 1100024, 1100025, 1053, 31, 1100030, 1100009, 1100027, 1100028, 1100026, 1055, 1100033, 39, 1066] g1) [26, 27, 28, 29, 1046, 1047, 1100007, 1100023, 1100024, 1100025, 1053, 31, 1100030, 1100009, 1100027, 1100028, 1100026, 1055, 1100033, 39, 1066] g24) ok25 (sm_okI ok25 sm_r12 _) o31) (fun v S1 hq => ?_)
        obtain ⟨rfl, ok34, md35, hpo36⟩ := hq
        obtain ⟨g33, rfl⟩ : ∃ g, S1 = sv_sts (sv_sts (sv_sts S [26, 27, 28, 29, 1046, 1047, 1100007, 1100023, 1100024, 1100025, 1053, 31, 1100030, 1100009, 1100027, 1100028, 1100026, 1055, 1100033, 39, 1066] g1) [26, 27, 28, 29, 1046, 1047, 1100007, 1100023, 1100024, 1100025, 1053, 31, 1100030, 1100009, 1100027, 1100028, 1100026, 1055, 1100033, 39, 1066] g24) [26, 27, 28, 29, 1046, 1047, 1100007, 1100023, 1100024, 1100025] g := ⟨_, md35.eq⟩
        show sv_T sm_XS sm_cs sm_L sm_sh ((if p1 = -1 then 9 else (if (S 1100002 p1) < 0 then 0 else (S 1100002 p1)) + (600 - (S 1046 0)) + 10)).toNat (q_declare p1 S) 109 40 [(0, .ref 0), (1, sv_I p1), (2, sv_I l2_2)] [] (sv_sts (sv_sts (sv_sts S [26, 27, 28, 29, 1046, 1047, 1100007, 1100023, 1100024, 1100025, 1053, 31, 1100030, 1100009, 1100027, 1100028, 1100026, 1055, 1100033, 39, 1066] g1) [26, 27, 28, 29, 1046, 1047, 1100007, 1100023, 1100024, 1100025, 1053, 31, 1100030, 1100009, 1100027, 1100028, 1100026, 1055, 1100033, 39, 1066] g24) [26, 27, 28, 29, 1046, 1047, 1100007, 1100023, 1100024, 1100025] g33)
        have md37 : sv_mod [26, 27, 28, 29, 1046, 1047, 1100007, 1100023, 1100024, 1100025, 1053, 31, 1100030, 1100009, 1100027, 1100028, 1100026, 1055, 1100033, 39, 1066] S (sv_sts (sv_sts (sv_sts S [26, 27, 28, 29, 1046, 1047, 1100007, 1100023, 1100024, 1100025, 1053, 31, 1100030, 1100009, 1100027, 1100028, 1100026, 1055, 1100033, 39, 1066] g1) [26, 27, 28, 29, 1046, 1047, 1100007, 1100023, 1100024, 1100025, 1053, 31, 1100030, 1100009, 1100027, 1100028, 1100026, 1055, 1100033, 39, 1066] g24) [26, 27, 28, 29, 1046, 1047, 1100007, 1100023, 1100024, 1100025] g33) := sv_mod.sts md28 (by decide)
        have md38 : sv_mod [26, 27, 28, 29, 1046, 1047, 1100007, 1100023, 1100024, 1100025, 1053, 31, 1100030, 1100009, 1100027, 1100028, 1100026, 1055, 1100033, 39, 1066] S (sv_sts (sv_sts (sv_sts S [26, 27, 28, 29, 1046, 1047, 1100007, 1100023, 1100024, 1100025, 1053, 31, 1100030, 1100009, 1100027, 1100028, 1100026, 1055, 1100033, 39, 1066] g1) [26, 27, 28, 29, 1046, 1047, 1100007, 1100023, 1100024, 1100025, 1053, 31, 1100030, 1100009, 1100027, 1100028, 1100026, 1055, 1100033, 39, 1066] g24) [26, 27, 28, 29, 1046, 1047, 1100007, 1100023, 1100024, 1100025] g33) := sv_mod.sts md29 (by decide)
        have h := h g33 hpo36
        refine sv_aload_n hM dX12_declare_40 rfl rfl ?_
        refine sv_bipush (d := (17 : Int)) hM dX12_declare_41 rfl rfl ?_
        obtain ⟨o39, h⟩ := h
        obtain ⟨o40, h⟩ := h
        refine sv_callV hM dX12_declare_43 sm_iv_666 (by decide) (sm_a0 _) rfl rfl (Nat.le_of_ble_eq_true rfl) sm_h83 (Nat.le_of_ble_eq_true rfl) (Nat.le_of_ble_eq_true rfl) (F' := 1) (sv_Fn (n := 1) o40) rfl (t_emit_ (17 : Int) (sv_sts (sv_sts (sv_sts S [26, 27, 28, 29, 1046, 1047, 1100007, 1100023, 1100024, 1100025, 1053, 31, 1100030, 1100009, 1100027, 1100028, 1100026, 1055, 1100033, 39, 1066] g1) [26, 27, 28, 29, 1046, 1047, 1100007, 1100023, 1100024, 1100025, 1053, 31, 1100030, 1100009, 1100027, 1100028, 1100026, 1055, 1100033, 39, 1066] g24) [26, 27, 28, 29, 1046, 1047, 1100007, 1100023, 1100024, 1100025] g33) ok34 (⟨by decide, by decide⟩ : sv_R (17 : Int)) o39) (fun v S1 hq => ?_)
        obtain ⟨rfl, ok42, md43, hpo44⟩ := hq
        obtain ⟨g41, rfl⟩ : ∃ g, S1 = sv_sts (sv_sts (sv_sts (sv_sts S [26, 27, 28, 29, 1046, 1047, 1100007, 1100023, 1100024, 1100025, 1053, 31, 1100030, 1100009, 1100027, 1100028, 1100026, 1055, 1100033, 39, 1066] g1) [26, 27, 28, 29, 1046, 1047, 1100007, 1100023, 1100024, 1100025, 1053, 31, 1100030, 1100009, 1100027, 1100028, 1100026, 1055, 1100033, 39, 1066] g24) [26, 27, 28, 29, 1046, 1047, 1100007, 1100023, 1100024, 1100025] g33) [26, 27, 28, 29, 1046, 1047, 1100007, 1100023, 1100024, 1100025] g := ⟨_, md43.eq⟩
        show sv_T sm_XS sm_cs sm_L sm_sh ((if p1 = -1 then 9 else (if (S 1100002 p1) < 0 then 0 else (S 1100002 p1)) + (600 - (S 1046 0)) + 10)).toNat (q_declare p1 S) 109 46 [(0, .ref 0), (1, sv_I p1), (2, sv_I l2_2)] [] (sv_sts (sv_sts (sv_sts (sv_sts S [26, 27, 28, 29, 1046, 1047, 1100007, 1100023, 1100024, 1100025, 1053, 31, 1100030, 1100009, 1100027, 1100028, 1100026, 1055, 1100033, 39, 1066] g1) [26, 27, 28, 29, 1046, 1047, 1100007, 1100023, 1100024, 1100025, 1053, 31, 1100030, 1100009, 1100027, 1100028, 1100026, 1055, 1100033, 39, 1066] g24) [26, 27, 28, 29, 1046, 1047, 1100007, 1100023, 1100024, 1100025] g33) [26, 27, 28, 29, 1046, 1047, 1100007, 1100023, 1100024, 1100025] g41)
        have md45 : sv_mod [26, 27, 28, 29, 1046, 1047, 1100007, 1100023, 1100024, 1100025, 1053, 31, 1100030, 1100009, 1100027, 1100028, 1100026, 1055, 1100033, 39, 1066] S (sv_sts (sv_sts (sv_sts (sv_sts S [26, 27, 28, 29, 1046, 1047, 1100007, 1100023, 1100024, 1100025, 1053, 31, 1100030, 1100009, 1100027, 1100028, 1100026, 1055, 1100033, 39, 1066] g1) [26, 27, 28, 29, 1046, 1047, 1100007, 1100023, 1100024, 1100025, 1053, 31, 1100030, 1100009, 1100027, 1100028, 1100026, 1055, 1100033, 39, 1066] g24) [26, 27, 28, 29, 1046, 1047, 1100007, 1100023, 1100024, 1100025] g33) [26, 27, 28, 29, 1046, 1047, 1100007, 1100023, 1100024, 1100025] g41) := sv_mod.sts md37 (by decide)
        have md46 : sv_mod [26, 27, 28, 29, 1046, 1047, 1100007, 1100023, 1100024, 1100025, 1053, 31, 1100030, 1100009, 1100027, 1100028, 1100026, 1055, 1100033, 39, 1066] S (sv_sts (sv_sts (sv_sts (sv_sts S [26, 27, 28, 29, 1046, 1047, 1100007, 1100023, 1100024, 1100025, 1053, 31, 1100030, 1100009, 1100027, 1100028, 1100026, 1055, 1100033, 39, 1066] g1) [26, 27, 28, 29, 1046, 1047, 1100007, 1100023, 1100024, 1100025, 1053, 31, 1100030, 1100009, 1100027, 1100028, 1100026, 1055, 1100033, 39, 1066] g24) [26, 27, 28, 29, 1046, 1047, 1100007, 1100023, 1100024, 1100025] g33) [26, 27, 28, 29, 1046, 1047, 1100007, 1100023, 1100024, 1100025] g41) := sv_mod.sts md38 (by decide)
        have h := h g41 hpo44
        refine sv_aload_n hM dX12_declare_46 rfl rfl ?_
        refine sv_getA hM dX12_declare_47 sm_fl_49 (sm_a0 _) sm_k27 rfl ?_
        refine sv_iload_n hM dX12_declare_50 rfl rfl ?_
        obtain ⟨o47, h⟩ := h
        have k48 : sv_R (S 13 l2_2) := sm_okI ok42 sm_r13 l2_2
        have h := h k48
        refine sv_iald hM dX12_declare_51 (sm_a13 _) (by decide) o47.1 o47.2 rfl (x := (S 13 l2_2)) rfl ?_
        refine sv_istore_n hM dX12_declare_52 (by decide) rfl ?_
        show sv_T sm_XS sm_cs sm_L sm_sh ((if p1 = -1 then 9 else (if (S 1100002 p1) < 0 then 0 else (S 1100002 p1)) + (600 - (S 1046 0)) + 10)).toNat (q_declare p1 S) 109 53 [(0, .ref 0), (1, sv_I p1), (2, sv_I (S 13 l2_2))] [] (sv_sts (sv_sts (sv_sts (sv_sts S [26, 27, 28, 29, 1046, 1047, 1100007, 1100023, 1100024, 1100025, 1053, 31, 1100030, 1100009, 1100027, 1100028, 1100026, 1055, 1100033, 39, 1066] g1) [26, 27, 28, 29, 1046, 1047, 1100007, 1100023, 1100024, 1100025, 1053, 31, 1100030, 1100009, 1100027, 1100028, 1100026, 1055, 1100033, 39, 1066] g24) [26, 27, 28, 29, 1046, 1047, 1100007, 1100023, 1100024, 1100025] g33) [26, 27, 28, 29, 1046, 1047, 1100007, 1100023, 1100024, 1100025] g41)
        refine sv_goto hM dX12_declare_53 (pc' := 2) rfl ?_
        have eS := sv_mod.eq md46
        have hb := ih3 ((S 13 l2_2), (sv_sts (sv_sts (sv_sts (sv_sts S [26, 27, 28, 29, 1046, 1047, 1100007, 1100023, 1100024, 1100025, 1053, 31, 1100030, 1100009, 1100027, 1100028, 1100026, 1055, 1100033, 39, 1066] g1) [26, 27, 28, 29, 1046, 1047, 1100007, 1100023, 1100024, 1100025, 1053, 31, 1100030, 1100009, 1100027, 1100028, 1100026, 1055, 1100033, 39, 1066] g24) [26, 27, 28, 29, 1046, 1047, 1100007, 1100023, 1100024, 1100025] g33) [26, 27, 28, 29, 1046, 1047, 1100007, 1100023, 1100024, 1100025] g41)) ⟨k48, (by rw [← eS]; exact ok42), h.1⟩ h.2
        have hb : sv_T sm_XS sm_cs sm_L sm_sh ((if p1 = -1 then 9 else (if (S 1100002 p1) < 0 then 0 else (S 1100002 p1)) + (600 - (S 1046 0)) + 10)).toNat (q_declare p1 S) 109 2 [(0, .ref 0), (1, sv_I p1), (2, sv_I (S 13 l2_2))] [] (sv_sts (sv_sts (sv_sts (sv_sts S [26, 27, 28, 29, 1046, 1047, 1100007, 1100023, 1100024, 1100025, 1053, 31, 1100030, 1100009, 1100027, 1100028, 1100026, 1055, 1100033, 39, 1066] g1) [26, 27, 28, 29, 1046, 1047, 1100007, 1100023, 1100024, 1100025, 1053, 31, 1100030, 1100009, 1100027, 1100028, 1100026, 1055, 1100033, 39, 1066] g24) [26, 27, 28, 29, 1046, 1047, 1100007, 1100023, 1100024, 1100025] g33) [26, 27, 28, 29, 1046, 1047, 1100007, 1100023, 1100024, 1100025] g41) := Eq.mpr (congrArg (fun Z => sv_T sm_XS sm_cs sm_L sm_sh ((if p1 = -1 then 9 else (if (S 1100002 p1) < 0 then 0 else (S 1100002 p1)) + (600 - (S 1046 0)) + 10)).toNat (q_declare p1 S) 109 2 [(0, .ref 0), (1, sv_I p1), (2, sv_I (S 13 l2_2))] [] Z) eS) hb
        exact sv_less (lv := [(0, .ref 0), (1, sv_I p1), (2, sv_I (S 13 l2_2))]) (sv_Sub_cons rfl (sv_Sub_cons rfl (sv_Sub_cons rfl sv_Sub_nil))) hb
      · have h := h.2 (hc)
        refine sv_goto hM dX12_declare_17 (pc' := 46) rfl ?_
        refine sv_aload_n hM dX12_declare_46 rfl rfl ?_
        refine sv_getA hM dX12_declare_47 sm_fl_49 (sm_a0 _) sm_k27 rfl ?_
        refine sv_iload_n hM dX12_declare_50 rfl rfl ?_
        obtain ⟨o49, h⟩ := h
        have k50 : sv_R (S 13 l2_2) := sm_okI ok5 sm_r13 l2_2
        have h := h k50
        refine sv_iald hM dX12_declare_51 (sm_a13 _) (by decide) o49.1 o49.2 rfl (x := (S 13 l2_2)) rfl ?_
        refine sv_istore_n hM dX12_declare_52 (by decide) rfl ?_
        show sv_T sm_XS sm_cs sm_L sm_sh ((if p1 = -1 then 9 else (if (S 1100002 p1) < 0 then 0 else (S 1100002 p1)) + (600 - (S 1046 0)) + 10)).toNat (q_declare p1 S) 109 53 [(0, .ref 0), (1, sv_I p1), (2, sv_I (S 13 l2_2))] [] (sv_sts S [26, 27, 28, 29, 1046, 1047, 1100007, 1100023, 1100024, 1100025, 1053, 31, 1100030, 1100009, 1100027, 1100028, 1100026, 1055, 1100033, 39, 1066] g1)
        refine sv_goto hM dX12_declare_53 (pc' := 2) rfl ?_
        have eS := sv_mod.eq md7
        have hb := ih3 ((S 13 l2_2), (sv_sts S [26, 27, 28, 29, 1046, 1047, 1100007, 1100023, 1100024, 1100025, 1053, 31, 1100030, 1100009, 1100027, 1100028, 1100026, 1055, 1100033, 39, 1066] g1)) ⟨k50, (by rw [← eS]; exact ok5), h.1⟩ h.2
        have hb : sv_T sm_XS sm_cs sm_L sm_sh ((if p1 = -1 then 9 else (if (S 1100002 p1) < 0 then 0 else (S 1100002 p1)) + (600 - (S 1046 0)) + 10)).toNat (q_declare p1 S) 109 2 [(0, .ref 0), (1, sv_I p1), (2, sv_I (S 13 l2_2))] [] (sv_sts S [26, 27, 28, 29, 1046, 1047, 1100007, 1100023, 1100024, 1100025, 1053, 31, 1100030, 1100009, 1100027, 1100028, 1100026, 1055, 1100033, 39, 1066] g1) := Eq.mpr (congrArg (fun Z => sv_T sm_XS sm_cs sm_L sm_sh ((if p1 = -1 then 9 else (if (S 1100002 p1) < 0 then 0 else (S 1100002 p1)) + (600 - (S 1046 0)) + 10)).toNat (q_declare p1 S) 109 2 [(0, .ref 0), (1, sv_I p1), (2, sv_I (S 13 l2_2))] [] Z) eS) hb
        exact sv_less (lv := [(0, .ref 0), (1, sv_I p1), (2, sv_I (S 13 l2_2))]) (sv_Sub_cons rfl (sv_Sub_cons rfl (sv_Sub_cons rfl sv_Sub_nil))) hb
  have eS := sv_mod.eq (sv_mod.rf (l := [26, 27, 28, 29, 1046, 1047, 1100007, 1100023, 1100024, 1100025, 1053, 31, 1100030, 1100009, 1100027, 1100028, 1100026, 1055, 1100033, 39, 1066]) (S := S))
  have hb := hJ (p1, S) ⟨hp1, (by rw [← eS]; exact hok), hin4⟩
  have hb : sv_T sm_XS sm_cs sm_L sm_sh ((if p1 = -1 then 9 else (if (S 1100002 p1) < 0 then 0 else (S 1100002 p1)) + (600 - (S 1046 0)) + 10)).toNat (q_declare p1 S) 109 2 [(0, .ref 0), (1, sv_I p1), (2, sv_I p1)] [] S := Eq.mpr (congrArg (fun Z => sv_T sm_XS sm_cs sm_L sm_sh ((if p1 = -1 then 9 else (if (S 1100002 p1) < 0 then 0 else (S 1100002 p1)) + (600 - (S 1046 0)) + 10)).toNat (q_declare p1 S) 109 2 [(0, .ref 0), (1, sv_I p1), (2, sv_I p1)] [] Z) eS) hb
  exact hb
