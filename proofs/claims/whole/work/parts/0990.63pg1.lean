theorem dX12_expression_0 : decode cX12_expression 0 = .ok (.aload_n 0, 1) := by decide +kernel
theorem dX12_expression_1 : decode cX12_expression 1 = .ok (.iload_n 1, 1) := by decide +kernel
theorem dX12_expression_2 : decode cX12_expression 2 = .ok (.invokevirtual 442, 3) := by decide +kernel
theorem dX12_expression_5 : decode cX12_expression 5 = .ok (.istore_n 2, 1) := by decide +kernel
theorem dX12_expression_6 : decode cX12_expression 6 = .ok (.aload_n 0, 1) := by decide +kernel
theorem dX12_expression_7 : decode cX12_expression 7 = .ok (.getfield 389, 3) := by decide +kernel
theorem dX12_expression_10 : decode cX12_expression 10 = .ok (.ifCond .ne 38, 3) := by decide +kernel
theorem dX12_expression_13 : decode cX12_expression 13 = .ok (.aload_n 0, 1) := by decide +kernel
theorem dX12_expression_14 : decode cX12_expression 14 = .ok (.bipush 32, 2) := by decide +kernel
theorem dX12_expression_16 : decode cX12_expression 16 = .ok (.invokevirtual 398, 3) := by decide +kernel
theorem dX12_expression_19 : decode cX12_expression 19 = .ok (.ifCond .eq 29, 3) := by decide +kernel
theorem dX12_expression_22 : decode cX12_expression 22 = .ok (.aload_n 0, 1) := by decide +kernel
theorem dX12_expression_23 : decode cX12_expression 23 = .ok (.dup, 1) := by decide +kernel
theorem dX12_expression_24 : decode cX12_expression 24 = .ok (.getfield 392, 3) := by decide +kernel
theorem dX12_expression_27 : decode cX12_expression 27 = .ok (.iconst 1, 1) := by decide +kernel
theorem dX12_expression_28 : decode cX12_expression 28 = .ok (.iadd, 1) := by decide +kernel
theorem dX12_expression_29 : decode cX12_expression 29 = .ok (.putfield 392, 3) := by decide +kernel
theorem dX12_expression_32 : decode cX12_expression 32 = .ok (.aload_n 0, 1) := by decide +kernel
theorem dX12_expression_33 : decode cX12_expression 33 = .ok (.iconst 3, 1) := by decide +kernel
theorem dX12_expression_34 : decode cX12_expression 34 = .ok (.iload_n 2, 1) := by decide +kernel
theorem dX12_expression_35 : decode cX12_expression 35 = .ok (.aload_n 0, 1) := by decide +kernel
theorem dX12_expression_36 : decode cX12_expression 36 = .ok (.iload_n 1, 1) := by decide +kernel
theorem dX12_expression_37 : decode cX12_expression 37 = .ok (.invokevirtual 442, 3) := by decide +kernel
theorem dX12_expression_40 : decode cX12_expression 40 = .ok (.iconst 0, 1) := by decide +kernel
theorem dX12_expression_41 : decode cX12_expression 41 = .ok (.invokevirtual 446, 3) := by decide +kernel
theorem dX12_expression_44 : decode cX12_expression 44 = .ok (.istore_n 2, 1) := by decide +kernel
theorem dX12_expression_45 : decode cX12_expression 45 = .ok (.goto (-39), 3) := by decide +kernel
theorem dX12_expression_48 : decode cX12_expression 48 = .ok (.iload_n 2, 1) := by decide +kernel
theorem dX12_expression_49 : decode cX12_expression 49 = .ok (.ireturn, 1) := by decide +kernel
theorem dX12_opened_0 : decode cX12_opened 0 = .ok (.aload_n 0, 1) := by decide +kernel
theorem dX12_opened_1 : decode cX12_opened 1 = .ok (.aload_n 0, 1) := by decide +kernel
theorem dX12_opened_2 : decode cX12_opened 2 = .ok (.invokevirtual 439, 3) := by decide +kernel
theorem dX12_opened_5 : decode cX12_opened 5 = .ok (.invokevirtual 450, 3) := by decide +kernel
theorem dX12_opened_8 : decode cX12_opened 8 = .ok (.aload_n 0, 1) := by decide +kernel
theorem dX12_opened_9 : decode cX12_opened 9 = .ok (.iload_n 1, 1) := by decide +kernel
theorem dX12_opened_10 : decode cX12_opened 10 = .ok (.invokevirtual 442, 3) := by decide +kernel
theorem dX12_opened_13 : decode cX12_opened 13 = .ok (.istore_n 2, 1) := by decide +kernel
theorem dX12_opened_14 : decode cX12_opened 14 = .ok (.aload_n 0, 1) := by decide +kernel
theorem dX12_opened_15 : decode cX12_opened 15 = .ok (.invokevirtual 454, 3) := by decide +kernel
theorem dX12_opened_18 : decode cX12_opened 18 = .ok (.iload_n 2, 1) := by decide +kernel
theorem dX12_opened_19 : decode cX12_opened 19 = .ok (.ireturn, 1) := by decide +kernel
theorem dX12_assigned_0 : decode cX12_assigned 0 = .ok (.aload_n 0, 1) := by decide +kernel
theorem dX12_assigned_1 : decode cX12_assigned 1 = .ok (.iload_n 1, 1) := by decide +kernel
theorem dX12_assigned_2 : decode cX12_assigned 2 = .ok (.invokevirtual 457, 3) := by decide +kernel
theorem dX12_assigned_5 : decode cX12_assigned 5 = .ok (.istore_n 2, 1) := by decide +kernel
theorem dX12_assigned_6 : decode cX12_assigned 6 = .ok (.aload_n 0, 1) := by decide +kernel
theorem dX12_assigned_7 : decode cX12_assigned 7 = .ok (.getfield 389, 3) := by decide +kernel
theorem dX12_assigned_10 : decode cX12_assigned 10 = .ok (.ifCond .le 5, 3) := by decide +kernel
theorem dX12_assigned_13 : decode cX12_assigned 13 = .ok (.iconst (-1), 1) := by decide +kernel
theorem dX12_assigned_14 : decode cX12_assigned 14 = .ok (.ireturn, 1) := by decide +kernel
theorem dX12_assigned_15 : decode cX12_assigned 15 = .ok (.aload_n 0, 1) := by decide +kernel
theorem dX12_assigned_16 : decode cX12_assigned 16 = .ok (.invokevirtual 460, 3) := by decide +kernel
theorem dX12_assigned_19 : decode cX12_assigned 19 = .ok (.istore_n 3, 1) := by decide +kernel
theorem dX12_assigned_20 : decode cX12_assigned 20 = .ok (.iload_n 3, 1) := by decide +kernel
theorem dX12_assigned_21 : decode cX12_assigned 21 = .ok (.iconst (-1), 1) := by decide +kernel
theorem dX12_assigned_22 : decode cX12_assigned 22 = .ok (.if_icmp .ne 5, 3) := by decide +kernel
theorem dX12_assigned_25 : decode cX12_assigned 25 = .ok (.iload_n 2, 1) := by decide +kernel
theorem dX12_assigned_26 : decode cX12_assigned 26 = .ok (.ireturn, 1) := by decide +kernel
theorem dX12_assigned_27 : decode cX12_assigned 27 = .ok (.aload_n 0, 1) := by decide +kernel
theorem dX12_assigned_28 : decode cX12_assigned 28 = .ok (.iload_n 2, 1) := by decide +kernel
theorem dX12_assigned_29 : decode cX12_assigned 29 = .ok (.invokevirtual 463, 3) := by decide +kernel
theorem dX12_assigned_32 : decode cX12_assigned 32 = .ok (.ifCond .ne 11, 3) := by decide +kernel
theorem dX12_assigned_35 : decode cX12_assigned 35 = .ok (.aload_n 0, 1) := by decide +kernel
theorem dX12_assigned_36 : decode cX12_assigned 36 = .ok (.iconst 3, 1) := by decide +kernel
theorem dX12_assigned_37 : decode cX12_assigned 37 = .ok (.invokevirtual 401, 3) := by decide +kernel
theorem dX12_assigned_40 : decode cX12_assigned 40 = .ok (.pop, 1) := by decide +kernel
theorem dX12_assigned_41 : decode cX12_assigned 41 = .ok (.iconst (-1), 1) := by decide +kernel
theorem dX12_assigned_42 : decode cX12_assigned 42 = .ok (.ireturn, 1) := by decide +kernel
theorem dX12_assigned_43 : decode cX12_assigned 43 = .ok (.aload_n 0, 1) := by decide +kernel
theorem dX12_assigned_44 : decode cX12_assigned 44 = .ok (.dup, 1) := by decide +kernel
theorem dX12_assigned_45 : decode cX12_assigned 45 = .ok (.getfield 392, 3) := by decide +kernel
theorem dX12_assigned_48 : decode cX12_assigned 48 = .ok (.iconst 1, 1) := by decide +kernel
theorem dX12_assigned_49 : decode cX12_assigned 49 = .ok (.iadd, 1) := by decide +kernel
theorem dX12_assigned_50 : decode cX12_assigned 50 = .ok (.putfield 392, 3) := by decide +kernel
theorem dX12_assigned_53 : decode cX12_assigned 53 = .ok (.aload_n 0, 1) := by decide +kernel
theorem dX12_assigned_54 : decode cX12_assigned 54 = .ok (.bipush 15, 2) := by decide +kernel
theorem dX12_assigned_56 : decode cX12_assigned 56 = .ok (.iload_n 3, 1) := by decide +kernel
theorem dX12_assigned_57 : decode cX12_assigned 57 = .ok (.bipush 99, 2) := by decide +kernel
theorem dX12_assigned_59 : decode cX12_assigned 59 = .ok (.if_icmp .ne 7, 3) := by decide +kernel
theorem dX12_assigned_62 : decode cX12_assigned 62 = .ok (.iconst (-1), 1) := by decide +kernel
theorem dX12_assigned_63 : decode cX12_assigned 63 = .ok (.goto 4, 3) := by decide +kernel
theorem dX12_assigned_66 : decode cX12_assigned 66 = .ok (.iload_n 3, 1) := by decide +kernel
theorem dX12_assigned_67 : decode cX12_assigned 67 = .ok (.iload_n 2, 1) := by decide +kernel
theorem dX12_assigned_68 : decode cX12_assigned 68 = .ok (.aload_n 0, 1) := by decide +kernel
theorem dX12_assigned_69 : decode cX12_assigned 69 = .ok (.iload_n 1, 1) := by decide +kernel
theorem dX12_assigned_70 : decode cX12_assigned 70 = .ok (.invokevirtual 466, 3) := by decide +kernel
theorem dX12_assigned_73 : decode cX12_assigned 73 = .ok (.invokevirtual 446, 3) := by decide +kernel
theorem dX12_assigned_76 : decode cX12_assigned 76 = .ok (.ireturn, 1) := by decide +kernel
theorem dX12_conditional_0 : decode cX12_conditional 0 = .ok (.aload_n 0, 1) := by decide +kernel
theorem dX12_conditional_1 : decode cX12_conditional 1 = .ok (.iconst 0, 1) := by decide +kernel
theorem dX12_conditional_2 : decode cX12_conditional 2 = .ok (.iload_n 1, 1) := by decide +kernel
theorem dX12_conditional_3 : decode cX12_conditional 3 = .ok (.invokevirtual 469, 3) := by decide +kernel
theorem dX12_conditional_6 : decode cX12_conditional 6 = .ok (.istore_n 2, 1) := by decide +kernel
theorem dX12_conditional_7 : decode cX12_conditional 7 = .ok (.aload_n 0, 1) := by decide +kernel
theorem dX12_conditional_8 : decode cX12_conditional 8 = .ok (.getfield 389, 3) := by decide +kernel
theorem dX12_conditional_11 : decode cX12_conditional 11 = .ok (.ifCond .gt 12, 3) := by decide +kernel
theorem dX12_conditional_14 : decode cX12_conditional 14 = .ok (.aload_n 0, 1) := by decide +kernel
theorem dX12_conditional_15 : decode cX12_conditional 15 = .ok (.bipush 45, 2) := by decide +kernel
theorem dX12_conditional_17 : decode cX12_conditional 17 = .ok (.invokevirtual 398, 3) := by decide +kernel
theorem dX12_conditional_20 : decode cX12_conditional 20 = .ok (.ifCond .ne 5, 3) := by decide +kernel
theorem dX12_conditional_23 : decode cX12_conditional 23 = .ok (.iload_n 2, 1) := by decide +kernel
theorem dX12_conditional_24 : decode cX12_conditional 24 = .ok (.ireturn, 1) := by decide +kernel
theorem dX12_conditional_25 : decode cX12_conditional 25 = .ok (.aload_n 0, 1) := by decide +kernel
theorem dX12_conditional_26 : decode cX12_conditional 26 = .ok (.dup, 1) := by decide +kernel
theorem dX12_conditional_27 : decode cX12_conditional 27 = .ok (.getfield 392, 3) := by decide +kernel
theorem dX12_conditional_30 : decode cX12_conditional 30 = .ok (.iconst 1, 1) := by decide +kernel
theorem dX12_conditional_31 : decode cX12_conditional 31 = .ok (.iadd, 1) := by decide +kernel
theorem dX12_conditional_32 : decode cX12_conditional 32 = .ok (.putfield 392, 3) := by decide +kernel
theorem dX12_conditional_35 : decode cX12_conditional 35 = .ok (.aload_n 0, 1) := by decide +kernel
theorem dX12_conditional_36 : decode cX12_conditional 36 = .ok (.iload_n 1, 1) := by decide +kernel
theorem dX12_conditional_37 : decode cX12_conditional 37 = .ok (.invokevirtual 466, 3) := by decide +kernel
theorem dX12_conditional_40 : decode cX12_conditional 40 = .ok (.istore_n 3, 1) := by decide +kernel
theorem dX12_conditional_41 : decode cX12_conditional 41 = .ok (.aload_n 0, 1) := by decide +kernel
theorem dX12_conditional_42 : decode cX12_conditional 42 = .ok (.bipush 46, 2) := by decide +kernel
theorem dX12_conditional_44 : decode cX12_conditional 44 = .ok (.invokevirtual 473, 3) := by decide +kernel
theorem dX12_conditional_47 : decode cX12_conditional 47 = .ok (.ifCond .ne 5, 3) := by decide +kernel
theorem dX12_conditional_50 : decode cX12_conditional 50 = .ok (.iconst (-1), 1) := by decide +kernel
theorem dX12_conditional_51 : decode cX12_conditional 51 = .ok (.ireturn, 1) := by decide +kernel
theorem dX12_conditional_52 : decode cX12_conditional 52 = .ok (.aload_n 0, 1) := by decide +kernel
theorem dX12_conditional_53 : decode cX12_conditional 53 = .ok (.bipush 14, 2) := by decide +kernel
theorem dX12_conditional_55 : decode cX12_conditional 55 = .ok (.iload_n 2, 1) := by decide +kernel
theorem dX12_conditional_56 : decode cX12_conditional 56 = .ok (.iload_n 3, 1) := by decide +kernel
theorem dX12_conditional_57 : decode cX12_conditional 57 = .ok (.aload_n 0, 1) := by decide +kernel
theorem dX12_conditional_58 : decode cX12_conditional 58 = .ok (.iload_n 1, 1) := by decide +kernel
theorem dX12_conditional_59 : decode cX12_conditional 59 = .ok (.invokevirtual 466, 3) := by decide +kernel
theorem dX12_conditional_62 : decode cX12_conditional 62 = .ok (.invokevirtual 446, 3) := by decide +kernel
theorem dX12_conditional_65 : decode cX12_conditional 65 = .ok (.ireturn, 1) := by decide +kernel
def q_expression (p1 : Int) (S : sv_S) : Option Value → sv_S → Prop := fun v S' => ∃ r : Int, v = some (sv_I r) ∧ sv_R r ∧ sm_ok S' ∧ sv_mod [1020, 1021, 1022, 1023, 5, 1011, 3, 4, 1007, 1009, 11, 12, 13, 14, 1024, 15, 16, 1031, 1032, 17, 18, 19, 20, 21, 22, 23, 24, 25, 1042, 1043, 1044, 1045, 1100001, 1100002, 1100005, 1100003, 1100004, 1100018, 1100019, 1100016] S S' ∧ ((S 1020 0) ≤ (S' 1020 0) ∧ (S' 1020 0) < (S' 1012 0) ∧ 0 ≤ (S' 1021 0) ∧ (0 < (S 1021 0) → 0 < (S' 1021 0)) ∧ (S 1007 0) ≤ (S' 1007 0) ∧ (S' 1007 0) ≤ 90 ∧ sm_LN (S' 4) 400 (S' 1007 0) ∧ ((S 1009 0) = 1 → (S' 1009 0) = 1) ∧ ((S' 1021 0) = 0 → sm_WF (S' 11) (S' 12) (S' 13) (S' 1100001) (S' 1100002) (S' 1100005) (S' 1100003) (S' 1100004) (S' 1024 0) (S' 1007 0) (S' 1009 0) (sm_fn (S' 1032 0) (S' 21) (S' 1043 0)) ∧ sm_PX (S 11) (S 12) (S 13) (S 1100001) (S 1100002) (S 1100005) (S 1100003) (S 1100004) (S' 11) (S' 12) (S' 13) (S' 1100001) (S' 1100002) (S' 1100005) (S' 1100003) (S' 1100004) (S 1024 0) ∧ sm_FT (S' 11) (S' 12) (S' 13) (S' 1100019) (S' 17) (S' 18) (S' 21) (S' 19) (S' 20) (S' 22) (S' 1100016) (S' 1024 0) (S' 1007 0) (S' 1009 0) (S' 1032 0) (S' 1032 0) ∧ sm_WG (S' 1100001) (S' 1100019) (S' 1043 0) ∧ sm_F1 (S 1100019) (S' 1100019) (S 1024 0) ∧ sm_F1 (S 17) (S' 17) (S 1032 0) ∧ sm_F1 (S 18) (S' 18) (S 1032 0) ∧ sm_F1 (S 21) (S' 21) (S 1032 0) ∧ sm_F1 (S 20) (S' 20) (S 1032 0) ∧ sm_F1 (S 22) (S' 22) (S 1032 0) ∧ sm_F1 (S 1100016) (S' 1100016) (S 1032 0) ∧ sm_F1 (S 19) (S' 19) (8 * (S 1032 0)) ∧ sm_FN (S' 1100016) (S 1032 0) (S' 1032 0)) ∧ sm_KL (S 15) (S 16) (S' 15) (S' 16) (S 1031 0) ∧ sm_HD (S' 23) (S' 24) (S' 1100018 0) (S' 1007 0) ∧ sm_HD (S' 25) (fun _ : Int => (S' 1042 0)) 1 (S' 1007 0) ∧ (S' 1031 0) = (S 1031 0) ∧ (S' 1043 0) = (S 1043 0) ∧ (S' 1044 0) = (S 1044 0) ∧ (S' 1045 0) = (S 1045 0) ∧ (S 1032 0) ≤ (S' 1032 0) ∧ (S' 1032 0) ≤ 1 + (S' 1020 0) ∧ (S' 1100018 0) = (S' 1032 0) ∧ (S 1024 0) ≤ (S' 1024 0) ∧ ((S' 1021 0) = 0 → (S' 1023 0) = (S 1023 0) ∧ (S' 1024 0) + 1 ≤ (S 1024 0) + 2 * ((S' 1020 0) - (S 1020 0))) ∧ (0 < (S' 1021 0) → (S' 1024 0) ≤ (S 1024 0) + 2 * ((S' 1020 0) - (S 1020 0)) + 2 * (30 * (20 - (S 1023 0)) + 26)) ∧ -1 ≤ r ∧ r < 12000 ∧ ((S' 1021 0) = 0 → (S 1020 0) < (S' 1020 0) ∧ 1 ≤ (S 6 (S 1020 0)) ∧ sm_ex (S' 1100001) (S' 1100002) (S' 1100005) (S' 1024 0) 1 r (17 * (20 - (S 1023 0)) + 17) (20 - (S 1023 0)) ∧ ((S' 11 r) = 2 ∨ (S' 11 r) = 7 → (S' 1100002 r) ≤ 17 * (20 - (S 1023 0)) + 2)))
def T_expression (d : Int) : Prop := ∀ (p1 : Int) (S : sv_S), sm_ok S → (0 ≤ p1 ∧ p1 ≤ 1) → (0 ≤ (S 1020 0) ∧ (S 1020 0) < (S 1012 0) ∧ sm_TK (S 6) (S 8) (S 9) (S 10) (S 1012 0) ∧ 0 ≤ (S 1021 0) ∧ 0 ≤ (S 1004 0) ∧ (S 1004 0) ≤ 4000 ∧ 1 ≤ (S 1007 0) ∧ (S 1007 0) ≤ 90 ∧ sm_LN (S 4) 400 (S 1007 0) ∧ ((S 1021 0) = 0 → sm_WF (S 11) (S 12) (S 13) (S 1100001) (S 1100002) (S 1100005) (S 1100003) (S 1100004) (S 1024 0) (S 1007 0) (S 1009 0) (sm_fn (S 1032 0) (S 21) (S 1043 0)) ∧ sm_FT (S 11) (S 12) (S 13) (S 1100019) (S 17) (S 18) (S 21) (S 19) (S 20) (S 22) (S 1100016) (S 1024 0) (S 1007 0) (S 1009 0) (S 1032 0) (S 1032 0) ∧ sm_WG (S 1100001) (S 1100019) (S 1043 0) ∧ (S 1100016 (S 1043 0)) = 0) ∧ sm_HD (S 23) (S 24) (S 1100018 0) (S 1007 0) ∧ sm_HD (S 25) (fun _ : Int => (S 1042 0)) 1 (S 1007 0) ∧ 0 ≤ (S 1043 0) ∧ (S 1043 0) < (S 1100018 0) ∧ (S 1100018 0) = (S 1032 0) ∧ (S 1032 0) ≤ 1 + (S 1020 0) ∧ 0 ≤ (S 1031 0) ∧ (S 1031 0) ≤ 100 ∧ 0 ≤ (S 1044 0) ∧ (S 1044 0) ≤ 30 ∧ 0 ≤ (S 1045 0) ∧ (S 1045 0) ≤ 30 ∧ 0 ≤ (S 1024 0) ∧ ((S 1021 0) = 0 → 0 ≤ (S 1023 0) ∧ (S 1023 0) ≤ 20 ∧ (S 1031 0) ≤ 3 * (S 1023 0) + 5 ∧ (S 1024 0) ≤ 2 * (S 1020 0) ∧ (S 1044 0) ≤ (S 1023 0) ∧ (S 1045 0) ≤ (S 1023 0)) ∧ (S 1021 0) = 0) → (30 * (20 - (S 1023 0)) + 26) = d → sv_T sm_XS sm_cs sm_L sm_sh (30 * (20 - (S 1023 0)) + 26).toNat (q_expression p1 S) 43 0 (lv_args 0 [.ref 0, sv_I p1]) [] S
def q_opened (p1 : Int) (S : sv_S) : Option Value → sv_S → Prop := fun v S' => ∃ r : Int, v = some (sv_I r) ∧ sv_R r ∧ sm_ok S' ∧ sv_mod [1020, 1021, 1022, 1023, 5, 1011, 3, 4, 1007, 1009, 11, 12, 13, 14, 1024, 15, 16, 1031, 1032, 17, 18, 19, 20, 21, 22, 23, 24, 25, 1042, 1043, 1044, 1045, 1100001, 1100002, 1100005, 1100003, 1100004, 1100018, 1100019, 1100016] S S' ∧ ((S 1020 0) ≤ (S' 1020 0) ∧ (S' 1020 0) < (S' 1012 0) ∧ 0 ≤ (S' 1021 0) ∧ (0 < (S 1021 0) → 0 < (S' 1021 0)) ∧ (S 1007 0) ≤ (S' 1007 0) ∧ (S' 1007 0) ≤ 90 ∧ sm_LN (S' 4) 400 (S' 1007 0) ∧ ((S 1009 0) = 1 → (S' 1009 0) = 1) ∧ ((S' 1021 0) = 0 → sm_WF (S' 11) (S' 12) (S' 13) (S' 1100001) (S' 1100002) (S' 1100005) (S' 1100003) (S' 1100004) (S' 1024 0) (S' 1007 0) (S' 1009 0) (sm_fn (S' 1032 0) (S' 21) (S' 1043 0)) ∧ sm_PX (S 11) (S 12) (S 13) (S 1100001) (S 1100002) (S 1100005) (S 1100003) (S 1100004) (S' 11) (S' 12) (S' 13) (S' 1100001) (S' 1100002) (S' 1100005) (S' 1100003) (S' 1100004) (S 1024 0) ∧ sm_FT (S' 11) (S' 12) (S' 13) (S' 1100019) (S' 17) (S' 18) (S' 21) (S' 19) (S' 20) (S' 22) (S' 1100016) (S' 1024 0) (S' 1007 0) (S' 1009 0) (S' 1032 0) (S' 1032 0) ∧ sm_WG (S' 1100001) (S' 1100019) (S' 1043 0) ∧ sm_F1 (S 1100019) (S' 1100019) (S 1024 0) ∧ sm_F1 (S 17) (S' 17) (S 1032 0) ∧ sm_F1 (S 18) (S' 18) (S 1032 0) ∧ sm_F1 (S 21) (S' 21) (S 1032 0) ∧ sm_F1 (S 20) (S' 20) (S 1032 0) ∧ sm_F1 (S 22) (S' 22) (S 1032 0) ∧ sm_F1 (S 1100016) (S' 1100016) (S 1032 0) ∧ sm_F1 (S 19) (S' 19) (8 * (S 1032 0)) ∧ sm_FN (S' 1100016) (S 1032 0) (S' 1032 0)) ∧ sm_KL (S 15) (S 16) (S' 15) (S' 16) (S 1031 0) ∧ sm_HD (S' 23) (S' 24) (S' 1100018 0) (S' 1007 0) ∧ sm_HD (S' 25) (fun _ : Int => (S' 1042 0)) 1 (S' 1007 0) ∧ (S' 1031 0) = (S 1031 0) ∧ (S' 1043 0) = (S 1043 0) ∧ (S' 1044 0) = (S 1044 0) ∧ (S' 1045 0) = (S 1045 0) ∧ (S 1032 0) ≤ (S' 1032 0) ∧ (S' 1032 0) ≤ 1 + (S' 1020 0) ∧ (S' 1100018 0) = (S' 1032 0) ∧ (S 1024 0) ≤ (S' 1024 0) ∧ ((S' 1021 0) = 0 → (S' 1023 0) = (S 1023 0) ∧ (S' 1024 0) + 1 ≤ (S 1024 0) + 2 * ((S' 1020 0) - (S 1020 0))) ∧ (0 < (S' 1021 0) → (S' 1024 0) ≤ (S 1024 0) + 2 * ((S' 1020 0) - (S 1020 0)) + 2 * (30 * (20 - (S 1023 0)) + 14)) ∧ -1 ≤ r ∧ r < 12000 ∧ ((S' 1021 0) = 0 → sm_ex (S' 1100001) (S' 1100002) (S' 1100005) (S' 1024 0) 1 r (17 * (20 - (S 1023 0))) (19 - (S 1023 0)) ∧ (S 1020 0) < (S' 1020 0)))
def T_opened (d : Int) : Prop := ∀ (p1 : Int) (S : sv_S), sm_ok S → (0 ≤ p1 ∧ p1 ≤ 1) → (0 ≤ (S 1020 0) ∧ (S 1020 0) < (S 1012 0) ∧ sm_TK (S 6) (S 8) (S 9) (S 10) (S 1012 0) ∧ 0 ≤ (S 1021 0) ∧ 0 ≤ (S 1004 0) ∧ (S 1004 0) ≤ 4000 ∧ 1 ≤ (S 1007 0) ∧ (S 1007 0) ≤ 90 ∧ sm_LN (S 4) 400 (S 1007 0) ∧ ((S 1021 0) = 0 → sm_WF (S 11) (S 12) (S 13) (S 1100001) (S 1100002) (S 1100005) (S 1100003) (S 1100004) (S 1024 0) (S 1007 0) (S 1009 0) (sm_fn (S 1032 0) (S 21) (S 1043 0)) ∧ sm_FT (S 11) (S 12) (S 13) (S 1100019) (S 17) (S 18) (S 21) (S 19) (S 20) (S 22) (S 1100016) (S 1024 0) (S 1007 0) (S 1009 0) (S 1032 0) (S 1032 0) ∧ sm_WG (S 1100001) (S 1100019) (S 1043 0) ∧ (S 1100016 (S 1043 0)) = 0) ∧ sm_HD (S 23) (S 24) (S 1100018 0) (S 1007 0) ∧ sm_HD (S 25) (fun _ : Int => (S 1042 0)) 1 (S 1007 0) ∧ 0 ≤ (S 1043 0) ∧ (S 1043 0) < (S 1100018 0) ∧ (S 1100018 0) = (S 1032 0) ∧ (S 1032 0) ≤ 1 + (S 1020 0) ∧ 0 ≤ (S 1031 0) ∧ (S 1031 0) ≤ 100 ∧ 0 ≤ (S 1044 0) ∧ (S 1044 0) ≤ 30 ∧ 0 ≤ (S 1045 0) ∧ (S 1045 0) ≤ 30 ∧ 0 ≤ (S 1024 0) ∧ ((S 1021 0) = 0 → 0 ≤ (S 1023 0) ∧ (S 1023 0) ≤ 20 ∧ (S 1031 0) ≤ 3 * (S 1023 0) + 5 ∧ (S 1024 0) ≤ 2 * (S 1020 0) ∧ (S 1044 0) ≤ (S 1023 0) ∧ (S 1045 0) ≤ (S 1023 0)) ∧ (S 1021 0) = 0) → (30 * (20 - (S 1023 0)) + 14) = d → sv_T sm_XS sm_cs sm_L sm_sh (30 * (20 - (S 1023 0)) + 14).toNat (q_opened p1 S) 46 0 (lv_args 0 [.ref 0, sv_I p1]) [] S
def q_assigned (p1 : Int) (S : sv_S) : Option Value → sv_S → Prop := fun v S' => ∃ r : Int, v = some (sv_I r) ∧ sv_R r ∧ sm_ok S' ∧ sv_mod [1020, 1021, 1022, 1023, 5, 1011, 3, 4, 1007, 1009, 11, 12, 13, 14, 1024, 15, 16, 1031, 1032, 17, 18, 19, 20, 21, 22, 23, 24, 25, 1042, 1043, 1044, 1045, 1100001, 1100002, 1100005, 1100003, 1100004, 1100018, 1100019, 1100016] S S' ∧ ((S 1020 0) ≤ (S' 1020 0) ∧ (S' 1020 0) < (S' 1012 0) ∧ 0 ≤ (S' 1021 0) ∧ (0 < (S 1021 0) → 0 < (S' 1021 0)) ∧ (S 1007 0) ≤ (S' 1007 0) ∧ (S' 1007 0) ≤ 90 ∧ sm_LN (S' 4) 400 (S' 1007 0) ∧ ((S 1009 0) = 1 → (S' 1009 0) = 1) ∧ ((S' 1021 0) = 0 → sm_WF (S' 11) (S' 12) (S' 13) (S' 1100001) (S' 1100002) (S' 1100005) (S' 1100003) (S' 1100004) (S' 1024 0) (S' 1007 0) (S' 1009 0) (sm_fn (S' 1032 0) (S' 21) (S' 1043 0)) ∧ sm_PX (S 11) (S 12) (S 13) (S 1100001) (S 1100002) (S 1100005) (S 1100003) (S 1100004) (S' 11) (S' 12) (S' 13) (S' 1100001) (S' 1100002) (S' 1100005) (S' 1100003) (S' 1100004) (S 1024 0) ∧ sm_FT (S' 11) (S' 12) (S' 13) (S' 1100019) (S' 17) (S' 18) (S' 21) (S' 19) (S' 20) (S' 22) (S' 1100016) (S' 1024 0) (S' 1007 0) (S' 1009 0) (S' 1032 0) (S' 1032 0) ∧ sm_WG (S' 1100001) (S' 1100019) (S' 1043 0) ∧ sm_F1 (S 1100019) (S' 1100019) (S 1024 0) ∧ sm_F1 (S 17) (S' 17) (S 1032 0) ∧ sm_F1 (S 18) (S' 18) (S 1032 0) ∧ sm_F1 (S 21) (S' 21) (S 1032 0) ∧ sm_F1 (S 20) (S' 20) (S 1032 0) ∧ sm_F1 (S 22) (S' 22) (S 1032 0) ∧ sm_F1 (S 1100016) (S' 1100016) (S 1032 0) ∧ sm_F1 (S 19) (S' 19) (8 * (S 1032 0)) ∧ sm_FN (S' 1100016) (S 1032 0) (S' 1032 0)) ∧ sm_KL (S 15) (S 16) (S' 15) (S' 16) (S 1031 0) ∧ sm_HD (S' 23) (S' 24) (S' 1100018 0) (S' 1007 0) ∧ sm_HD (S' 25) (fun _ : Int => (S' 1042 0)) 1 (S' 1007 0) ∧ (S' 1031 0) = (S 1031 0) ∧ (S' 1043 0) = (S 1043 0) ∧ (S' 1044 0) = (S 1044 0) ∧ (S' 1045 0) = (S 1045 0) ∧ (S 1032 0) ≤ (S' 1032 0) ∧ (S' 1032 0) ≤ 1 + (S' 1020 0) ∧ (S' 1100018 0) = (S' 1032 0) ∧ (S 1024 0) ≤ (S' 1024 0) ∧ ((S' 1021 0) = 0 → (S' 1023 0) = (S 1023 0) ∧ (S' 1024 0) + 1 ≤ (S 1024 0) + 2 * ((S' 1020 0) - (S 1020 0))) ∧ (0 < (S' 1021 0) → (S' 1024 0) ≤ (S 1024 0) + 2 * ((S' 1020 0) - (S 1020 0)) + 2 * ((if 0 < (S 1021 0) then 12 else 30 * (20 - (S 1023 0)) + 25))) ∧ -1 ≤ r ∧ r < 12000 ∧ ((S' 1021 0) = 0 → (S 1020 0) < (S' 1020 0) ∧ 1 ≤ (S 6 (S 1020 0)) ∧ sm_ex (S' 1100001) (S' 1100002) (S' 1100005) (S' 1024 0) 1 r (17 * (20 - (S 1023 0)) + 17) (20 - (S 1023 0)) ∧ ((S' 11 r) = 2 ∨ (S' 11 r) = 7 → (S' 1100002 r) ≤ 17 * (20 - (S 1023 0)) + 2)) ∧ (0 < (S 1021 0) → (S' 1020 0) = (S 1020 0) ∧ (S' 1024 0) = (S 1024 0)))
def T_assigned (d : Int) : Prop := ∀ (p1 : Int) (S : sv_S), sm_ok S → (0 ≤ p1 ∧ p1 ≤ 1) → (0 ≤ (S 1020 0) ∧ (S 1020 0) < (S 1012 0) ∧ sm_TK (S 6) (S 8) (S 9) (S 10) (S 1012 0) ∧ 0 ≤ (S 1021 0) ∧ 0 ≤ (S 1004 0) ∧ (S 1004 0) ≤ 4000 ∧ 1 ≤ (S 1007 0) ∧ (S 1007 0) ≤ 90 ∧ sm_LN (S 4) 400 (S 1007 0) ∧ ((S 1021 0) = 0 → sm_WF (S 11) (S 12) (S 13) (S 1100001) (S 1100002) (S 1100005) (S 1100003) (S 1100004) (S 1024 0) (S 1007 0) (S 1009 0) (sm_fn (S 1032 0) (S 21) (S 1043 0)) ∧ sm_FT (S 11) (S 12) (S 13) (S 1100019) (S 17) (S 18) (S 21) (S 19) (S 20) (S 22) (S 1100016) (S 1024 0) (S 1007 0) (S 1009 0) (S 1032 0) (S 1032 0) ∧ sm_WG (S 1100001) (S 1100019) (S 1043 0) ∧ (S 1100016 (S 1043 0)) = 0) ∧ sm_HD (S 23) (S 24) (S 1100018 0) (S 1007 0) ∧ sm_HD (S 25) (fun _ : Int => (S 1042 0)) 1 (S 1007 0) ∧ 0 ≤ (S 1043 0) ∧ (S 1043 0) < (S 1100018 0) ∧ (S 1100018 0) = (S 1032 0) ∧ (S 1032 0) ≤ 1 + (S 1020 0) ∧ 0 ≤ (S 1031 0) ∧ (S 1031 0) ≤ 100 ∧ 0 ≤ (S 1044 0) ∧ (S 1044 0) ≤ 30 ∧ 0 ≤ (S 1045 0) ∧ (S 1045 0) ≤ 30 ∧ 0 ≤ (S 1024 0) ∧ ((S 1021 0) = 0 → 0 ≤ (S 1023 0) ∧ (S 1023 0) ≤ 20 ∧ (S 1031 0) ≤ 3 * (S 1023 0) + 5 ∧ (S 1024 0) ≤ 2 * (S 1020 0) ∧ (S 1044 0) ≤ (S 1023 0) ∧ (S 1045 0) ≤ (S 1023 0))) → ((if 0 < (S 1021 0) then 12 else 30 * (20 - (S 1023 0)) + 25)) = d → sv_T sm_XS sm_cs sm_L sm_sh ((if 0 < (S 1021 0) then 12 else 30 * (20 - (S 1023 0)) + 25)).toNat (q_assigned p1 S) 47 0 (lv_args 0 [.ref 0, sv_I p1]) [] S
def q_conditional (p1 : Int) (S : sv_S) : Option Value → sv_S → Prop := fun v S' => ∃ r : Int, v = some (sv_I r) ∧ sv_R r ∧ sm_ok S' ∧ sv_mod [1020, 1021, 1022, 1023, 5, 1011, 3, 4, 1007, 1009, 11, 12, 13, 14, 1024, 15, 16, 1031, 1032, 17, 18, 19, 20, 21, 22, 23, 24, 25, 1042, 1043, 1044, 1045, 1100001, 1100002, 1100005, 1100003, 1100004, 1100018, 1100019, 1100016] S S' ∧ ((S 1020 0) ≤ (S' 1020 0) ∧ (S' 1020 0) < (S' 1012 0) ∧ 0 ≤ (S' 1021 0) ∧ (0 < (S 1021 0) → 0 < (S' 1021 0)) ∧ (S 1007 0) ≤ (S' 1007 0) ∧ (S' 1007 0) ≤ 90 ∧ sm_LN (S' 4) 400 (S' 1007 0) ∧ ((S 1009 0) = 1 → (S' 1009 0) = 1) ∧ ((S' 1021 0) = 0 → sm_WF (S' 11) (S' 12) (S' 13) (S' 1100001) (S' 1100002) (S' 1100005) (S' 1100003) (S' 1100004) (S' 1024 0) (S' 1007 0) (S' 1009 0) (sm_fn (S' 1032 0) (S' 21) (S' 1043 0)) ∧ sm_PX (S 11) (S 12) (S 13) (S 1100001) (S 1100002) (S 1100005) (S 1100003) (S 1100004) (S' 11) (S' 12) (S' 13) (S' 1100001) (S' 1100002) (S' 1100005) (S' 1100003) (S' 1100004) (S 1024 0) ∧ sm_FT (S' 11) (S' 12) (S' 13) (S' 1100019) (S' 17) (S' 18) (S' 21) (S' 19) (S' 20) (S' 22) (S' 1100016) (S' 1024 0) (S' 1007 0) (S' 1009 0) (S' 1032 0) (S' 1032 0) ∧ sm_WG (S' 1100001) (S' 1100019) (S' 1043 0) ∧ sm_F1 (S 1100019) (S' 1100019) (S 1024 0) ∧ sm_F1 (S 17) (S' 17) (S 1032 0) ∧ sm_F1 (S 18) (S' 18) (S 1032 0) ∧ sm_F1 (S 21) (S' 21) (S 1032 0) ∧ sm_F1 (S 20) (S' 20) (S 1032 0) ∧ sm_F1 (S 22) (S' 22) (S 1032 0) ∧ sm_F1 (S 1100016) (S' 1100016) (S 1032 0) ∧ sm_F1 (S 19) (S' 19) (8 * (S 1032 0)) ∧ sm_FN (S' 1100016) (S 1032 0) (S' 1032 0)) ∧ sm_KL (S 15) (S 16) (S' 15) (S' 16) (S 1031 0) ∧ sm_HD (S' 23) (S' 24) (S' 1100018 0) (S' 1007 0) ∧ sm_HD (S' 25) (fun _ : Int => (S' 1042 0)) 1 (S' 1007 0) ∧ (S' 1031 0) = (S 1031 0) ∧ (S' 1043 0) = (S 1043 0) ∧ (S' 1044 0) = (S 1044 0) ∧ (S' 1045 0) = (S 1045 0) ∧ (S 1032 0) ≤ (S' 1032 0) ∧ (S' 1032 0) ≤ 1 + (S' 1020 0) ∧ (S' 1100018 0) = (S' 1032 0) ∧ (S 1024 0) ≤ (S' 1024 0) ∧ ((S' 1021 0) = 0 → (S' 1023 0) = (S 1023 0) ∧ (S' 1024 0) + 1 ≤ (S 1024 0) + 2 * ((S' 1020 0) - (S 1020 0))) ∧ (0 < (S' 1021 0) → (S' 1024 0) ≤ (S 1024 0) + 2 * ((S' 1020 0) - (S 1020 0)) + 2 * ((if 0 < (S 1021 0) then 11 else 30 * (20 - (S 1023 0)) + 24))) ∧ -1 ≤ r ∧ r < 12000 ∧ ((S' 1021 0) = 0 → (S 1020 0) < (S' 1020 0) ∧ 1 ≤ (S 6 (S 1020 0)) ∧ sm_ex (S' 1100001) (S' 1100002) (S' 1100005) (S' 1024 0) 1 r (17 * (20 - (S 1023 0)) + 17) (20 - (S 1023 0)) ∧ ((S' 11 r) = 2 ∨ (S' 11 r) = 7 → (S' 1100002 r) ≤ 17 * (20 - (S 1023 0)) + 2)) ∧ (0 < (S 1021 0) → (S' 1020 0) = (S 1020 0) ∧ (S' 1024 0) = (S 1024 0)))
def T_conditional (d : Int) : Prop := ∀ (p1 : Int) (S : sv_S), sm_ok S → (0 ≤ p1 ∧ p1 ≤ 1) → (0 ≤ (S 1020 0) ∧ (S 1020 0) < (S 1012 0) ∧ sm_TK (S 6) (S 8) (S 9) (S 10) (S 1012 0) ∧ 0 ≤ (S 1021 0) ∧ 0 ≤ (S 1004 0) ∧ (S 1004 0) ≤ 4000 ∧ 1 ≤ (S 1007 0) ∧ (S 1007 0) ≤ 90 ∧ sm_LN (S 4) 400 (S 1007 0) ∧ ((S 1021 0) = 0 → sm_WF (S 11) (S 12) (S 13) (S 1100001) (S 1100002) (S 1100005) (S 1100003) (S 1100004) (S 1024 0) (S 1007 0) (S 1009 0) (sm_fn (S 1032 0) (S 21) (S 1043 0)) ∧ sm_FT (S 11) (S 12) (S 13) (S 1100019) (S 17) (S 18) (S 21) (S 19) (S 20) (S 22) (S 1100016) (S 1024 0) (S 1007 0) (S 1009 0) (S 1032 0) (S 1032 0) ∧ sm_WG (S 1100001) (S 1100019) (S 1043 0) ∧ (S 1100016 (S 1043 0)) = 0) ∧ sm_HD (S 23) (S 24) (S 1100018 0) (S 1007 0) ∧ sm_HD (S 25) (fun _ : Int => (S 1042 0)) 1 (S 1007 0) ∧ 0 ≤ (S 1043 0) ∧ (S 1043 0) < (S 1100018 0) ∧ (S 1100018 0) = (S 1032 0) ∧ (S 1032 0) ≤ 1 + (S 1020 0) ∧ 0 ≤ (S 1031 0) ∧ (S 1031 0) ≤ 100 ∧ 0 ≤ (S 1044 0) ∧ (S 1044 0) ≤ 30 ∧ 0 ≤ (S 1045 0) ∧ (S 1045 0) ≤ 30 ∧ 0 ≤ (S 1024 0) ∧ ((S 1021 0) = 0 → 0 ≤ (S 1023 0) ∧ (S 1023 0) ≤ 20 ∧ (S 1031 0) ≤ 3 * (S 1023 0) + 5 ∧ (S 1024 0) ≤ 2 * (S 1020 0) ∧ (S 1044 0) ≤ (S 1023 0) ∧ (S 1045 0) ≤ (S 1023 0))) → ((if 0 < (S 1021 0) then 11 else 30 * (20 - (S 1023 0)) + 24)) = d → sv_T sm_XS sm_cs sm_L sm_sh ((if 0 < (S 1021 0) then 11 else 30 * (20 - (S 1023 0)) + 24)).toNat (q_conditional p1 S) 48 0 (lv_args 0 [.ref 0, sv_I p1]) [] S
def q_binary (p1 : Int) (p2 : Int) (S : sv_S) : Option Value → sv_S → Prop := fun v S' => ∃ r : Int, v = some (sv_I r) ∧ sv_R r ∧ sm_ok S' ∧ sv_mod [1020, 1021, 1022, 1023, 5, 1011, 3, 4, 1007, 1009, 11, 12, 13, 14, 1024, 15, 16, 1031, 1032, 17, 18, 19, 20, 21, 22, 23, 24, 25, 1042, 1043, 1044, 1045, 1100001, 1100002, 1100005, 1100003, 1100004, 1100018, 1100019, 1100016] S S' ∧ ((S 1020 0) ≤ (S' 1020 0) ∧ (S' 1020 0) < (S' 1012 0) ∧ 0 ≤ (S' 1021 0) ∧ (0 < (S 1021 0) → 0 < (S' 1021 0)) ∧ (S 1007 0) ≤ (S' 1007 0) ∧ (S' 1007 0) ≤ 90 ∧ sm_LN (S' 4) 400 (S' 1007 0) ∧ ((S 1009 0) = 1 → (S' 1009 0) = 1) ∧ ((S' 1021 0) = 0 → sm_WF (S' 11) (S' 12) (S' 13) (S' 1100001) (S' 1100002) (S' 1100005) (S' 1100003) (S' 1100004) (S' 1024 0) (S' 1007 0) (S' 1009 0) (sm_fn (S' 1032 0) (S' 21) (S' 1043 0)) ∧ sm_PX (S 11) (S 12) (S 13) (S 1100001) (S 1100002) (S 1100005) (S 1100003) (S 1100004) (S' 11) (S' 12) (S' 13) (S' 1100001) (S' 1100002) (S' 1100005) (S' 1100003) (S' 1100004) (S 1024 0) ∧ sm_FT (S' 11) (S' 12) (S' 13) (S' 1100019) (S' 17) (S' 18) (S' 21) (S' 19) (S' 20) (S' 22) (S' 1100016) (S' 1024 0) (S' 1007 0) (S' 1009 0) (S' 1032 0) (S' 1032 0) ∧ sm_WG (S' 1100001) (S' 1100019) (S' 1043 0) ∧ sm_F1 (S 1100019) (S' 1100019) (S 1024 0) ∧ sm_F1 (S 17) (S' 17) (S 1032 0) ∧ sm_F1 (S 18) (S' 18) (S 1032 0) ∧ sm_F1 (S 21) (S' 21) (S 1032 0) ∧ sm_F1 (S 20) (S' 20) (S 1032 0) ∧ sm_F1 (S 22) (S' 22) (S 1032 0) ∧ sm_F1 (S 1100016) (S' 1100016) (S 1032 0) ∧ sm_F1 (S 19) (S' 19) (8 * (S 1032 0)) ∧ sm_FN (S' 1100016) (S 1032 0) (S' 1032 0)) ∧ sm_KL (S 15) (S 16) (S' 15) (S' 16) (S 1031 0) ∧ sm_HD (S' 23) (S' 24) (S' 1100018 0) (S' 1007 0) ∧ sm_HD (S' 25) (fun _ : Int => (S' 1042 0)) 1 (S' 1007 0) ∧ (S' 1031 0) = (S 1031 0) ∧ (S' 1043 0) = (S 1043 0) ∧ (S' 1044 0) = (S 1044 0) ∧ (S' 1045 0) = (S 1045 0) ∧ (S 1032 0) ≤ (S' 1032 0) ∧ (S' 1032 0) ≤ 1 + (S' 1020 0) ∧ (S' 1100018 0) = (S' 1032 0) ∧ (S 1024 0) ≤ (S' 1024 0) ∧ ((S' 1021 0) = 0 → (S' 1023 0) = (S 1023 0) ∧ (S' 1024 0) + 1 ≤ (S 1024 0) + 2 * ((S' 1020 0) - (S 1020 0))) ∧ (0 < (S' 1021 0) → (S' 1024 0) ≤ (S 1024 0) + 2 * ((S' 1020 0) - (S 1020 0)) + 2 * ((if 0 < (S 1021 0) then 10 else 30 * (20 - (S 1023 0)) + (23 - p1)))) ∧ -1 ≤ r ∧ r < 12000 ∧ ((S' 1021 0) = 0 → (S 1020 0) < (S' 1020 0) ∧ 1 ≤ (S 6 (S 1020 0)) ∧ sm_ex (S' 1100001) (S' 1100002) (S' 1100005) (S' 1024 0) 1 r (17 * (20 - (S 1023 0)) + (15 - p1)) (20 - (S 1023 0)) ∧ ((S' 11 r) = 2 ∨ (S' 11 r) = 7 → (S' 1100002 r) ≤ 17 * (20 - (S 1023 0)) + 2)) ∧ (0 < (S 1021 0) → (S' 1020 0) = (S 1020 0) ∧ (S' 1024 0) = (S 1024 0)))
def T_binary (d : Int) : Prop := ∀ (p1 : Int) (p2 : Int) (S : sv_S), sm_ok S → sv_R p1 → (0 ≤ p2 ∧ p2 ≤ 1) → (0 ≤ (S 1020 0) ∧ (S 1020 0) < (S 1012 0) ∧ sm_TK (S 6) (S 8) (S 9) (S 10) (S 1012 0) ∧ 0 ≤ (S 1021 0) ∧ 0 ≤ (S 1004 0) ∧ (S 1004 0) ≤ 4000 ∧ 1 ≤ (S 1007 0) ∧ (S 1007 0) ≤ 90 ∧ sm_LN (S 4) 400 (S 1007 0) ∧ ((S 1021 0) = 0 → sm_WF (S 11) (S 12) (S 13) (S 1100001) (S 1100002) (S 1100005) (S 1100003) (S 1100004) (S 1024 0) (S 1007 0) (S 1009 0) (sm_fn (S 1032 0) (S 21) (S 1043 0)) ∧ sm_FT (S 11) (S 12) (S 13) (S 1100019) (S 17) (S 18) (S 21) (S 19) (S 20) (S 22) (S 1100016) (S 1024 0) (S 1007 0) (S 1009 0) (S 1032 0) (S 1032 0) ∧ sm_WG (S 1100001) (S 1100019) (S 1043 0) ∧ (S 1100016 (S 1043 0)) = 0) ∧ sm_HD (S 23) (S 24) (S 1100018 0) (S 1007 0) ∧ sm_HD (S 25) (fun _ : Int => (S 1042 0)) 1 (S 1007 0) ∧ 0 ≤ (S 1043 0) ∧ (S 1043 0) < (S 1100018 0) ∧ (S 1100018 0) = (S 1032 0) ∧ (S 1032 0) ≤ 1 + (S 1020 0) ∧ 0 ≤ (S 1031 0) ∧ (S 1031 0) ≤ 100 ∧ 0 ≤ (S 1044 0) ∧ (S 1044 0) ≤ 30 ∧ 0 ≤ (S 1045 0) ∧ (S 1045 0) ≤ 30 ∧ 0 ≤ (S 1024 0) ∧ ((S 1021 0) = 0 → 0 ≤ (S 1023 0) ∧ (S 1023 0) ≤ 20 ∧ (S 1031 0) ≤ 3 * (S 1023 0) + 5 ∧ (S 1024 0) ≤ 2 * (S 1020 0) ∧ (S 1044 0) ≤ (S 1023 0) ∧ (S 1045 0) ≤ (S 1023 0)) ∧ 0 ≤ p1 ∧ p1 ≤ 10) → ((if 0 < (S 1021 0) then 10 else 30 * (20 - (S 1023 0)) + (23 - p1))) = d → sv_T sm_XS sm_cs sm_L sm_sh ((if 0 < (S 1021 0) then 10 else 30 * (20 - (S 1023 0)) + (23 - p1))).toNat (q_binary p1 p2 S) 51 0 (lv_args 0 [.ref 0, sv_I p1, sv_I p2]) [] S
def q_unit (S : sv_S) : Option Value → sv_S → Prop := fun v S' => ∃ r : Int, v = some (sv_I r) ∧ sv_R r ∧ sm_ok S' ∧ sv_mod [1020, 1021, 1022, 1023, 5, 1011, 3, 4, 1007, 1009, 11, 12, 13, 14, 1024, 15, 16, 1031, 1032, 17, 18, 19, 20, 21, 22, 23, 24, 25, 1042, 1043, 1044, 1045, 1100001, 1100002, 1100005, 1100003, 1100004, 1100018, 1100019, 1100016] S S' ∧ ((S 1020 0) ≤ (S' 1020 0) ∧ (S' 1020 0) < (S' 1012 0) ∧ 0 ≤ (S' 1021 0) ∧ (0 < (S 1021 0) → 0 < (S' 1021 0)) ∧ (S 1007 0) ≤ (S' 1007 0) ∧ (S' 1007 0) ≤ 90 ∧ sm_LN (S' 4) 400 (S' 1007 0) ∧ ((S 1009 0) = 1 → (S' 1009 0) = 1) ∧ ((S' 1021 0) = 0 → sm_WF (S' 11) (S' 12) (S' 13) (S' 1100001) (S' 1100002) (S' 1100005) (S' 1100003) (S' 1100004) (S' 1024 0) (S' 1007 0) (S' 1009 0) (sm_fn (S' 1032 0) (S' 21) (S' 1043 0)) ∧ sm_PX (S 11) (S 12) (S 13) (S 1100001) (S 1100002) (S 1100005) (S 1100003) (S 1100004) (S' 11) (S' 12) (S' 13) (S' 1100001) (S' 1100002) (S' 1100005) (S' 1100003) (S' 1100004) (S 1024 0) ∧ sm_FT (S' 11) (S' 12) (S' 13) (S' 1100019) (S' 17) (S' 18) (S' 21) (S' 19) (S' 20) (S' 22) (S' 1100016) (S' 1024 0) (S' 1007 0) (S' 1009 0) (S' 1032 0) (S' 1032 0) ∧ sm_WG (S' 1100001) (S' 1100019) (S' 1043 0) ∧ sm_F1 (S 1100019) (S' 1100019) (S 1024 0) ∧ sm_F1 (S 17) (S' 17) (S 1032 0) ∧ sm_F1 (S 18) (S' 18) (S 1032 0) ∧ sm_F1 (S 21) (S' 21) (S 1032 0) ∧ sm_F1 (S 20) (S' 20) (S 1032 0) ∧ sm_F1 (S 22) (S' 22) (S 1032 0) ∧ sm_F1 (S 1100016) (S' 1100016) (S 1032 0) ∧ sm_F1 (S 19) (S' 19) (8 * (S 1032 0)) ∧ sm_FN (S' 1100016) (S 1032 0) (S' 1032 0)) ∧ sm_KL (S 15) (S 16) (S' 15) (S' 16) (S 1031 0) ∧ sm_HD (S' 23) (S' 24) (S' 1100018 0) (S' 1007 0) ∧ sm_HD (S' 25) (fun _ : Int => (S' 1042 0)) 1 (S' 1007 0) ∧ (S' 1031 0) = (S 1031 0) ∧ (S' 1043 0) = (S 1043 0) ∧ (S' 1044 0) = (S 1044 0) ∧ (S' 1045 0) = (S 1045 0) ∧ (S 1032 0) ≤ (S' 1032 0) ∧ (S' 1032 0) ≤ 1 + (S' 1020 0) ∧ (S' 1100018 0) = (S' 1032 0) ∧ (S 1024 0) ≤ (S' 1024 0) ∧ ((S' 1021 0) = 0 → (S' 1023 0) = (S 1023 0) ∧ (S' 1024 0) + 1 ≤ (S 1024 0) + 2 * ((S' 1020 0) - (S 1020 0))) ∧ (0 < (S' 1021 0) → (S' 1024 0) ≤ (S 1024 0) + 2 * ((S' 1020 0) - (S 1020 0)) + 2 * ((if 0 < (S 1021 0) then 9 else 30 * (20 - (S 1023 0)) + 12))) ∧ -1 ≤ r ∧ r < 12000 ∧ ((S' 1021 0) = 0 → (S 1020 0) < (S' 1020 0) ∧ 1 ≤ (S 6 (S 1020 0)) ∧ sm_ex (S' 1100001) (S' 1100002) (S' 1100005) (S' 1024 0) 1 r (17 * (20 - (S 1023 0)) + 5) (20 - (S 1023 0)) ∧ ((S' 11 r) = 2 ∨ (S' 11 r) = 7 → (S' 1100002 r) ≤ 17 * (20 - (S 1023 0)) + 2)) ∧ (0 < (S 1021 0) → (S' 1020 0) = (S 1020 0) ∧ (S' 1024 0) = (S 1024 0)))
def T_unit (d : Int) : Prop := ∀ (S : sv_S), sm_ok S → (0 ≤ (S 1020 0) ∧ (S 1020 0) < (S 1012 0) ∧ sm_TK (S 6) (S 8) (S 9) (S 10) (S 1012 0) ∧ 0 ≤ (S 1021 0) ∧ 0 ≤ (S 1004 0) ∧ (S 1004 0) ≤ 4000 ∧ 1 ≤ (S 1007 0) ∧ (S 1007 0) ≤ 90 ∧ sm_LN (S 4) 400 (S 1007 0) ∧ ((S 1021 0) = 0 → sm_WF (S 11) (S 12) (S 13) (S 1100001) (S 1100002) (S 1100005) (S 1100003) (S 1100004) (S 1024 0) (S 1007 0) (S 1009 0) (sm_fn (S 1032 0) (S 21) (S 1043 0)) ∧ sm_FT (S 11) (S 12) (S 13) (S 1100019) (S 17) (S 18) (S 21) (S 19) (S 20) (S 22) (S 1100016) (S 1024 0) (S 1007 0) (S 1009 0) (S 1032 0) (S 1032 0) ∧ sm_WG (S 1100001) (S 1100019) (S 1043 0) ∧ (S 1100016 (S 1043 0)) = 0) ∧ sm_HD (S 23) (S 24) (S 1100018 0) (S 1007 0) ∧ sm_HD (S 25) (fun _ : Int => (S 1042 0)) 1 (S 1007 0) ∧ 0 ≤ (S 1043 0) ∧ (S 1043 0) < (S 1100018 0) ∧ (S 1100018 0) = (S 1032 0) ∧ (S 1032 0) ≤ 1 + (S 1020 0) ∧ 0 ≤ (S 1031 0) ∧ (S 1031 0) ≤ 100 ∧ 0 ≤ (S 1044 0) ∧ (S 1044 0) ≤ 30 ∧ 0 ≤ (S 1045 0) ∧ (S 1045 0) ≤ 30 ∧ 0 ≤ (S 1024 0) ∧ ((S 1021 0) = 0 → 0 ≤ (S 1023 0) ∧ (S 1023 0) ≤ 20 ∧ (S 1031 0) ≤ 3 * (S 1023 0) + 5 ∧ (S 1024 0) ≤ 2 * (S 1020 0) ∧ (S 1044 0) ≤ (S 1023 0) ∧ (S 1045 0) ≤ (S 1023 0))) → ((if 0 < (S 1021 0) then 9 else 30 * (20 - (S 1023 0)) + 12)) = d → sv_T sm_XS sm_cs sm_L sm_sh ((if 0 < (S 1021 0) then 9 else 30 * (20 - (S 1023 0)) + 12)).toNat (q_unit S) 52 0 (lv_args 0 [.ref 0]) [] S
def q_postfix (S : sv_S) : Option Value → sv_S → Prop := fun v S' => ∃ r : Int, v = some (sv_I r) ∧ sv_R r ∧ sm_ok S' ∧ sv_mod [1020, 1021, 1022, 1023, 5, 1011, 3, 4, 1007, 1009, 11, 12, 13, 14, 1024, 15, 16, 1031, 1032, 17, 18, 19, 20, 21, 22, 23, 24, 25, 1042, 1043, 1044, 1045, 1100001, 1100002, 1100005, 1100003, 1100004, 1100018, 1100019, 1100016] S S' ∧ ((S 1020 0) ≤ (S' 1020 0) ∧ (S' 1020 0) < (S' 1012 0) ∧ 0 ≤ (S' 1021 0) ∧ (0 < (S 1021 0) → 0 < (S' 1021 0)) ∧ (S 1007 0) ≤ (S' 1007 0) ∧ (S' 1007 0) ≤ 90 ∧ sm_LN (S' 4) 400 (S' 1007 0) ∧ ((S 1009 0) = 1 → (S' 1009 0) = 1) ∧ ((S' 1021 0) = 0 → sm_WF (S' 11) (S' 12) (S' 13) (S' 1100001) (S' 1100002) (S' 1100005) (S' 1100003) (S' 1100004) (S' 1024 0) (S' 1007 0) (S' 1009 0) (sm_fn (S' 1032 0) (S' 21) (S' 1043 0)) ∧ sm_PX (S 11) (S 12) (S 13) (S 1100001) (S 1100002) (S 1100005) (S 1100003) (S 1100004) (S' 11) (S' 12) (S' 13) (S' 1100001) (S' 1100002) (S' 1100005) (S' 1100003) (S' 1100004) (S 1024 0) ∧ sm_FT (S' 11) (S' 12) (S' 13) (S' 1100019) (S' 17) (S' 18) (S' 21) (S' 19) (S' 20) (S' 22) (S' 1100016) (S' 1024 0) (S' 1007 0) (S' 1009 0) (S' 1032 0) (S' 1032 0) ∧ sm_WG (S' 1100001) (S' 1100019) (S' 1043 0) ∧ sm_F1 (S 1100019) (S' 1100019) (S 1024 0) ∧ sm_F1 (S 17) (S' 17) (S 1032 0) ∧ sm_F1 (S 18) (S' 18) (S 1032 0) ∧ sm_F1 (S 21) (S' 21) (S 1032 0) ∧ sm_F1 (S 20) (S' 20) (S 1032 0) ∧ sm_F1 (S 22) (S' 22) (S 1032 0) ∧ sm_F1 (S 1100016) (S' 1100016) (S 1032 0) ∧ sm_F1 (S 19) (S' 19) (8 * (S 1032 0)) ∧ sm_FN (S' 1100016) (S 1032 0) (S' 1032 0)) ∧ sm_KL (S 15) (S 16) (S' 15) (S' 16) (S 1031 0) ∧ sm_HD (S' 23) (S' 24) (S' 1100018 0) (S' 1007 0) ∧ sm_HD (S' 25) (fun _ : Int => (S' 1042 0)) 1 (S' 1007 0) ∧ (S' 1031 0) = (S 1031 0) ∧ (S' 1043 0) = (S 1043 0) ∧ (S' 1044 0) = (S 1044 0) ∧ (S' 1045 0) = (S 1045 0) ∧ (S 1032 0) ≤ (S' 1032 0) ∧ (S' 1032 0) ≤ 1 + (S' 1020 0) ∧ (S' 1100018 0) = (S' 1032 0) ∧ (S 1024 0) ≤ (S' 1024 0) ∧ ((S' 1021 0) = 0 → (S' 1023 0) = (S 1023 0) ∧ (S' 1024 0) + 1 ≤ (S 1024 0) + 2 * ((S' 1020 0) - (S 1020 0))) ∧ (0 < (S' 1021 0) → (S' 1024 0) ≤ (S 1024 0) + 2 * ((S' 1020 0) - (S 1020 0)) + 2 * (30 * (20 - (S 1023 0)) + 11)) ∧ -1 ≤ r ∧ r < 12000 ∧ ((S' 1021 0) = 0 → (S 1020 0) < (S' 1020 0) ∧ 1 ≤ (S 6 (S 1020 0)) ∧ sm_ex (S' 1100001) (S' 1100002) (S' 1100005) (S' 1024 0) 1 r (17 * (20 - (S 1023 0)) + 5) (20 - (S 1023 0)) ∧ ((S' 11 r) = 2 ∨ (S' 11 r) = 7 → (S' 1100002 r) ≤ 17 * (20 - (S 1023 0)) + 2)))
def T_postfix (d : Int) : Prop := ∀ (S : sv_S), sm_ok S → (0 ≤ (S 1020 0) ∧ (S 1020 0) < (S 1012 0) ∧ sm_TK (S 6) (S 8) (S 9) (S 10) (S 1012 0) ∧ 0 ≤ (S 1021 0) ∧ 0 ≤ (S 1004 0) ∧ (S 1004 0) ≤ 4000 ∧ 1 ≤ (S 1007 0) ∧ (S 1007 0) ≤ 90 ∧ sm_LN (S 4) 400 (S 1007 0) ∧ ((S 1021 0) = 0 → sm_WF (S 11) (S 12) (S 13) (S 1100001) (S 1100002) (S 1100005) (S 1100003) (S 1100004) (S 1024 0) (S 1007 0) (S 1009 0) (sm_fn (S 1032 0) (S 21) (S 1043 0)) ∧ sm_FT (S 11) (S 12) (S 13) (S 1100019) (S 17) (S 18) (S 21) (S 19) (S 20) (S 22) (S 1100016) (S 1024 0) (S 1007 0) (S 1009 0) (S 1032 0) (S 1032 0) ∧ sm_WG (S 1100001) (S 1100019) (S 1043 0) ∧ (S 1100016 (S 1043 0)) = 0) ∧ sm_HD (S 23) (S 24) (S 1100018 0) (S 1007 0) ∧ sm_HD (S 25) (fun _ : Int => (S 1042 0)) 1 (S 1007 0) ∧ 0 ≤ (S 1043 0) ∧ (S 1043 0) < (S 1100018 0) ∧ (S 1100018 0) = (S 1032 0) ∧ (S 1032 0) ≤ 1 + (S 1020 0) ∧ 0 ≤ (S 1031 0) ∧ (S 1031 0) ≤ 100 ∧ 0 ≤ (S 1044 0) ∧ (S 1044 0) ≤ 30 ∧ 0 ≤ (S 1045 0) ∧ (S 1045 0) ≤ 30 ∧ 0 ≤ (S 1024 0) ∧ ((S 1021 0) = 0 → 0 ≤ (S 1023 0) ∧ (S 1023 0) ≤ 20 ∧ (S 1031 0) ≤ 3 * (S 1023 0) + 5 ∧ (S 1024 0) ≤ 2 * (S 1020 0) ∧ (S 1044 0) ≤ (S 1023 0) ∧ (S 1045 0) ≤ (S 1023 0)) ∧ (S 1021 0) = 0) → (30 * (20 - (S 1023 0)) + 11) = d → sv_T sm_XS sm_cs sm_L sm_sh (30 * (20 - (S 1023 0)) + 11).toNat (q_postfix S) 53 0 (lv_args 0 [.ref 0]) [] S
def q_left (S : sv_S) : Option Value → sv_S → Prop := fun v S' => ∃ r : Int, v = some (sv_I r) ∧ sv_R r ∧ sm_ok S' ∧ sv_mod [1020, 1021, 1022, 1023, 5, 1011, 3, 4, 1007, 1009, 11, 12, 13, 14, 1024, 15, 16, 1031, 1032, 17, 18, 19, 20, 21, 22, 23, 24, 25, 1042, 1043, 1044, 1045, 1100001, 1100002, 1100005, 1100003, 1100004, 1100018, 1100019, 1100016] S S' ∧ ((S 1020 0) ≤ (S' 1020 0) ∧ (S' 1020 0) < (S' 1012 0) ∧ 0 ≤ (S' 1021 0) ∧ (0 < (S 1021 0) → 0 < (S' 1021 0)) ∧ (S 1007 0) ≤ (S' 1007 0) ∧ (S' 1007 0) ≤ 90 ∧ sm_LN (S' 4) 400 (S' 1007 0) ∧ ((S 1009 0) = 1 → (S' 1009 0) = 1) ∧ ((S' 1021 0) = 0 → sm_WF (S' 11) (S' 12) (S' 13) (S' 1100001) (S' 1100002) (S' 1100005) (S' 1100003) (S' 1100004) (S' 1024 0) (S' 1007 0) (S' 1009 0) (sm_fn (S' 1032 0) (S' 21) (S' 1043 0)) ∧ sm_PX (S 11) (S 12) (S 13) (S 1100001) (S 1100002) (S 1100005) (S 1100003) (S 1100004) (S' 11) (S' 12) (S' 13) (S' 1100001) (S' 1100002) (S' 1100005) (S' 1100003) (S' 1100004) (S 1024 0) ∧ sm_FT (S' 11) (S' 12) (S' 13) (S' 1100019) (S' 17) (S' 18) (S' 21) (S' 19) (S' 20) (S' 22) (S' 1100016) (S' 1024 0) (S' 1007 0) (S' 1009 0) (S' 1032 0) (S' 1032 0) ∧ sm_WG (S' 1100001) (S' 1100019) (S' 1043 0) ∧ sm_F1 (S 1100019) (S' 1100019) (S 1024 0) ∧ sm_F1 (S 17) (S' 17) (S 1032 0) ∧ sm_F1 (S 18) (S' 18) (S 1032 0) ∧ sm_F1 (S 21) (S' 21) (S 1032 0) ∧ sm_F1 (S 20) (S' 20) (S 1032 0) ∧ sm_F1 (S 22) (S' 22) (S 1032 0) ∧ sm_F1 (S 1100016) (S' 1100016) (S 1032 0) ∧ sm_F1 (S 19) (S' 19) (8 * (S 1032 0)) ∧ sm_FN (S' 1100016) (S 1032 0) (S' 1032 0)) ∧ sm_KL (S 15) (S 16) (S' 15) (S' 16) (S 1031 0) ∧ sm_HD (S' 23) (S' 24) (S' 1100018 0) (S' 1007 0) ∧ sm_HD (S' 25) (fun _ : Int => (S' 1042 0)) 1 (S' 1007 0) ∧ (S' 1031 0) = (S 1031 0) ∧ (S' 1043 0) = (S 1043 0) ∧ (S' 1044 0) = (S 1044 0) ∧ (S' 1045 0) = (S 1045 0) ∧ (S 1032 0) ≤ (S' 1032 0) ∧ (S' 1032 0) ≤ 1 + (S' 1020 0) ∧ (S' 1100018 0) = (S' 1032 0) ∧ (S 1024 0) ≤ (S' 1024 0) ∧ ((S' 1021 0) = 0 → (S' 1023 0) = (S 1023 0) ∧ (S' 1024 0) + 1 ≤ (S 1024 0) + 2 * ((S' 1020 0) - (S 1020 0))) ∧ (0 < (S' 1021 0) → (S' 1024 0) ≤ (S 1024 0) + 2 * ((S' 1020 0) - (S 1020 0)) + 2 * (30 * (20 - (S 1023 0)) + 10)) ∧ -1 ≤ r ∧ r < 12000 ∧ ((S' 1021 0) = 0 → (S 1020 0) < (S' 1020 0) ∧ 1 ≤ (S 6 (S 1020 0)) ∧ sm_ex (S' 1100001) (S' 1100002) (S' 1100005) (S' 1024 0) 1 r (17 * (20 - (S 1023 0)) + 2) (20 - (S 1023 0)) ∧ ((S' 11 r) = 2 ∨ (S' 11 r) = 7 → (S' 1100002 r) ≤ 17 * (20 - (S 1023 0)) + 2)))
def T_left (d : Int) : Prop := ∀ (S : sv_S), sm_ok S → (0 ≤ (S 1020 0) ∧ (S 1020 0) < (S 1012 0) ∧ sm_TK (S 6) (S 8) (S 9) (S 10) (S 1012 0) ∧ 0 ≤ (S 1021 0) ∧ 0 ≤ (S 1004 0) ∧ (S 1004 0) ≤ 4000 ∧ 1 ≤ (S 1007 0) ∧ (S 1007 0) ≤ 90 ∧ sm_LN (S 4) 400 (S 1007 0) ∧ ((S 1021 0) = 0 → sm_WF (S 11) (S 12) (S 13) (S 1100001) (S 1100002) (S 1100005) (S 1100003) (S 1100004) (S 1024 0) (S 1007 0) (S 1009 0) (sm_fn (S 1032 0) (S 21) (S 1043 0)) ∧ sm_FT (S 11) (S 12) (S 13) (S 1100019) (S 17) (S 18) (S 21) (S 19) (S 20) (S 22) (S 1100016) (S 1024 0) (S 1007 0) (S 1009 0) (S 1032 0) (S 1032 0) ∧ sm_WG (S 1100001) (S 1100019) (S 1043 0) ∧ (S 1100016 (S 1043 0)) = 0) ∧ sm_HD (S 23) (S 24) (S 1100018 0) (S 1007 0) ∧ sm_HD (S 25) (fun _ : Int => (S 1042 0)) 1 (S 1007 0) ∧ 0 ≤ (S 1043 0) ∧ (S 1043 0) < (S 1100018 0) ∧ (S 1100018 0) = (S 1032 0) ∧ (S 1032 0) ≤ 1 + (S 1020 0) ∧ 0 ≤ (S 1031 0) ∧ (S 1031 0) ≤ 100 ∧ 0 ≤ (S 1044 0) ∧ (S 1044 0) ≤ 30 ∧ 0 ≤ (S 1045 0) ∧ (S 1045 0) ≤ 30 ∧ 0 ≤ (S 1024 0) ∧ ((S 1021 0) = 0 → 0 ≤ (S 1023 0) ∧ (S 1023 0) ≤ 20 ∧ (S 1031 0) ≤ 3 * (S 1023 0) + 5 ∧ (S 1024 0) ≤ 2 * (S 1020 0) ∧ (S 1044 0) ≤ (S 1023 0) ∧ (S 1045 0) ≤ (S 1023 0)) ∧ (S 1021 0) = 0) → (30 * (20 - (S 1023 0)) + 10) = d → sv_T sm_XS sm_cs sm_L sm_sh (30 * (20 - (S 1023 0)) + 10).toNat (q_left S) 54 0 (lv_args 0 [.ref 0]) [] S
def q_fresh (S : sv_S) : Option Value → sv_S → Prop := fun v S' => ∃ r : Int, v = some (sv_I r) ∧ sv_R r ∧ sm_ok S' ∧ sv_mod [1020, 1021, 1022, 1023, 5, 1011, 3, 4, 1007, 1009, 11, 12, 13, 14, 1024, 15, 16, 1031, 1032, 17, 18, 19, 20, 21, 22, 23, 24, 25, 1042, 1043, 1044, 1045, 1100001, 1100002, 1100005, 1100003, 1100004, 1100018, 1100019, 1100016] S S' ∧ ((S 1020 0) ≤ (S' 1020 0) ∧ (S' 1020 0) < (S' 1012 0) ∧ 0 ≤ (S' 1021 0) ∧ (0 < (S 1021 0) → 0 < (S' 1021 0)) ∧ (S 1007 0) ≤ (S' 1007 0) ∧ (S' 1007 0) ≤ 90 ∧ sm_LN (S' 4) 400 (S' 1007 0) ∧ ((S 1009 0) = 1 → (S' 1009 0) = 1) ∧ ((S' 1021 0) = 0 → sm_WF (S' 11) (S' 12) (S' 13) (S' 1100001) (S' 1100002) (S' 1100005) (S' 1100003) (S' 1100004) (S' 1024 0) (S' 1007 0) (S' 1009 0) (sm_fn (S' 1032 0) (S' 21) (S' 1043 0)) ∧ sm_PX (S 11) (S 12) (S 13) (S 1100001) (S 1100002) (S 1100005) (S 1100003) (S 1100004) (S' 11) (S' 12) (S' 13) (S' 1100001) (S' 1100002) (S' 1100005) (S' 1100003) (S' 1100004) (S 1024 0) ∧ sm_FT (S' 11) (S' 12) (S' 13) (S' 1100019) (S' 17) (S' 18) (S' 21) (S' 19) (S' 20) (S' 22) (S' 1100016) (S' 1024 0) (S' 1007 0) (S' 1009 0) (S' 1032 0) (S' 1032 0) ∧ sm_WG (S' 1100001) (S' 1100019) (S' 1043 0) ∧ sm_F1 (S 1100019) (S' 1100019) (S 1024 0) ∧ sm_F1 (S 17) (S' 17) (S 1032 0) ∧ sm_F1 (S 18) (S' 18) (S 1032 0) ∧ sm_F1 (S 21) (S' 21) (S 1032 0) ∧ sm_F1 (S 20) (S' 20) (S 1032 0) ∧ sm_F1 (S 22) (S' 22) (S 1032 0) ∧ sm_F1 (S 1100016) (S' 1100016) (S 1032 0) ∧ sm_F1 (S 19) (S' 19) (8 * (S 1032 0)) ∧ sm_FN (S' 1100016) (S 1032 0) (S' 1032 0)) ∧ sm_KL (S 15) (S 16) (S' 15) (S' 16) (S 1031 0) ∧ sm_HD (S' 23) (S' 24) (S' 1100018 0) (S' 1007 0) ∧ sm_HD (S' 25) (fun _ : Int => (S' 1042 0)) 1 (S' 1007 0) ∧ (S' 1031 0) = (S 1031 0) ∧ (S' 1043 0) = (S 1043 0) ∧ (S' 1044 0) = (S 1044 0) ∧ (S' 1045 0) = (S 1045 0) ∧ (S 1032 0) ≤ (S' 1032 0) ∧ (S' 1032 0) ≤ 1 + (S' 1020 0) ∧ (S' 1100018 0) = (S' 1032 0) ∧ (S 1024 0) ≤ (S' 1024 0) ∧ ((S' 1021 0) = 0 → (S' 1023 0) = (S 1023 0) ∧ (S' 1024 0) + 1 ≤ (S 1024 0) + 2 * ((S' 1020 0) - (S 1020 0))) ∧ (0 < (S' 1021 0) → (S' 1024 0) ≤ (S 1024 0) + 2 * ((S' 1020 0) - (S 1020 0)) + 2 * (30 * (20 - (S 1023 0)) + 9)) ∧ -1 ≤ r ∧ r < 12000 ∧ ((S' 1021 0) = 0 → (S 1020 0) < (S' 1020 0) ∧ 1 ≤ (S 6 (S 1020 0)) ∧ sm_ex (S' 1100001) (S' 1100002) (S' 1100005) (S' 1024 0) 1 r (17 * (20 - (S 1023 0)) + 2) (20 - (S 1023 0)) ∧ ((S' 11 r) = 2 ∨ (S' 11 r) = 7 → (S' 1100002 r) ≤ 17 * (20 - (S 1023 0)) + 2)))
def T_fresh (d : Int) : Prop := ∀ (S : sv_S), sm_ok S → (0 ≤ (S 1020 0) ∧ (S 1020 0) < (S 1012 0) ∧ sm_TK (S 6) (S 8) (S 9) (S 10) (S 1012 0) ∧ 0 ≤ (S 1021 0) ∧ 0 ≤ (S 1004 0) ∧ (S 1004 0) ≤ 4000 ∧ 1 ≤ (S 1007 0) ∧ (S 1007 0) ≤ 90 ∧ sm_LN (S 4) 400 (S 1007 0) ∧ ((S 1021 0) = 0 → sm_WF (S 11) (S 12) (S 13) (S 1100001) (S 1100002) (S 1100005) (S 1100003) (S 1100004) (S 1024 0) (S 1007 0) (S 1009 0) (sm_fn (S 1032 0) (S 21) (S 1043 0)) ∧ sm_FT (S 11) (S 12) (S 13) (S 1100019) (S 17) (S 18) (S 21) (S 19) (S 20) (S 22) (S 1100016) (S 1024 0) (S 1007 0) (S 1009 0) (S 1032 0) (S 1032 0) ∧ sm_WG (S 1100001) (S 1100019) (S 1043 0) ∧ (S 1100016 (S 1043 0)) = 0) ∧ sm_HD (S 23) (S 24) (S 1100018 0) (S 1007 0) ∧ sm_HD (S 25) (fun _ : Int => (S 1042 0)) 1 (S 1007 0) ∧ 0 ≤ (S 1043 0) ∧ (S 1043 0) < (S 1100018 0) ∧ (S 1100018 0) = (S 1032 0) ∧ (S 1032 0) ≤ 1 + (S 1020 0) ∧ 0 ≤ (S 1031 0) ∧ (S 1031 0) ≤ 100 ∧ 0 ≤ (S 1044 0) ∧ (S 1044 0) ≤ 30 ∧ 0 ≤ (S 1045 0) ∧ (S 1045 0) ≤ 30 ∧ 0 ≤ (S 1024 0) ∧ ((S 1021 0) = 0 → 0 ≤ (S 1023 0) ∧ (S 1023 0) ≤ 20 ∧ (S 1031 0) ≤ 3 * (S 1023 0) + 5 ∧ (S 1024 0) ≤ 2 * (S 1020 0) ∧ (S 1044 0) ≤ (S 1023 0) ∧ (S 1045 0) ≤ (S 1023 0)) ∧ (S 1021 0) = 0 ∧ (S 6 (S 1020 0)) = 2) → (30 * (20 - (S 1023 0)) + 9) = d → sv_T sm_XS sm_cs sm_L sm_sh (30 * (20 - (S 1023 0)) + 9).toNat (q_fresh S) 55 0 (lv_args 0 [.ref 0]) [] S
def q_member (p1 : Int) (S : sv_S) : Option Value → sv_S → Prop := fun v S' => ∃ r : Int, v = some (sv_I r) ∧ sv_R r ∧ sm_ok S' ∧ sv_mod [1020, 1021, 1022, 1023, 5, 1011, 3, 4, 1007, 1009, 11, 12, 13, 14, 1024, 15, 16, 1031, 1032, 17, 18, 19, 20, 21, 22, 23, 24, 25, 1042, 1043, 1044, 1045, 1100001, 1100002, 1100005, 1100003, 1100004, 1100018, 1100019, 1100016] S S' ∧ ((S 1020 0) ≤ (S' 1020 0) ∧ (S' 1020 0) < (S' 1012 0) ∧ 0 ≤ (S' 1021 0) ∧ (0 < (S 1021 0) → 0 < (S' 1021 0)) ∧ (S 1007 0) ≤ (S' 1007 0) ∧ (S' 1007 0) ≤ 90 ∧ sm_LN (S' 4) 400 (S' 1007 0) ∧ ((S 1009 0) = 1 → (S' 1009 0) = 1) ∧ ((S' 1021 0) = 0 → sm_WF (S' 11) (S' 12) (S' 13) (S' 1100001) (S' 1100002) (S' 1100005) (S' 1100003) (S' 1100004) (S' 1024 0) (S' 1007 0) (S' 1009 0) (sm_fn (S' 1032 0) (S' 21) (S' 1043 0)) ∧ sm_PX (S 11) (S 12) (S 13) (S 1100001) (S 1100002) (S 1100005) (S 1100003) (S 1100004) (S' 11) (S' 12) (S' 13) (S' 1100001) (S' 1100002) (S' 1100005) (S' 1100003) (S' 1100004) (S 1024 0) ∧ sm_FT (S' 11) (S' 12) (S' 13) (S' 1100019) (S' 17) (S' 18) (S' 21) (S' 19) (S' 20) (S' 22) (S' 1100016) (S' 1024 0) (S' 1007 0) (S' 1009 0) (S' 1032 0) (S' 1032 0) ∧ sm_WG (S' 1100001) (S' 1100019) (S' 1043 0) ∧ sm_F1 (S 1100019) (S' 1100019) (S 1024 0) ∧ sm_F1 (S 17) (S' 17) (S 1032 0) ∧ sm_F1 (S 18) (S' 18) (S 1032 0) ∧ sm_F1 (S 21) (S' 21) (S 1032 0) ∧ sm_F1 (S 20) (S' 20) (S 1032 0) ∧ sm_F1 (S 22) (S' 22) (S 1032 0) ∧ sm_F1 (S 1100016) (S' 1100016) (S 1032 0) ∧ sm_F1 (S 19) (S' 19) (8 * (S 1032 0)) ∧ sm_FN (S' 1100016) (S 1032 0) (S' 1032 0)) ∧ sm_KL (S 15) (S 16) (S' 15) (S' 16) (S 1031 0) ∧ sm_HD (S' 23) (S' 24) (S' 1100018 0) (S' 1007 0) ∧ sm_HD (S' 25) (fun _ : Int => (S' 1042 0)) 1 (S' 1007 0) ∧ (S' 1031 0) = (S 1031 0) ∧ (S' 1043 0) = (S 1043 0) ∧ (S' 1044 0) = (S 1044 0) ∧ (S' 1045 0) = (S 1045 0) ∧ (S 1032 0) ≤ (S' 1032 0) ∧ (S' 1032 0) ≤ 1 + (S' 1020 0) ∧ (S' 1100018 0) = (S' 1032 0) ∧ (S 1024 0) ≤ (S' 1024 0) ∧ ((S' 1021 0) = 0 → (S' 1023 0) = (S 1023 0) ∧ (S' 1024 0) + 0 ≤ (S 1024 0) + 2 * ((S' 1020 0) - (S 1020 0))) ∧ (0 < (S' 1021 0) → (S' 1024 0) ≤ (S 1024 0) + 2 * ((S' 1020 0) - (S 1020 0)) + 2 * (30 * (20 - (S 1023 0)) + 9)) ∧ -1 ≤ r ∧ r < 12000 ∧ ((S' 1021 0) = 0 → (S 1020 0) < (S' 1020 0) ∧ 1 ≤ (S 6 (S 1020 0)) ∧ sm_ex (S' 1100001) (S' 1100002) (S' 1100005) (S' 1024 0) 1 r (17 * (20 - (S 1023 0)) + 2) (20 - (S 1023 0))))
def T_member (d : Int) : Prop := ∀ (p1 : Int) (S : sv_S), sm_ok S → sv_R p1 → (0 ≤ (S 1020 0) ∧ (S 1020 0) < (S 1012 0) ∧ sm_TK (S 6) (S 8) (S 9) (S 10) (S 1012 0) ∧ 0 ≤ (S 1021 0) ∧ 0 ≤ (S 1004 0) ∧ (S 1004 0) ≤ 4000 ∧ 1 ≤ (S 1007 0) ∧ (S 1007 0) ≤ 90 ∧ sm_LN (S 4) 400 (S 1007 0) ∧ ((S 1021 0) = 0 → sm_WF (S 11) (S 12) (S 13) (S 1100001) (S 1100002) (S 1100005) (S 1100003) (S 1100004) (S 1024 0) (S 1007 0) (S 1009 0) (sm_fn (S 1032 0) (S 21) (S 1043 0)) ∧ sm_FT (S 11) (S 12) (S 13) (S 1100019) (S 17) (S 18) (S 21) (S 19) (S 20) (S 22) (S 1100016) (S 1024 0) (S 1007 0) (S 1009 0) (S 1032 0) (S 1032 0) ∧ sm_WG (S 1100001) (S 1100019) (S 1043 0) ∧ (S 1100016 (S 1043 0)) = 0) ∧ sm_HD (S 23) (S 24) (S 1100018 0) (S 1007 0) ∧ sm_HD (S 25) (fun _ : Int => (S 1042 0)) 1 (S 1007 0) ∧ 0 ≤ (S 1043 0) ∧ (S 1043 0) < (S 1100018 0) ∧ (S 1100018 0) = (S 1032 0) ∧ (S 1032 0) ≤ 1 + (S 1020 0) ∧ 0 ≤ (S 1031 0) ∧ (S 1031 0) ≤ 100 ∧ 0 ≤ (S 1044 0) ∧ (S 1044 0) ≤ 30 ∧ 0 ≤ (S 1045 0) ∧ (S 1045 0) ≤ 30 ∧ 0 ≤ (S 1024 0) ∧ ((S 1021 0) = 0 → 0 ≤ (S 1023 0) ∧ (S 1023 0) ≤ 20 ∧ (S 1031 0) ≤ 3 * (S 1023 0) + 5 ∧ (S 1024 0) ≤ 2 * (S 1020 0) ∧ (S 1044 0) ≤ (S 1023 0) ∧ (S 1045 0) ≤ (S 1023 0)) ∧ (S 1021 0) = 0 ∧ ((S 6 (S 1020 0)) = 5) ∧ sm_ex (S 1100001) (S 1100002) (S 1100005) (S 1024 0) 1 p1 (17 * (20 - (S 1023 0)) + 2) (20 - (S 1023 0))) → (30 * (20 - (S 1023 0)) + 9) = d → sv_T sm_XS sm_cs sm_L sm_sh (30 * (20 - (S 1023 0)) + 9).toNat (q_member p1 S) 56 0 (lv_args 0 [.ref 0, sv_I p1]) [] S
def q_arguments (S : sv_S) : Option Value → sv_S → Prop := fun v S' => ∃ r : Int, v = some (sv_I r) ∧ sv_R r ∧ sm_ok S' ∧ sv_mod [1020, 1021, 1022, 1023, 5, 1011, 3, 4, 1007, 1009, 11, 12, 13, 14, 1024, 15, 16, 1031, 1032, 17, 18, 19, 20, 21, 22, 23, 24, 25, 1042, 1043, 1044, 1045, 1100001, 1100002, 1100005, 1100003, 1100004, 1100018, 1100019, 1100016] S S' ∧ ((S 1020 0) ≤ (S' 1020 0) ∧ (S' 1020 0) < (S' 1012 0) ∧ 0 ≤ (S' 1021 0) ∧ (0 < (S 1021 0) → 0 < (S' 1021 0)) ∧ (S 1007 0) ≤ (S' 1007 0) ∧ (S' 1007 0) ≤ 90 ∧ sm_LN (S' 4) 400 (S' 1007 0) ∧ ((S 1009 0) = 1 → (S' 1009 0) = 1) ∧ ((S' 1021 0) = 0 → sm_WF (S' 11) (S' 12) (S' 13) (S' 1100001) (S' 1100002) (S' 1100005) (S' 1100003) (S' 1100004) (S' 1024 0) (S' 1007 0) (S' 1009 0) (sm_fn (S' 1032 0) (S' 21) (S' 1043 0)) ∧ sm_PX (S 11) (S 12) (S 13) (S 1100001) (S 1100002) (S 1100005) (S 1100003) (S 1100004) (S' 11) (S' 12) (S' 13) (S' 1100001) (S' 1100002) (S' 1100005) (S' 1100003) (S' 1100004) (S 1024 0) ∧ sm_FT (S' 11) (S' 12) (S' 13) (S' 1100019) (S' 17) (S' 18) (S' 21) (S' 19) (S' 20) (S' 22) (S' 1100016) (S' 1024 0) (S' 1007 0) (S' 1009 0) (S' 1032 0) (S' 1032 0) ∧ sm_WG (S' 1100001) (S' 1100019) (S' 1043 0) ∧ sm_F1 (S 1100019) (S' 1100019) (S 1024 0) ∧ sm_F1 (S 17) (S' 17) (S 1032 0) ∧ sm_F1 (S 18) (S' 18) (S 1032 0) ∧ sm_F1 (S 21) (S' 21) (S 1032 0) ∧ sm_F1 (S 20) (S' 20) (S 1032 0) ∧ sm_F1 (S 22) (S' 22) (S 1032 0) ∧ sm_F1 (S 1100016) (S' 1100016) (S 1032 0) ∧ sm_F1 (S 19) (S' 19) (8 * (S 1032 0)) ∧ sm_FN (S' 1100016) (S 1032 0) (S' 1032 0)) ∧ sm_KL (S 15) (S 16) (S' 15) (S' 16) (S 1031 0) ∧ sm_HD (S' 23) (S' 24) (S' 1100018 0) (S' 1007 0) ∧ sm_HD (S' 25) (fun _ : Int => (S' 1042 0)) 1 (S' 1007 0) ∧ (S' 1031 0) = (S 1031 0) ∧ (S' 1043 0) = (S 1043 0) ∧ (S' 1044 0) = (S 1044 0) ∧ (S' 1045 0) = (S 1045 0) ∧ (S 1032 0) ≤ (S' 1032 0) ∧ (S' 1032 0) ≤ 1 + (S' 1020 0) ∧ (S' 1100018 0) = (S' 1032 0) ∧ (S 1024 0) ≤ (S' 1024 0) ∧ ((S' 1021 0) = 0 → (S' 1023 0) = (S 1023 0) ∧ (S' 1024 0) + 2 ≤ (S 1024 0) + 2 * ((S' 1020 0) - (S 1020 0))) ∧ (0 < (S' 1021 0) → (S' 1024 0) ≤ (S 1024 0) + 2 * ((S' 1020 0) - (S 1020 0)) + 2 * (30 * (20 - (S 1023 0)) + 9)) ∧ -1 ≤ r ∧ r < 12000 ∧ ((S' 1021 0) = 0 → sm_li (S' 1100001) (S' 1100002) (S' 1100005) (S' 1024 0) 3 r 8 (19 - (S 1023 0)) ∧ (S 1020 0) < (S' 1020 0)))
def T_arguments (d : Int) : Prop := ∀ (S : sv_S), sm_ok S → (0 ≤ (S 1020 0) ∧ (S 1020 0) < (S 1012 0) ∧ sm_TK (S 6) (S 8) (S 9) (S 10) (S 1012 0) ∧ 0 ≤ (S 1021 0) ∧ 0 ≤ (S 1004 0) ∧ (S 1004 0) ≤ 4000 ∧ 1 ≤ (S 1007 0) ∧ (S 1007 0) ≤ 90 ∧ sm_LN (S 4) 400 (S 1007 0) ∧ ((S 1021 0) = 0 → sm_WF (S 11) (S 12) (S 13) (S 1100001) (S 1100002) (S 1100005) (S 1100003) (S 1100004) (S 1024 0) (S 1007 0) (S 1009 0) (sm_fn (S 1032 0) (S 21) (S 1043 0)) ∧ sm_FT (S 11) (S 12) (S 13) (S 1100019) (S 17) (S 18) (S 21) (S 19) (S 20) (S 22) (S 1100016) (S 1024 0) (S 1007 0) (S 1009 0) (S 1032 0) (S 1032 0) ∧ sm_WG (S 1100001) (S 1100019) (S 1043 0) ∧ (S 1100016 (S 1043 0)) = 0) ∧ sm_HD (S 23) (S 24) (S 1100018 0) (S 1007 0) ∧ sm_HD (S 25) (fun _ : Int => (S 1042 0)) 1 (S 1007 0) ∧ 0 ≤ (S 1043 0) ∧ (S 1043 0) < (S 1100018 0) ∧ (S 1100018 0) = (S 1032 0) ∧ (S 1032 0) ≤ 1 + (S 1020 0) ∧ 0 ≤ (S 1031 0) ∧ (S 1031 0) ≤ 100 ∧ 0 ≤ (S 1044 0) ∧ (S 1044 0) ≤ 30 ∧ 0 ≤ (S 1045 0) ∧ (S 1045 0) ≤ 30 ∧ 0 ≤ (S 1024 0) ∧ ((S 1021 0) = 0 → 0 ≤ (S 1023 0) ∧ (S 1023 0) ≤ 20 ∧ (S 1031 0) ≤ 3 * (S 1023 0) + 5 ∧ (S 1024 0) ≤ 2 * (S 1020 0) ∧ (S 1044 0) ≤ (S 1023 0) ∧ (S 1045 0) ≤ (S 1023 0)) ∧ (S 1021 0) = 0 ∧ (S 6 (S 1020 0)) = 5) → (30 * (20 - (S 1023 0)) + 9) = d → sv_T sm_XS sm_cs sm_L sm_sh (30 * (20 - (S 1023 0)) + 9).toNat (q_arguments S) 57 0 (lv_args 0 [.ref 0]) [] S
def q_items (p1 : Int) (p2 : Int) (p3 : Int) (S : sv_S) : Option Value → sv_S → Prop := fun v S' => ∃ r : Int, v = some (sv_I r) ∧ sv_R r ∧ sm_ok S' ∧ sv_mod [1020, 1021, 1022, 1023, 5, 1011, 3, 4, 1007, 1009, 11, 12, 13, 14, 1024, 15, 16, 1031, 1032, 17, 18, 19, 20, 21, 22, 23, 24, 25, 1042, 1043, 1044, 1045, 1100001, 1100002, 1100005, 1100003, 1100004, 1100018, 1100019, 1100016] S S' ∧ ((S 1020 0) ≤ (S' 1020 0) ∧ (S' 1020 0) < (S' 1012 0) ∧ 0 ≤ (S' 1021 0) ∧ (0 < (S 1021 0) → 0 < (S' 1021 0)) ∧ (S 1007 0) ≤ (S' 1007 0) ∧ (S' 1007 0) ≤ 90 ∧ sm_LN (S' 4) 400 (S' 1007 0) ∧ ((S 1009 0) = 1 → (S' 1009 0) = 1) ∧ ((S' 1021 0) = 0 → sm_WF (S' 11) (S' 12) (S' 13) (S' 1100001) (S' 1100002) (S' 1100005) (S' 1100003) (S' 1100004) (S' 1024 0) (S' 1007 0) (S' 1009 0) (sm_fn (S' 1032 0) (S' 21) (S' 1043 0)) ∧ sm_PX (S 11) (S 12) (S 13) (S 1100001) (S 1100002) (S 1100005) (S 1100003) (S 1100004) (S' 11) (S' 12) (S' 13) (S' 1100001) (S' 1100002) (S' 1100005) (S' 1100003) (S' 1100004) (S 1024 0) ∧ sm_FT (S' 11) (S' 12) (S' 13) (S' 1100019) (S' 17) (S' 18) (S' 21) (S' 19) (S' 20) (S' 22) (S' 1100016) (S' 1024 0) (S' 1007 0) (S' 1009 0) (S' 1032 0) (S' 1032 0) ∧ sm_WG (S' 1100001) (S' 1100019) (S' 1043 0) ∧ sm_F1 (S 1100019) (S' 1100019) (S 1024 0) ∧ sm_F1 (S 17) (S' 17) (S 1032 0) ∧ sm_F1 (S 18) (S' 18) (S 1032 0) ∧ sm_F1 (S 21) (S' 21) (S 1032 0) ∧ sm_F1 (S 20) (S' 20) (S 1032 0) ∧ sm_F1 (S 22) (S' 22) (S 1032 0) ∧ sm_F1 (S 1100016) (S' 1100016) (S 1032 0) ∧ sm_F1 (S 19) (S' 19) (8 * (S 1032 0)) ∧ sm_FN (S' 1100016) (S 1032 0) (S' 1032 0)) ∧ sm_KL (S 15) (S 16) (S' 15) (S' 16) (S 1031 0) ∧ sm_HD (S' 23) (S' 24) (S' 1100018 0) (S' 1007 0) ∧ sm_HD (S' 25) (fun _ : Int => (S' 1042 0)) 1 (S' 1007 0) ∧ (S' 1031 0) = (S 1031 0) ∧ (S' 1043 0) = (S 1043 0) ∧ (S' 1044 0) = (S 1044 0) ∧ (S' 1045 0) = (S 1045 0) ∧ (S 1032 0) ≤ (S' 1032 0) ∧ (S' 1032 0) ≤ 1 + (S' 1020 0) ∧ (S' 1100018 0) = (S' 1032 0) ∧ (S 1024 0) ≤ (S' 1024 0) ∧ ((S' 1021 0) = 0 → (S' 1023 0) = (S 1023 0) ∧ (S' 1024 0) + 2 ≤ (S 1024 0) + 2 * ((S' 1020 0) - (S 1020 0))) ∧ (0 < (S' 1021 0) → (S' 1024 0) ≤ (S 1024 0) + 2 * ((S' 1020 0) - (S 1020 0)) + 2 * (30 * (20 - (S 1023 0)) + 8)) ∧ -1 ≤ r ∧ r < 12000 ∧ ((S' 1021 0) = 0 → sm_li (S' 1100001) (S' 1100002) (S' 1100005) (S' 1024 0) 3 r p3 (19 - (S 1023 0)) ∧ (S 1020 0) < (S' 1020 0)))
def T_items (d : Int) : Prop := ∀ (p1 : Int) (p2 : Int) (p3 : Int) (S : sv_S), sm_ok S → sv_R p1 → sv_R p2 → sv_R p3 → (0 ≤ (S 1020 0) ∧ (S 1020 0) < (S 1012 0) ∧ sm_TK (S 6) (S 8) (S 9) (S 10) (S 1012 0) ∧ 0 ≤ (S 1021 0) ∧ 0 ≤ (S 1004 0) ∧ (S 1004 0) ≤ 4000 ∧ 1 ≤ (S 1007 0) ∧ (S 1007 0) ≤ 90 ∧ sm_LN (S 4) 400 (S 1007 0) ∧ ((S 1021 0) = 0 → sm_WF (S 11) (S 12) (S 13) (S 1100001) (S 1100002) (S 1100005) (S 1100003) (S 1100004) (S 1024 0) (S 1007 0) (S 1009 0) (sm_fn (S 1032 0) (S 21) (S 1043 0)) ∧ sm_FT (S 11) (S 12) (S 13) (S 1100019) (S 17) (S 18) (S 21) (S 19) (S 20) (S 22) (S 1100016) (S 1024 0) (S 1007 0) (S 1009 0) (S 1032 0) (S 1032 0) ∧ sm_WG (S 1100001) (S 1100019) (S 1043 0) ∧ (S 1100016 (S 1043 0)) = 0) ∧ sm_HD (S 23) (S 24) (S 1100018 0) (S 1007 0) ∧ sm_HD (S 25) (fun _ : Int => (S 1042 0)) 1 (S 1007 0) ∧ 0 ≤ (S 1043 0) ∧ (S 1043 0) < (S 1100018 0) ∧ (S 1100018 0) = (S 1032 0) ∧ (S 1032 0) ≤ 1 + (S 1020 0) ∧ 0 ≤ (S 1031 0) ∧ (S 1031 0) ≤ 100 ∧ 0 ≤ (S 1044 0) ∧ (S 1044 0) ≤ 30 ∧ 0 ≤ (S 1045 0) ∧ (S 1045 0) ≤ 30 ∧ 0 ≤ (S 1024 0) ∧ ((S 1021 0) = 0 → 0 ≤ (S 1023 0) ∧ (S 1023 0) ≤ 20 ∧ (S 1031 0) ≤ 3 * (S 1023 0) + 5 ∧ (S 1024 0) ≤ 2 * (S 1020 0) ∧ (S 1044 0) ≤ (S 1023 0) ∧ (S 1045 0) ≤ (S 1023 0)) ∧ (S 1021 0) = 0 ∧ (S 6 (S 1020 0)) = 5 ∧ 1 ≤ p3 ∧ p3 ≤ 16) → (30 * (20 - (S 1023 0)) + 8) = d → sv_T sm_XS sm_cs sm_L sm_sh (30 * (20 - (S 1023 0)) + 8).toNat (q_items p1 p2 p3 S) 58 0 (lv_args 0 [.ref 0, sv_I p1, sv_I p2, sv_I p3]) [] S
def q_primary (S : sv_S) : Option Value → sv_S → Prop := fun v S' => ∃ r : Int, v = some (sv_I r) ∧ sv_R r ∧ sm_ok S' ∧ sv_mod [1020, 1021, 1022, 1023, 5, 1011, 3, 4, 1007, 1009, 11, 12, 13, 14, 1024, 15, 16, 1031, 1032, 17, 18, 19, 20, 21, 22, 23, 24, 25, 1042, 1043, 1044, 1045, 1100001, 1100002, 1100005, 1100003, 1100004, 1100018, 1100019, 1100016] S S' ∧ ((S 1020 0) ≤ (S' 1020 0) ∧ (S' 1020 0) < (S' 1012 0) ∧ 0 ≤ (S' 1021 0) ∧ (0 < (S 1021 0) → 0 < (S' 1021 0)) ∧ (S 1007 0) ≤ (S' 1007 0) ∧ (S' 1007 0) ≤ 90 ∧ sm_LN (S' 4) 400 (S' 1007 0) ∧ ((S 1009 0) = 1 → (S' 1009 0) = 1) ∧ ((S' 1021 0) = 0 → sm_WF (S' 11) (S' 12) (S' 13) (S' 1100001) (S' 1100002) (S' 1100005) (S' 1100003) (S' 1100004) (S' 1024 0) (S' 1007 0) (S' 1009 0) (sm_fn (S' 1032 0) (S' 21) (S' 1043 0)) ∧ sm_PX (S 11) (S 12) (S 13) (S 1100001) (S 1100002) (S 1100005) (S 1100003) (S 1100004) (S' 11) (S' 12) (S' 13) (S' 1100001) (S' 1100002) (S' 1100005) (S' 1100003) (S' 1100004) (S 1024 0) ∧ sm_FT (S' 11) (S' 12) (S' 13) (S' 1100019) (S' 17) (S' 18) (S' 21) (S' 19) (S' 20) (S' 22) (S' 1100016) (S' 1024 0) (S' 1007 0) (S' 1009 0) (S' 1032 0) (S' 1032 0) ∧ sm_WG (S' 1100001) (S' 1100019) (S' 1043 0) ∧ sm_F1 (S 1100019) (S' 1100019) (S 1024 0) ∧ sm_F1 (S 17) (S' 17) (S 1032 0) ∧ sm_F1 (S 18) (S' 18) (S 1032 0) ∧ sm_F1 (S 21) (S' 21) (S 1032 0) ∧ sm_F1 (S 20) (S' 20) (S 1032 0) ∧ sm_F1 (S 22) (S' 22) (S 1032 0) ∧ sm_F1 (S 1100016) (S' 1100016) (S 1032 0) ∧ sm_F1 (S 19) (S' 19) (8 * (S 1032 0)) ∧ sm_FN (S' 1100016) (S 1032 0) (S' 1032 0)) ∧ sm_KL (S 15) (S 16) (S' 15) (S' 16) (S 1031 0) ∧ sm_HD (S' 23) (S' 24) (S' 1100018 0) (S' 1007 0) ∧ sm_HD (S' 25) (fun _ : Int => (S' 1042 0)) 1 (S' 1007 0) ∧ (S' 1031 0) = (S 1031 0) ∧ (S' 1043 0) = (S 1043 0) ∧ (S' 1044 0) = (S 1044 0) ∧ (S' 1045 0) = (S 1045 0) ∧ (S 1032 0) ≤ (S' 1032 0) ∧ (S' 1032 0) ≤ 1 + (S' 1020 0) ∧ (S' 1100018 0) = (S' 1032 0) ∧ (S 1024 0) ≤ (S' 1024 0) ∧ ((S' 1021 0) = 0 → (S' 1023 0) = (S 1023 0) ∧ (S' 1024 0) + 1 ≤ (S 1024 0) + 2 * ((S' 1020 0) - (S 1020 0))) ∧ (0 < (S' 1021 0) → (S' 1024 0) ≤ (S 1024 0) + 2 * ((S' 1020 0) - (S 1020 0)) + 2 * (30 * (20 - (S 1023 0)) + 9)) ∧ -1 ≤ r ∧ r < 12000 ∧ ((S' 1021 0) = 0 → (S 1020 0) < (S' 1020 0) ∧ 1 ≤ (S 6 (S 1020 0)) ∧ sm_ex (S' 1100001) (S' 1100002) (S' 1100005) (S' 1024 0) 1 r (17 * (20 - (S 1023 0)) + 2) (20 - (S 1023 0)) ∧ ((S' 11 r) = 2 ∨ (S' 11 r) = 7 → (S' 1100002 r) ≤ 17 * (20 - (S 1023 0)) + 2)) ∧ (0 < (S 1021 0) → (S' 1020 0) = (S 1020 0) ∧ (S' 1024 0) = (S 1024 0)))
def T_primary (d : Int) : Prop := ∀ (S : sv_S), sm_ok S → (0 ≤ (S 1020 0) ∧ (S 1020 0) < (S 1012 0) ∧ sm_TK (S 6) (S 8) (S 9) (S 10) (S 1012 0) ∧ 0 ≤ (S 1021 0) ∧ 0 ≤ (S 1004 0) ∧ (S 1004 0) ≤ 4000 ∧ 1 ≤ (S 1007 0) ∧ (S 1007 0) ≤ 90 ∧ sm_LN (S 4) 400 (S 1007 0) ∧ ((S 1021 0) = 0 → sm_WF (S 11) (S 12) (S 13) (S 1100001) (S 1100002) (S 1100005) (S 1100003) (S 1100004) (S 1024 0) (S 1007 0) (S 1009 0) (sm_fn (S 1032 0) (S 21) (S 1043 0)) ∧ sm_FT (S 11) (S 12) (S 13) (S 1100019) (S 17) (S 18) (S 21) (S 19) (S 20) (S 22) (S 1100016) (S 1024 0) (S 1007 0) (S 1009 0) (S 1032 0) (S 1032 0) ∧ sm_WG (S 1100001) (S 1100019) (S 1043 0) ∧ (S 1100016 (S 1043 0)) = 0) ∧ sm_HD (S 23) (S 24) (S 1100018 0) (S 1007 0) ∧ sm_HD (S 25) (fun _ : Int => (S 1042 0)) 1 (S 1007 0) ∧ 0 ≤ (S 1043 0) ∧ (S 1043 0) < (S 1100018 0) ∧ (S 1100018 0) = (S 1032 0) ∧ (S 1032 0) ≤ 1 + (S 1020 0) ∧ 0 ≤ (S 1031 0) ∧ (S 1031 0) ≤ 100 ∧ 0 ≤ (S 1044 0) ∧ (S 1044 0) ≤ 30 ∧ 0 ≤ (S 1045 0) ∧ (S 1045 0) ≤ 30 ∧ 0 ≤ (S 1024 0) ∧ ((S 1021 0) = 0 → 0 ≤ (S 1023 0) ∧ (S 1023 0) ≤ 20 ∧ (S 1031 0) ≤ 3 * (S 1023 0) + 5 ∧ (S 1024 0) ≤ 2 * (S 1020 0) ∧ (S 1044 0) ≤ (S 1023 0) ∧ (S 1045 0) ≤ (S 1023 0)) ∧ (S 1021 0) = 0) → (30 * (20 - (S 1023 0)) + 9) = d → sv_T sm_XS sm_cs sm_L sm_sh (30 * (20 - (S 1023 0)) + 9).toNat (q_primary S) 59 0 (lv_args 0 [.ref 0]) [] S
def q_bracketed (S : sv_S) : Option Value → sv_S → Prop := fun v S' => ∃ r : Int, v = some (sv_I r) ∧ sv_R r ∧ sm_ok S' ∧ sv_mod [1020, 1021, 1022, 1023, 5, 1011, 3, 4, 1007, 1009, 11, 12, 13, 14, 1024, 15, 16, 1031, 1032, 17, 18, 19, 20, 21, 22, 23, 24, 25, 1042, 1043, 1044, 1045, 1100001, 1100002, 1100005, 1100003, 1100004, 1100018, 1100019, 1100016] S S' ∧ ((S 1020 0) ≤ (S' 1020 0) ∧ (S' 1020 0) < (S' 1012 0) ∧ 0 ≤ (S' 1021 0) ∧ (0 < (S 1021 0) → 0 < (S' 1021 0)) ∧ (S 1007 0) ≤ (S' 1007 0) ∧ (S' 1007 0) ≤ 90 ∧ sm_LN (S' 4) 400 (S' 1007 0) ∧ ((S 1009 0) = 1 → (S' 1009 0) = 1) ∧ ((S' 1021 0) = 0 → sm_WF (S' 11) (S' 12) (S' 13) (S' 1100001) (S' 1100002) (S' 1100005) (S' 1100003) (S' 1100004) (S' 1024 0) (S' 1007 0) (S' 1009 0) (sm_fn (S' 1032 0) (S' 21) (S' 1043 0)) ∧ sm_PX (S 11) (S 12) (S 13) (S 1100001) (S 1100002) (S 1100005) (S 1100003) (S 1100004) (S' 11) (S' 12) (S' 13) (S' 1100001) (S' 1100002) (S' 1100005) (S' 1100003) (S' 1100004) (S 1024 0) ∧ sm_FT (S' 11) (S' 12) (S' 13) (S' 1100019) (S' 17) (S' 18) (S' 21) (S' 19) (S' 20) (S' 22) (S' 1100016) (S' 1024 0) (S' 1007 0) (S' 1009 0) (S' 1032 0) (S' 1032 0) ∧ sm_WG (S' 1100001) (S' 1100019) (S' 1043 0) ∧ sm_F1 (S 1100019) (S' 1100019) (S 1024 0) ∧ sm_F1 (S 17) (S' 17) (S 1032 0) ∧ sm_F1 (S 18) (S' 18) (S 1032 0) ∧ sm_F1 (S 21) (S' 21) (S 1032 0) ∧ sm_F1 (S 20) (S' 20) (S 1032 0) ∧ sm_F1 (S 22) (S' 22) (S 1032 0) ∧ sm_F1 (S 1100016) (S' 1100016) (S 1032 0) ∧ sm_F1 (S 19) (S' 19) (8 * (S 1032 0)) ∧ sm_FN (S' 1100016) (S 1032 0) (S' 1032 0)) ∧ sm_KL (S 15) (S 16) (S' 15) (S' 16) (S 1031 0) ∧ sm_HD (S' 23) (S' 24) (S' 1100018 0) (S' 1007 0) ∧ sm_HD (S' 25) (fun _ : Int => (S' 1042 0)) 1 (S' 1007 0) ∧ (S' 1031 0) = (S 1031 0) ∧ (S' 1043 0) = (S 1043 0) ∧ (S' 1044 0) = (S 1044 0) ∧ (S' 1045 0) = (S 1045 0) ∧ (S 1032 0) ≤ (S' 1032 0) ∧ (S' 1032 0) ≤ 1 + (S' 1020 0) ∧ (S' 1100018 0) = (S' 1032 0) ∧ (S 1024 0) ≤ (S' 1024 0) ∧ ((S' 1021 0) = 0 → (S' 1023 0) = (S 1023 0) ∧ (S' 1024 0) + 1 ≤ (S 1024 0) + 2 * ((S' 1020 0) - (S 1020 0))) ∧ (0 < (S' 1021 0) → (S' 1024 0) ≤ (S 1024 0) + 2 * ((S' 1020 0) - (S 1020 0)) + 2 * (30 * (20 - (S 1023 0)) + 8)) ∧ -1 ≤ r ∧ r < 12000 ∧ ((S' 1021 0) = 0 → (S 1020 0) < (S' 1020 0) ∧ 1 ≤ (S 6 (S 1020 0)) ∧ sm_ex (S' 1100001) (S' 1100002) (S' 1100005) (S' 1024 0) 1 r (17 * (20 - (S 1023 0)) + 2) (20 - (S 1023 0)) ∧ ((S' 11 r) = 2 ∨ (S' 11 r) = 7 → (S' 1100002 r) ≤ 17 * (20 - (S 1023 0)) + 2)))
def T_bracketed (d : Int) : Prop := ∀ (S : sv_S), sm_ok S → (0 ≤ (S 1020 0) ∧ (S 1020 0) < (S 1012 0) ∧ sm_TK (S 6) (S 8) (S 9) (S 10) (S 1012 0) ∧ 0 ≤ (S 1021 0) ∧ 0 ≤ (S 1004 0) ∧ (S 1004 0) ≤ 4000 ∧ 1 ≤ (S 1007 0) ∧ (S 1007 0) ≤ 90 ∧ sm_LN (S 4) 400 (S 1007 0) ∧ ((S 1021 0) = 0 → sm_WF (S 11) (S 12) (S 13) (S 1100001) (S 1100002) (S 1100005) (S 1100003) (S 1100004) (S 1024 0) (S 1007 0) (S 1009 0) (sm_fn (S 1032 0) (S 21) (S 1043 0)) ∧ sm_FT (S 11) (S 12) (S 13) (S 1100019) (S 17) (S 18) (S 21) (S 19) (S 20) (S 22) (S 1100016) (S 1024 0) (S 1007 0) (S 1009 0) (S 1032 0) (S 1032 0) ∧ sm_WG (S 1100001) (S 1100019) (S 1043 0) ∧ (S 1100016 (S 1043 0)) = 0) ∧ sm_HD (S 23) (S 24) (S 1100018 0) (S 1007 0) ∧ sm_HD (S 25) (fun _ : Int => (S 1042 0)) 1 (S 1007 0) ∧ 0 ≤ (S 1043 0) ∧ (S 1043 0) < (S 1100018 0) ∧ (S 1100018 0) = (S 1032 0) ∧ (S 1032 0) ≤ 1 + (S 1020 0) ∧ 0 ≤ (S 1031 0) ∧ (S 1031 0) ≤ 100 ∧ 0 ≤ (S 1044 0) ∧ (S 1044 0) ≤ 30 ∧ 0 ≤ (S 1045 0) ∧ (S 1045 0) ≤ 30 ∧ 0 ≤ (S 1024 0) ∧ ((S 1021 0) = 0 → 0 ≤ (S 1023 0) ∧ (S 1023 0) ≤ 20 ∧ (S 1031 0) ≤ 3 * (S 1023 0) + 5 ∧ (S 1024 0) ≤ 2 * (S 1020 0) ∧ (S 1044 0) ≤ (S 1023 0) ∧ (S 1045 0) ≤ (S 1023 0)) ∧ (S 1021 0) = 0 ∧ (S 6 (S 1020 0)) = 5) → (30 * (20 - (S 1023 0)) + 8) = d → sv_T sm_XS sm_cs sm_L sm_sh (30 * (20 - (S 1023 0)) + 8).toNat (q_bracketed S) 60 0 (lv_args 0 [.ref 0]) [] S
def q_pairs (S : sv_S) : Option Value → sv_S → Prop := fun v S' => ∃ r : Int, v = some (sv_I r) ∧ sv_R r ∧ sm_ok S' ∧ sv_mod [1020, 1021, 1022, 1023, 5, 1011, 3, 4, 1007, 1009, 11, 12, 13, 14, 1024, 15, 16, 1031, 1032, 17, 18, 19, 20, 21, 22, 23, 24, 25, 1042, 1043, 1044, 1045, 1100001, 1100002, 1100005, 1100003, 1100004, 1100018, 1100019, 1100016] S S' ∧ ((S 1020 0) ≤ (S' 1020 0) ∧ (S' 1020 0) < (S' 1012 0) ∧ 0 ≤ (S' 1021 0) ∧ (0 < (S 1021 0) → 0 < (S' 1021 0)) ∧ (S 1007 0) ≤ (S' 1007 0) ∧ (S' 1007 0) ≤ 90 ∧ sm_LN (S' 4) 400 (S' 1007 0) ∧ ((S 1009 0) = 1 → (S' 1009 0) = 1) ∧ ((S' 1021 0) = 0 → sm_WF (S' 11) (S' 12) (S' 13) (S' 1100001) (S' 1100002) (S' 1100005) (S' 1100003) (S' 1100004) (S' 1024 0) (S' 1007 0) (S' 1009 0) (sm_fn (S' 1032 0) (S' 21) (S' 1043 0)) ∧ sm_PX (S 11) (S 12) (S 13) (S 1100001) (S 1100002) (S 1100005) (S 1100003) (S 1100004) (S' 11) (S' 12) (S' 13) (S' 1100001) (S' 1100002) (S' 1100005) (S' 1100003) (S' 1100004) (S 1024 0) ∧ sm_FT (S' 11) (S' 12) (S' 13) (S' 1100019) (S' 17) (S' 18) (S' 21) (S' 19) (S' 20) (S' 22) (S' 1100016) (S' 1024 0) (S' 1007 0) (S' 1009 0) (S' 1032 0) (S' 1032 0) ∧ sm_WG (S' 1100001) (S' 1100019) (S' 1043 0) ∧ sm_F1 (S 1100019) (S' 1100019) (S 1024 0) ∧ sm_F1 (S 17) (S' 17) (S 1032 0) ∧ sm_F1 (S 18) (S' 18) (S 1032 0) ∧ sm_F1 (S 21) (S' 21) (S 1032 0) ∧ sm_F1 (S 20) (S' 20) (S 1032 0) ∧ sm_F1 (S 22) (S' 22) (S 1032 0) ∧ sm_F1 (S 1100016) (S' 1100016) (S 1032 0) ∧ sm_F1 (S 19) (S' 19) (8 * (S 1032 0)) ∧ sm_FN (S' 1100016) (S 1032 0) (S' 1032 0)) ∧ sm_KL (S 15) (S 16) (S' 15) (S' 16) (S 1031 0) ∧ sm_HD (S' 23) (S' 24) (S' 1100018 0) (S' 1007 0) ∧ sm_HD (S' 25) (fun _ : Int => (S' 1042 0)) 1 (S' 1007 0) ∧ (S' 1031 0) = (S 1031 0) ∧ (S' 1043 0) = (S 1043 0) ∧ (S' 1044 0) = (S 1044 0) ∧ (S' 1045 0) = (S 1045 0) ∧ (S 1032 0) ≤ (S' 1032 0) ∧ (S' 1032 0) ≤ 1 + (S' 1020 0) ∧ (S' 1100018 0) = (S' 1032 0) ∧ (S 1024 0) ≤ (S' 1024 0) ∧ ((S' 1021 0) = 0 → (S' 1023 0) = (S 1023 0) ∧ (S' 1024 0) + 2 ≤ (S 1024 0) + 2 * ((S' 1020 0) - (S 1020 0))) ∧ (0 < (S' 1021 0) → (S' 1024 0) ≤ (S 1024 0) + 2 * ((S' 1020 0) - (S 1020 0)) + 2 * (30 * (20 - (S 1023 0)) + 8)) ∧ -1 ≤ r ∧ r < 12000 ∧ ((S' 1021 0) = 0 → sm_li (S' 1100001) (S' 1100002) (S' 1100005) (S' 1024 0) 4 r (17 * (20 - (S 1023 0))) (19 - (S 1023 0)) ∧ (S 1020 0) < (S' 1020 0)))
def T_pairs (d : Int) : Prop := ∀ (S : sv_S), sm_ok S → (0 ≤ (S 1020 0) ∧ (S 1020 0) < (S 1012 0) ∧ sm_TK (S 6) (S 8) (S 9) (S 10) (S 1012 0) ∧ 0 ≤ (S 1021 0) ∧ 0 ≤ (S 1004 0) ∧ (S 1004 0) ≤ 4000 ∧ 1 ≤ (S 1007 0) ∧ (S 1007 0) ≤ 90 ∧ sm_LN (S 4) 400 (S 1007 0) ∧ ((S 1021 0) = 0 → sm_WF (S 11) (S 12) (S 13) (S 1100001) (S 1100002) (S 1100005) (S 1100003) (S 1100004) (S 1024 0) (S 1007 0) (S 1009 0) (sm_fn (S 1032 0) (S 21) (S 1043 0)) ∧ sm_FT (S 11) (S 12) (S 13) (S 1100019) (S 17) (S 18) (S 21) (S 19) (S 20) (S 22) (S 1100016) (S 1024 0) (S 1007 0) (S 1009 0) (S 1032 0) (S 1032 0) ∧ sm_WG (S 1100001) (S 1100019) (S 1043 0) ∧ (S 1100016 (S 1043 0)) = 0) ∧ sm_HD (S 23) (S 24) (S 1100018 0) (S 1007 0) ∧ sm_HD (S 25) (fun _ : Int => (S 1042 0)) 1 (S 1007 0) ∧ 0 ≤ (S 1043 0) ∧ (S 1043 0) < (S 1100018 0) ∧ (S 1100018 0) = (S 1032 0) ∧ (S 1032 0) ≤ 1 + (S 1020 0) ∧ 0 ≤ (S 1031 0) ∧ (S 1031 0) ≤ 100 ∧ 0 ≤ (S 1044 0) ∧ (S 1044 0) ≤ 30 ∧ 0 ≤ (S 1045 0) ∧ (S 1045 0) ≤ 30 ∧ 0 ≤ (S 1024 0) ∧ ((S 1021 0) = 0 → 0 ≤ (S 1023 0) ∧ (S 1023 0) ≤ 20 ∧ (S 1031 0) ≤ 3 * (S 1023 0) + 5 ∧ (S 1024 0) ≤ 2 * (S 1020 0) ∧ (S 1044 0) ≤ (S 1023 0) ∧ (S 1045 0) ≤ (S 1023 0)) ∧ (S 1021 0) = 0 ∧ (S 6 (S 1020 0)) = 5) → (30 * (20 - (S 1023 0)) + 8) = d → sv_T sm_XS sm_cs sm_L sm_sh (30 * (20 - (S 1023 0)) + 8).toNat (q_pairs S) 61 0 (lv_args 0 [.ref 0]) [] S
def q_function (p1 : Int) (S : sv_S) : Option Value → sv_S → Prop := fun v S' => ∃ r : Int, v = some (sv_I r) ∧ sv_R r ∧ sm_ok S' ∧ sv_mod [1020, 1021, 1022, 1023, 5, 1011, 3, 4, 1007, 1009, 11, 12, 13, 14, 1024, 15, 16, 1031, 1032, 17, 18, 19, 20, 21, 22, 23, 24, 25, 1042, 1043, 1044, 1045, 1100001, 1100002, 1100005, 1100003, 1100004, 1100018, 1100019, 1100016] S S' ∧ ((S 1020 0) ≤ (S' 1020 0) ∧ (S' 1020 0) < (S' 1012 0) ∧ 0 ≤ (S' 1021 0) ∧ (0 < (S 1021 0) → 0 < (S' 1021 0)) ∧ (S 1007 0) ≤ (S' 1007 0) ∧ (S' 1007 0) ≤ 90 ∧ sm_LN (S' 4) 400 (S' 1007 0) ∧ ((S 1009 0) = 1 → (S' 1009 0) = 1) ∧ ((S' 1021 0) = 0 → sm_WF (S' 11) (S' 12) (S' 13) (S' 1100001) (S' 1100002) (S' 1100005) (S' 1100003) (S' 1100004) (S' 1024 0) (S' 1007 0) (S' 1009 0) (sm_fn (S' 1032 0) (S' 21) (S' 1043 0)) ∧ sm_PX (S 11) (S 12) (S 13) (S 1100001) (S 1100002) (S 1100005) (S 1100003) (S 1100004) (S' 11) (S' 12) (S' 13) (S' 1100001) (S' 1100002) (S' 1100005) (S' 1100003) (S' 1100004) (S 1024 0) ∧ sm_FT (S' 11) (S' 12) (S' 13) (S' 1100019) (S' 17) (S' 18) (S' 21) (S' 19) (S' 20) (S' 22) (S' 1100016) (S' 1024 0) (S' 1007 0) (S' 1009 0) (S' 1032 0) (S' 1032 0) ∧ sm_WG (S' 1100001) (S' 1100019) (S' 1043 0) ∧ sm_F1 (S 1100019) (S' 1100019) (S 1024 0) ∧ sm_F1 (S 17) (S' 17) (S 1032 0) ∧ sm_F1 (S 18) (S' 18) (S 1032 0) ∧ sm_F1 (S 21) (S' 21) (S 1032 0) ∧ sm_F1 (S 20) (S' 20) (S 1032 0) ∧ sm_F1 (S 22) (S' 22) (S 1032 0) ∧ sm_F1 (S 1100016) (S' 1100016) (S 1032 0) ∧ sm_F1 (S 19) (S' 19) (8 * (S 1032 0)) ∧ sm_FN (S' 1100016) (S 1032 0) (S' 1032 0)) ∧ sm_KL (S 15) (S 16) (S' 15) (S' 16) (S 1031 0) ∧ sm_HD (S' 23) (S' 24) (S' 1100018 0) (S' 1007 0) ∧ sm_HD (S' 25) (fun _ : Int => (S' 1042 0)) 1 (S' 1007 0) ∧ (S' 1031 0) = (S 1031 0) ∧ (S' 1043 0) = (S 1043 0) ∧ (S' 1044 0) = (S 1044 0) ∧ (S' 1045 0) = (S 1045 0) ∧ (S 1032 0) ≤ (S' 1032 0) ∧ (S' 1032 0) ≤ 1 + (S' 1020 0) ∧ (S' 1100018 0) = (S' 1032 0) ∧ (S 1024 0) ≤ (S' 1024 0) ∧ ((S' 1021 0) = 0 → (S' 1023 0) = (S 1023 0) ∧ (S' 1024 0) + 2 ≤ (S 1024 0) + 2 * ((S' 1020 0) - (S 1020 0))) ∧ (0 < (S' 1021 0) → (S' 1024 0) ≤ (S 1024 0) + 2 * ((S' 1020 0) - (S 1020 0)) + 2 * (30 * (20 - (S 1023 0)) + 8)) ∧ 0 ≤ r ∧ ((S' 1021 0) = 0 → 1 ≤ r ∧ r < (S' 1032 0) ∧ (r < 12 → (S' 21 r) = (S 1043 0)) ∧ (S 1020 0) < (S' 1020 0)))
def T_function (d : Int) : Prop := ∀ (p1 : Int) (S : sv_S), sm_ok S → (0 ≤ p1 ∧ p1 ≤ 1) → (0 ≤ (S 1020 0) ∧ (S 1020 0) < (S 1012 0) ∧ sm_TK (S 6) (S 8) (S 9) (S 10) (S 1012 0) ∧ 0 ≤ (S 1021 0) ∧ 0 ≤ (S 1004 0) ∧ (S 1004 0) ≤ 4000 ∧ 1 ≤ (S 1007 0) ∧ (S 1007 0) ≤ 90 ∧ sm_LN (S 4) 400 (S 1007 0) ∧ ((S 1021 0) = 0 → sm_WF (S 11) (S 12) (S 13) (S 1100001) (S 1100002) (S 1100005) (S 1100003) (S 1100004) (S 1024 0) (S 1007 0) (S 1009 0) (sm_fn (S 1032 0) (S 21) (S 1043 0)) ∧ sm_FT (S 11) (S 12) (S 13) (S 1100019) (S 17) (S 18) (S 21) (S 19) (S 20) (S 22) (S 1100016) (S 1024 0) (S 1007 0) (S 1009 0) (S 1032 0) (S 1032 0) ∧ sm_WG (S 1100001) (S 1100019) (S 1043 0) ∧ (S 1100016 (S 1043 0)) = 0) ∧ sm_HD (S 23) (S 24) (S 1100018 0) (S 1007 0) ∧ sm_HD (S 25) (fun _ : Int => (S 1042 0)) 1 (S 1007 0) ∧ 0 ≤ (S 1043 0) ∧ (S 1043 0) < (S 1100018 0) ∧ (S 1100018 0) = (S 1032 0) ∧ (S 1032 0) ≤ 1 + (S 1020 0) ∧ 0 ≤ (S 1031 0) ∧ (S 1031 0) ≤ 100 ∧ 0 ≤ (S 1044 0) ∧ (S 1044 0) ≤ 30 ∧ 0 ≤ (S 1045 0) ∧ (S 1045 0) ≤ 30 ∧ 0 ≤ (S 1024 0) ∧ ((S 1021 0) = 0 → 0 ≤ (S 1023 0) ∧ (S 1023 0) ≤ 20 ∧ (S 1031 0) ≤ 3 * (S 1023 0) + 5 ∧ (S 1024 0) ≤ 2 * (S 1020 0) ∧ (S 1044 0) ≤ (S 1023 0) ∧ (S 1045 0) ≤ (S 1023 0)) ∧ (S 1021 0) = 0 ∧ (S 6 (S 1020 0)) = 2) → (30 * (20 - (S 1023 0)) + 8) = d → sv_T sm_XS sm_cs sm_L sm_sh (30 * (20 - (S 1023 0)) + 8).toNat (q_function p1 S) 62 0 (lv_args 0 [.ref 0, sv_I p1]) [] S
def q_parts (p1 : Int) (S : sv_S) : Option Value → sv_S → Prop := fun v S' => ∃ r : Int, v = some (sv_I r) ∧ sv_R r ∧ sm_ok S' ∧ sv_mod [1020, 1021, 1022, 1023, 5, 1011, 3, 4, 1007, 1009, 11, 12, 13, 14, 1024, 15, 16, 1031, 1032, 17, 18, 19, 20, 21, 22, 23, 24, 25, 1042, 1043, 1044, 1045, 1100001, 1100002, 1100005, 1100003, 1100004, 1100018, 1100019, 1100016] S S' ∧ ((S 1020 0) ≤ (S' 1020 0) ∧ (S' 1020 0) < (S' 1012 0) ∧ 0 ≤ (S' 1021 0) ∧ (0 < (S 1021 0) → 0 < (S' 1021 0)) ∧ (S 1007 0) ≤ (S' 1007 0) ∧ (S' 1007 0) ≤ 90 ∧ sm_LN (S' 4) 400 (S' 1007 0) ∧ ((S 1009 0) = 1 → (S' 1009 0) = 1) ∧ ((S' 1021 0) = 0 → sm_WF (S' 11) (S' 12) (S' 13) (S' 1100001) (S' 1100002) (S' 1100005) (S' 1100003) (S' 1100004) (S' 1024 0) (S' 1007 0) (S' 1009 0) (sm_fn (S' 1032 0) (S' 21) (S' 1043 0)) ∧ sm_PX (S 11) (S 12) (S 13) (S 1100001) (S 1100002) (S 1100005) (S 1100003) (S 1100004) (S' 11) (S' 12) (S' 13) (S' 1100001) (S' 1100002) (S' 1100005) (S' 1100003) (S' 1100004) (S 1024 0) ∧ sm_FT (S' 11) (S' 12) (S' 13) (S' 1100019) (S' 17) (S' 18) (S' 21) (S' 19) (S' 20) (S' 22) (S' 1100016) (S' 1024 0) (S' 1007 0) (S' 1009 0) (S' 1032 0) (S' 1032 0) ∧ sm_WG (S' 1100001) (S' 1100019) (S' 1043 0) ∧ sm_F1 (S 1100019) (S' 1100019) (S 1024 0) ∧ sm_F1 (S 17) (S' 17) (S 1032 0) ∧ sm_F1 (S 18) (S' 18) (S 1032 0) ∧ sm_F1 (S 21) (S' 21) (S 1032 0) ∧ sm_F1 (S 20) (S' 20) (S 1032 0) ∧ sm_F1 (S 22) (S' 22) (S 1032 0) ∧ sm_F1 (S 1100016) (S' 1100016) (S 1032 0) ∧ sm_F1 (S 19) (S' 19) (8 * (S 1032 0)) ∧ sm_FN (S' 1100016) (S 1032 0) (S' 1032 0)) ∧ sm_KL (S 15) (S 16) (S' 15) (S' 16) (S 1031 0) ∧ sm_HD (S' 23) (S' 24) (S' 1100018 0) (S' 1007 0) ∧ sm_HD (S' 25) (fun _ : Int => (S' 1042 0)) 1 (S' 1007 0) ∧ (S' 1031 0) = (S 1031 0) ∧ (S' 1043 0) = (S 1043 0) ∧ (S' 1044 0) = (S 1044 0) ∧ (S' 1045 0) = (S 1045 0) ∧ (S 1032 0) ≤ (S' 1032 0) ∧ (S' 1032 0) ≤ 1 + (S' 1020 0) ∧ (S' 1100018 0) = (S' 1032 0) ∧ (S 1024 0) ≤ (S' 1024 0) ∧ ((S' 1021 0) = 0 → (S' 1023 0) = (S 1023 0) ∧ (S' 1024 0) + 0 ≤ (S 1024 0) + 2 * ((S' 1020 0) - (S 1020 0))) ∧ (0 < (S' 1021 0) → (S' 1024 0) ≤ (S 1024 0) + 2 * ((S' 1020 0) - (S 1020 0)) + 2 * (30 * (20 - (S 1023 0)) + 28)) ∧ -1 ≤ r ∧ r < 12000 ∧ ((S' 1021 0) = 0 → sm_sl (S' 1100001) (S' 1100002) (S' 1100005) (S' 1100003) (S' 1100004) (S' 1024 0) 2 r (17 * (20 - (S 1023 0)) + 5) (20 - (S 1023 0)) (if 0 < (S 1044 0) then 1 else 0) (if 0 < (S 1044 0) + (S 1045 0) then 1 else 0)))
def T_parts (d : Int) : Prop := ∀ (p1 : Int) (S : sv_S), sm_ok S → (0 ≤ p1 ∧ p1 ≤ 1) → (0 ≤ (S 1020 0) ∧ (S 1020 0) < (S 1012 0) ∧ sm_TK (S 6) (S 8) (S 9) (S 10) (S 1012 0) ∧ 0 ≤ (S 1021 0) ∧ 0 ≤ (S 1004 0) ∧ (S 1004 0) ≤ 4000 ∧ 1 ≤ (S 1007 0) ∧ (S 1007 0) ≤ 90 ∧ sm_LN (S 4) 400 (S 1007 0) ∧ ((S 1021 0) = 0 → sm_WF (S 11) (S 12) (S 13) (S 1100001) (S 1100002) (S 1100005) (S 1100003) (S 1100004) (S 1024 0) (S 1007 0) (S 1009 0) (sm_fn (S 1032 0) (S 21) (S 1043 0)) ∧ sm_FT (S 11) (S 12) (S 13) (S 1100019) (S 17) (S 18) (S 21) (S 19) (S 20) (S 22) (S 1100016) (S 1024 0) (S 1007 0) (S 1009 0) (S 1032 0) (S 1032 0) ∧ sm_WG (S 1100001) (S 1100019) (S 1043 0) ∧ (S 1100016 (S 1043 0)) = 0) ∧ sm_HD (S 23) (S 24) (S 1100018 0) (S 1007 0) ∧ sm_HD (S 25) (fun _ : Int => (S 1042 0)) 1 (S 1007 0) ∧ 0 ≤ (S 1043 0) ∧ (S 1043 0) < (S 1100018 0) ∧ (S 1100018 0) = (S 1032 0) ∧ (S 1032 0) ≤ 1 + (S 1020 0) ∧ 0 ≤ (S 1031 0) ∧ (S 1031 0) ≤ 100 ∧ 0 ≤ (S 1044 0) ∧ (S 1044 0) ≤ 30 ∧ 0 ≤ (S 1045 0) ∧ (S 1045 0) ≤ 30 ∧ 0 ≤ (S 1024 0) ∧ ((S 1021 0) = 0 → 0 ≤ (S 1023 0) ∧ (S 1023 0) ≤ 20 ∧ (S 1031 0) ≤ 3 * (S 1023 0) + 5 ∧ (S 1024 0) ≤ 2 * (S 1020 0) ∧ (S 1044 0) ≤ (S 1023 0) ∧ (S 1045 0) ≤ (S 1023 0)) ∧ (S 1021 0) = 0 ∧ (S 1031 0) + 1 ≤ 3 * (S 1023 0) + 5) → (30 * (20 - (S 1023 0)) + 28) = d → sv_T sm_XS sm_cs sm_L sm_sh (30 * (20 - (S 1023 0)) + 28).toNat (q_parts p1 S) 65 0 (lv_args 0 [.ref 0, sv_I p1]) [] S
def q_statement (S : sv_S) : Option Value → sv_S → Prop := fun v S' => ∃ r : Int, v = some (sv_I r) ∧ sv_R r ∧ sm_ok S' ∧ sv_mod [1020, 1021, 1022, 1023, 5, 1011, 3, 4, 1007, 1009, 11, 12, 13, 14, 1024, 15, 16, 1031, 1032, 17, 18, 19, 20, 21, 22, 23, 24, 25, 1042, 1043, 1044, 1045, 1100001, 1100002, 1100005, 1100003, 1100004, 1100018, 1100019, 1100016] S S' ∧ ((S 1020 0) ≤ (S' 1020 0) ∧ (S' 1020 0) < (S' 1012 0) ∧ 0 ≤ (S' 1021 0) ∧ (0 < (S 1021 0) → 0 < (S' 1021 0)) ∧ (S 1007 0) ≤ (S' 1007 0) ∧ (S' 1007 0) ≤ 90 ∧ sm_LN (S' 4) 400 (S' 1007 0) ∧ ((S 1009 0) = 1 → (S' 1009 0) = 1) ∧ ((S' 1021 0) = 0 → sm_WF (S' 11) (S' 12) (S' 13) (S' 1100001) (S' 1100002) (S' 1100005) (S' 1100003) (S' 1100004) (S' 1024 0) (S' 1007 0) (S' 1009 0) (sm_fn (S' 1032 0) (S' 21) (S' 1043 0)) ∧ sm_PX (S 11) (S 12) (S 13) (S 1100001) (S 1100002) (S 1100005) (S 1100003) (S 1100004) (S' 11) (S' 12) (S' 13) (S' 1100001) (S' 1100002) (S' 1100005) (S' 1100003) (S' 1100004) (S 1024 0) ∧ sm_FT (S' 11) (S' 12) (S' 13) (S' 1100019) (S' 17) (S' 18) (S' 21) (S' 19) (S' 20) (S' 22) (S' 1100016) (S' 1024 0) (S' 1007 0) (S' 1009 0) (S' 1032 0) (S' 1032 0) ∧ sm_WG (S' 1100001) (S' 1100019) (S' 1043 0) ∧ sm_F1 (S 1100019) (S' 1100019) (S 1024 0) ∧ sm_F1 (S 17) (S' 17) (S 1032 0) ∧ sm_F1 (S 18) (S' 18) (S 1032 0) ∧ sm_F1 (S 21) (S' 21) (S 1032 0) ∧ sm_F1 (S 20) (S' 20) (S 1032 0) ∧ sm_F1 (S 22) (S' 22) (S 1032 0) ∧ sm_F1 (S 1100016) (S' 1100016) (S 1032 0) ∧ sm_F1 (S 19) (S' 19) (8 * (S 1032 0)) ∧ sm_FN (S' 1100016) (S 1032 0) (S' 1032 0)) ∧ sm_KL (S 15) (S 16) (S' 15) (S' 16) (S 1031 0) ∧ sm_HD (S' 23) (S' 24) (S' 1100018 0) (S' 1007 0) ∧ sm_HD (S' 25) (fun _ : Int => (S' 1042 0)) 1 (S' 1007 0) ∧ (S' 1031 0) = (S 1031 0) ∧ (S' 1043 0) = (S 1043 0) ∧ (S' 1044 0) = (S 1044 0) ∧ (S' 1045 0) = (S 1045 0) ∧ (S 1032 0) ≤ (S' 1032 0) ∧ (S' 1032 0) ≤ 1 + (S' 1020 0) ∧ (S' 1100018 0) = (S' 1032 0) ∧ (S 1024 0) ≤ (S' 1024 0) ∧ ((S' 1021 0) = 0 → (S' 1023 0) = (S 1023 0) ∧ (S' 1024 0) + 0 ≤ (S 1024 0) + 2 * ((S' 1020 0) - (S 1020 0))) ∧ (0 < (S' 1021 0) → (S' 1024 0) ≤ (S 1024 0) + 2 * ((S' 1020 0) - (S 1020 0)) + 2 * ((if 0 < (S 1021 0) then 1 else 30 * (20 - (S 1023 0)) + 27))) ∧ -1 ≤ r ∧ r < 12000 ∧ ((S' 1021 0) = 0 → (S 1020 0) < (S' 1020 0) ∧ (S 1024 0) ≤ r ∧ sm_sx (S' 1100001) (S' 1100002) (S' 1100005) (S' 1100003) (S' 1100004) (S' 1024 0) 2 r (17 * (20 - (S 1023 0)) + 5) (20 - (S 1023 0)) (if 0 < (S 1044 0) then 1 else 0) (if 0 < (S 1044 0) + (S 1045 0) then 1 else 0) ∧ (S' 1100002 r) = (17 * (20 - (S 1023 0)) + 5) ∧ (S' 1100005 r) = (20 - (S 1023 0)) ∧ (S' 1100003 r) = (if 0 < (S 1044 0) then 1 else 0) ∧ (S' 1100004 r) = (if 0 < (S 1044 0) + (S 1045 0) then 1 else 0)) ∧ (0 < (S 1021 0) → (S' 1020 0) = (S 1020 0) ∧ (S' 1024 0) = (S 1024 0)))
def T_statement (d : Int) : Prop := ∀ (S : sv_S), sm_ok S → (0 ≤ (S 1020 0) ∧ (S 1020 0) < (S 1012 0) ∧ sm_TK (S 6) (S 8) (S 9) (S 10) (S 1012 0) ∧ 0 ≤ (S 1021 0) ∧ 0 ≤ (S 1004 0) ∧ (S 1004 0) ≤ 4000 ∧ 1 ≤ (S 1007 0) ∧ (S 1007 0) ≤ 90 ∧ sm_LN (S 4) 400 (S 1007 0) ∧ ((S 1021 0) = 0 → sm_WF (S 11) (S 12) (S 13) (S 1100001) (S 1100002) (S 1100005) (S 1100003) (S 1100004) (S 1024 0) (S 1007 0) (S 1009 0) (sm_fn (S 1032 0) (S 21) (S 1043 0)) ∧ sm_FT (S 11) (S 12) (S 13) (S 1100019) (S 17) (S 18) (S 21) (S 19) (S 20) (S 22) (S 1100016) (S 1024 0) (S 1007 0) (S 1009 0) (S 1032 0) (S 1032 0) ∧ sm_WG (S 1100001) (S 1100019) (S 1043 0) ∧ (S 1100016 (S 1043 0)) = 0) ∧ sm_HD (S 23) (S 24) (S 1100018 0) (S 1007 0) ∧ sm_HD (S 25) (fun _ : Int => (S 1042 0)) 1 (S 1007 0) ∧ 0 ≤ (S 1043 0) ∧ (S 1043 0) < (S 1100018 0) ∧ (S 1100018 0) = (S 1032 0) ∧ (S 1032 0) ≤ 1 + (S 1020 0) ∧ 0 ≤ (S 1031 0) ∧ (S 1031 0) ≤ 100 ∧ 0 ≤ (S 1044 0) ∧ (S 1044 0) ≤ 30 ∧ 0 ≤ (S 1045 0) ∧ (S 1045 0) ≤ 30 ∧ 0 ≤ (S 1024 0) ∧ ((S 1021 0) = 0 → 0 ≤ (S 1023 0) ∧ (S 1023 0) ≤ 20 ∧ (S 1031 0) ≤ 3 * (S 1023 0) + 5 ∧ (S 1024 0) ≤ 2 * (S 1020 0) ∧ (S 1044 0) ≤ (S 1023 0) ∧ (S 1045 0) ≤ (S 1023 0))) → ((if 0 < (S 1021 0) then 1 else 30 * (20 - (S 1023 0)) + 27)) = d → sv_T sm_XS sm_cs sm_L sm_sh ((if 0 < (S 1021 0) then 1 else 30 * (20 - (S 1023 0)) + 27)).toNat (q_statement S) 67 0 (lv_args 0 [.ref 0]) [] S
def q_statementBody (S : sv_S) : Option Value → sv_S → Prop := fun v S' => ∃ r : Int, v = some (sv_I r) ∧ sv_R r ∧ sm_ok S' ∧ sv_mod [1020, 1021, 1022, 1023, 5, 1011, 3, 4, 1007, 1009, 11, 12, 13, 14, 1024, 15, 16, 1031, 1032, 17, 18, 19, 20, 21, 22, 23, 24, 25, 1042, 1043, 1044, 1045, 1100001, 1100002, 1100005, 1100003, 1100004, 1100018, 1100019, 1100016] S S' ∧ ((S 1020 0) ≤ (S' 1020 0) ∧ (S' 1020 0) < (S' 1012 0) ∧ 0 ≤ (S' 1021 0) ∧ (0 < (S 1021 0) → 0 < (S' 1021 0)) ∧ (S 1007 0) ≤ (S' 1007 0) ∧ (S' 1007 0) ≤ 90 ∧ sm_LN (S' 4) 400 (S' 1007 0) ∧ ((S 1009 0) = 1 → (S' 1009 0) = 1) ∧ ((S' 1021 0) = 0 → sm_WF (S' 11) (S' 12) (S' 13) (S' 1100001) (S' 1100002) (S' 1100005) (S' 1100003) (S' 1100004) (S' 1024 0) (S' 1007 0) (S' 1009 0) (sm_fn (S' 1032 0) (S' 21) (S' 1043 0)) ∧ sm_PX (S 11) (S 12) (S 13) (S 1100001) (S 1100002) (S 1100005) (S 1100003) (S 1100004) (S' 11) (S' 12) (S' 13) (S' 1100001) (S' 1100002) (S' 1100005) (S' 1100003) (S' 1100004) (S 1024 0) ∧ sm_FT (S' 11) (S' 12) (S' 13) (S' 1100019) (S' 17) (S' 18) (S' 21) (S' 19) (S' 20) (S' 22) (S' 1100016) (S' 1024 0) (S' 1007 0) (S' 1009 0) (S' 1032 0) (S' 1032 0) ∧ sm_WG (S' 1100001) (S' 1100019) (S' 1043 0) ∧ sm_F1 (S 1100019) (S' 1100019) (S 1024 0) ∧ sm_F1 (S 17) (S' 17) (S 1032 0) ∧ sm_F1 (S 18) (S' 18) (S 1032 0) ∧ sm_F1 (S 21) (S' 21) (S 1032 0) ∧ sm_F1 (S 20) (S' 20) (S 1032 0) ∧ sm_F1 (S 22) (S' 22) (S 1032 0) ∧ sm_F1 (S 1100016) (S' 1100016) (S 1032 0) ∧ sm_F1 (S 19) (S' 19) (8 * (S 1032 0)) ∧ sm_FN (S' 1100016) (S 1032 0) (S' 1032 0)) ∧ sm_KL (S 15) (S 16) (S' 15) (S' 16) (S 1031 0) ∧ sm_HD (S' 23) (S' 24) (S' 1100018 0) (S' 1007 0) ∧ sm_HD (S' 25) (fun _ : Int => (S' 1042 0)) 1 (S' 1007 0) ∧ (S' 1031 0) = (S 1031 0) ∧ (S' 1043 0) = (S 1043 0) ∧ (S' 1044 0) = (S 1044 0) ∧ (S' 1045 0) = (S 1045 0) ∧ (S 1032 0) ≤ (S' 1032 0) ∧ (S' 1032 0) ≤ 1 + (S' 1020 0) ∧ (S' 1100018 0) = (S' 1032 0) ∧ (S 1024 0) ≤ (S' 1024 0) ∧ ((S' 1021 0) = 0 → (S' 1023 0) = (S 1023 0) ∧ (S' 1024 0) + 0 ≤ (S 1024 0) + 2 * ((S' 1020 0) - (S 1020 0))) ∧ (0 < (S' 1021 0) → (S' 1024 0) ≤ (S 1024 0) + 2 * ((S' 1020 0) - (S 1020 0)) + 2 * (30 * (20 - (S 1023 0)) + 31)) ∧ -1 ≤ r ∧ r < 12000 ∧ ((S' 1021 0) = 0 → (S 1020 0) < (S' 1020 0) ∧ (S 1024 0) ≤ r ∧ sm_sx (S' 1100001) (S' 1100002) (S' 1100005) (S' 1100003) (S' 1100004) (S' 1024 0) 2 r (17 * (21 - (S 1023 0)) + 5) (21 - (S 1023 0)) (if 0 < (S 1044 0) then 1 else 0) (if 0 < (S 1044 0) + (S 1045 0) then 1 else 0) ∧ (S' 1100002 r) = (17 * (21 - (S 1023 0)) + 5) ∧ (S' 1100005 r) = (21 - (S 1023 0)) ∧ (S' 1100003 r) = (if 0 < (S 1044 0) then 1 else 0) ∧ (S' 1100004 r) = (if 0 < (S 1044 0) + (S 1045 0) then 1 else 0)))
def T_statementBody (d : Int) : Prop := ∀ (S : sv_S), sm_ok S → (0 ≤ (S 1020 0) ∧ (S 1020 0) < (S 1012 0) ∧ sm_TK (S 6) (S 8) (S 9) (S 10) (S 1012 0) ∧ 0 ≤ (S 1021 0) ∧ 0 ≤ (S 1004 0) ∧ (S 1004 0) ≤ 4000 ∧ 1 ≤ (S 1007 0) ∧ (S 1007 0) ≤ 90 ∧ sm_LN (S 4) 400 (S 1007 0) ∧ ((S 1021 0) = 0 → sm_WF (S 11) (S 12) (S 13) (S 1100001) (S 1100002) (S 1100005) (S 1100003) (S 1100004) (S 1024 0) (S 1007 0) (S 1009 0) (sm_fn (S 1032 0) (S 21) (S 1043 0)) ∧ sm_FT (S 11) (S 12) (S 13) (S 1100019) (S 17) (S 18) (S 21) (S 19) (S 20) (S 22) (S 1100016) (S 1024 0) (S 1007 0) (S 1009 0) (S 1032 0) (S 1032 0) ∧ sm_WG (S 1100001) (S 1100019) (S 1043 0) ∧ (S 1100016 (S 1043 0)) = 0) ∧ sm_HD (S 23) (S 24) (S 1100018 0) (S 1007 0) ∧ sm_HD (S 25) (fun _ : Int => (S 1042 0)) 1 (S 1007 0) ∧ 0 ≤ (S 1043 0) ∧ (S 1043 0) < (S 1100018 0) ∧ (S 1100018 0) = (S 1032 0) ∧ (S 1032 0) ≤ 1 + (S 1020 0) ∧ 0 ≤ (S 1031 0) ∧ (S 1031 0) ≤ 100 ∧ 0 ≤ (S 1044 0) ∧ (S 1044 0) ≤ 30 ∧ 0 ≤ (S 1045 0) ∧ (S 1045 0) ≤ 30 ∧ 0 ≤ (S 1024 0) ∧ ((S 1021 0) = 0 → 0 ≤ (S 1023 0) ∧ (S 1023 0) ≤ 20 ∧ (S 1031 0) ≤ 3 * (S 1023 0) + 5 ∧ (S 1024 0) ≤ 2 * (S 1020 0) ∧ (S 1044 0) ≤ (S 1023 0) ∧ (S 1045 0) ≤ (S 1023 0)) ∧ (S 1021 0) = 0 ∧ 1 ≤ (S 1023 0) ∧ (S 1044 0) + 1 ≤ (S 1023 0) ∧ (S 1045 0) + 1 ≤ (S 1023 0) ∧ (S 1031 0) ≤ 3 * (S 1023 0) + 2 ∧ 1 ≤ (S 6 (S 1020 0)) ∧ (S 6 (S 1020 0)) ≤ 5 ∧ ((S 6 (S 1020 0)) = 2 ∧ (S 7 (S 1020 0)) = 0 → 0 < (S 1044 0) + (S 1045 0)) ∧ ((S 6 (S 1020 0)) = 2 ∧ (S 7 (S 1020 0)) = 3 → 0 < (S 1044 0))) → (30 * (20 - (S 1023 0)) + 31) = d → sv_T sm_XS sm_cs sm_L sm_sh (30 * (20 - (S 1023 0)) + 31).toNat (q_statementBody S) 68 0 (lv_args 0 [.ref 0]) [] S
def q_plain (S : sv_S) : Option Value → sv_S → Prop := fun v S' => ∃ r : Int, v = some (sv_I r) ∧ sv_R r ∧ sm_ok S' ∧ sv_mod [1020, 1021, 1022, 1023, 5, 1011, 3, 4, 1007, 1009, 11, 12, 13, 14, 1024, 15, 16, 1031, 1032, 17, 18, 19, 20, 21, 22, 23, 24, 25, 1042, 1043, 1044, 1045, 1100001, 1100002, 1100005, 1100003, 1100004, 1100018, 1100019, 1100016] S S' ∧ ((S 1020 0) ≤ (S' 1020 0) ∧ (S' 1020 0) < (S' 1012 0) ∧ 0 ≤ (S' 1021 0) ∧ (0 < (S 1021 0) → 0 < (S' 1021 0)) ∧ (S 1007 0) ≤ (S' 1007 0) ∧ (S' 1007 0) ≤ 90 ∧ sm_LN (S' 4) 400 (S' 1007 0) ∧ ((S 1009 0) = 1 → (S' 1009 0) = 1) ∧ ((S' 1021 0) = 0 → sm_WF (S' 11) (S' 12) (S' 13) (S' 1100001) (S' 1100002) (S' 1100005) (S' 1100003) (S' 1100004) (S' 1024 0) (S' 1007 0) (S' 1009 0) (sm_fn (S' 1032 0) (S' 21) (S' 1043 0)) ∧ sm_PX (S 11) (S 12) (S 13) (S 1100001) (S 1100002) (S 1100005) (S 1100003) (S 1100004) (S' 11) (S' 12) (S' 13) (S' 1100001) (S' 1100002) (S' 1100005) (S' 1100003) (S' 1100004) (S 1024 0) ∧ sm_FT (S' 11) (S' 12) (S' 13) (S' 1100019) (S' 17) (S' 18) (S' 21) (S' 19) (S' 20) (S' 22) (S' 1100016) (S' 1024 0) (S' 1007 0) (S' 1009 0) (S' 1032 0) (S' 1032 0) ∧ sm_WG (S' 1100001) (S' 1100019) (S' 1043 0) ∧ sm_F1 (S 1100019) (S' 1100019) (S 1024 0) ∧ sm_F1 (S 17) (S' 17) (S 1032 0) ∧ sm_F1 (S 18) (S' 18) (S 1032 0) ∧ sm_F1 (S 21) (S' 21) (S 1032 0) ∧ sm_F1 (S 20) (S' 20) (S 1032 0) ∧ sm_F1 (S 22) (S' 22) (S 1032 0) ∧ sm_F1 (S 1100016) (S' 1100016) (S 1032 0) ∧ sm_F1 (S 19) (S' 19) (8 * (S 1032 0)) ∧ sm_FN (S' 1100016) (S 1032 0) (S' 1032 0)) ∧ sm_KL (S 15) (S 16) (S' 15) (S' 16) (S 1031 0) ∧ sm_HD (S' 23) (S' 24) (S' 1100018 0) (S' 1007 0) ∧ sm_HD (S' 25) (fun _ : Int => (S' 1042 0)) 1 (S' 1007 0) ∧ (S' 1031 0) = (S 1031 0) ∧ (S' 1043 0) = (S 1043 0) ∧ (S' 1044 0) = (S 1044 0) ∧ (S' 1045 0) = (S 1045 0) ∧ (S 1032 0) ≤ (S' 1032 0) ∧ (S' 1032 0) ≤ 1 + (S' 1020 0) ∧ (S' 1100018 0) = (S' 1032 0) ∧ (S 1024 0) ≤ (S' 1024 0) ∧ ((S' 1021 0) = 0 → (S' 1023 0) = (S 1023 0) ∧ (S' 1024 0) + 0 ≤ (S 1024 0) + 2 * ((S' 1020 0) - (S 1020 0))) ∧ (0 < (S' 1021 0) → (S' 1024 0) ≤ (S 1024 0) + 2 * ((S' 1020 0) - (S 1020 0)) + 2 * (30 * (20 - (S 1023 0)) + 28)) ∧ -1 ≤ r ∧ r < 12000 ∧ ((S' 1021 0) = 0 → (S 1020 0) < (S' 1020 0) ∧ (S 1024 0) ≤ r ∧ sm_sx (S' 1100001) (S' 1100002) (S' 1100005) (S' 1100003) (S' 1100004) (S' 1024 0) 2 r (17 * (21 - (S 1023 0)) + 5) (21 - (S 1023 0)) (if 0 < (S 1044 0) then 1 else 0) (if 0 < (S 1044 0) + (S 1045 0) then 1 else 0) ∧ (S' 1100002 r) = (17 * (21 - (S 1023 0)) + 5) ∧ (S' 1100005 r) = (21 - (S 1023 0)) ∧ (S' 1100003 r) = (if 0 < (S 1044 0) then 1 else 0) ∧ (S' 1100004 r) = (if 0 < (S 1044 0) + (S 1045 0) then 1 else 0)))
def T_plain (d : Int) : Prop := ∀ (S : sv_S), sm_ok S → (0 ≤ (S 1020 0) ∧ (S 1020 0) < (S 1012 0) ∧ sm_TK (S 6) (S 8) (S 9) (S 10) (S 1012 0) ∧ 0 ≤ (S 1021 0) ∧ 0 ≤ (S 1004 0) ∧ (S 1004 0) ≤ 4000 ∧ 1 ≤ (S 1007 0) ∧ (S 1007 0) ≤ 90 ∧ sm_LN (S 4) 400 (S 1007 0) ∧ ((S 1021 0) = 0 → sm_WF (S 11) (S 12) (S 13) (S 1100001) (S 1100002) (S 1100005) (S 1100003) (S 1100004) (S 1024 0) (S 1007 0) (S 1009 0) (sm_fn (S 1032 0) (S 21) (S 1043 0)) ∧ sm_FT (S 11) (S 12) (S 13) (S 1100019) (S 17) (S 18) (S 21) (S 19) (S 20) (S 22) (S 1100016) (S 1024 0) (S 1007 0) (S 1009 0) (S 1032 0) (S 1032 0) ∧ sm_WG (S 1100001) (S 1100019) (S 1043 0) ∧ (S 1100016 (S 1043 0)) = 0) ∧ sm_HD (S 23) (S 24) (S 1100018 0) (S 1007 0) ∧ sm_HD (S 25) (fun _ : Int => (S 1042 0)) 1 (S 1007 0) ∧ 0 ≤ (S 1043 0) ∧ (S 1043 0) < (S 1100018 0) ∧ (S 1100018 0) = (S 1032 0) ∧ (S 1032 0) ≤ 1 + (S 1020 0) ∧ 0 ≤ (S 1031 0) ∧ (S 1031 0) ≤ 100 ∧ 0 ≤ (S 1044 0) ∧ (S 1044 0) ≤ 30 ∧ 0 ≤ (S 1045 0) ∧ (S 1045 0) ≤ 30 ∧ 0 ≤ (S 1024 0) ∧ ((S 1021 0) = 0 → 0 ≤ (S 1023 0) ∧ (S 1023 0) ≤ 20 ∧ (S 1031 0) ≤ 3 * (S 1023 0) + 5 ∧ (S 1024 0) ≤ 2 * (S 1020 0) ∧ (S 1044 0) ≤ (S 1023 0) ∧ (S 1045 0) ≤ (S 1023 0)) ∧ (S 1021 0) = 0 ∧ 1 ≤ (S 1023 0)) → (30 * (20 - (S 1023 0)) + 28) = d → sv_T sm_XS sm_cs sm_L sm_sh (30 * (20 - (S 1023 0)) + 28).toNat (q_plain S) 69 0 (lv_args 0 [.ref 0]) [] S
def q_block (S : sv_S) : Option Value → sv_S → Prop := fun v S' => ∃ r : Int, v = some (sv_I r) ∧ sv_R r ∧ sm_ok S' ∧ sv_mod [1020, 1021, 1022, 1023, 5, 1011, 3, 4, 1007, 1009, 11, 12, 13, 14, 1024, 15, 16, 1031, 1032, 17, 18, 19, 20, 21, 22, 23, 24, 25, 1042, 1043, 1044, 1045, 1100001, 1100002, 1100005, 1100003, 1100004, 1100018, 1100019, 1100016] S S' ∧ ((S 1020 0) ≤ (S' 1020 0) ∧ (S' 1020 0) < (S' 1012 0) ∧ 0 ≤ (S' 1021 0) ∧ (0 < (S 1021 0) → 0 < (S' 1021 0)) ∧ (S 1007 0) ≤ (S' 1007 0) ∧ (S' 1007 0) ≤ 90 ∧ sm_LN (S' 4) 400 (S' 1007 0) ∧ ((S 1009 0) = 1 → (S' 1009 0) = 1) ∧ ((S' 1021 0) = 0 → sm_WF (S' 11) (S' 12) (S' 13) (S' 1100001) (S' 1100002) (S' 1100005) (S' 1100003) (S' 1100004) (S' 1024 0) (S' 1007 0) (S' 1009 0) (sm_fn (S' 1032 0) (S' 21) (S' 1043 0)) ∧ sm_PX (S 11) (S 12) (S 13) (S 1100001) (S 1100002) (S 1100005) (S 1100003) (S 1100004) (S' 11) (S' 12) (S' 13) (S' 1100001) (S' 1100002) (S' 1100005) (S' 1100003) (S' 1100004) (S 1024 0) ∧ sm_FT (S' 11) (S' 12) (S' 13) (S' 1100019) (S' 17) (S' 18) (S' 21) (S' 19) (S' 20) (S' 22) (S' 1100016) (S' 1024 0) (S' 1007 0) (S' 1009 0) (S' 1032 0) (S' 1032 0) ∧ sm_WG (S' 1100001) (S' 1100019) (S' 1043 0) ∧ sm_F1 (S 1100019) (S' 1100019) (S 1024 0) ∧ sm_F1 (S 17) (S' 17) (S 1032 0) ∧ sm_F1 (S 18) (S' 18) (S 1032 0) ∧ sm_F1 (S 21) (S' 21) (S 1032 0) ∧ sm_F1 (S 20) (S' 20) (S 1032 0) ∧ sm_F1 (S 22) (S' 22) (S 1032 0) ∧ sm_F1 (S 1100016) (S' 1100016) (S 1032 0) ∧ sm_F1 (S 19) (S' 19) (8 * (S 1032 0)) ∧ sm_FN (S' 1100016) (S 1032 0) (S' 1032 0)) ∧ sm_KL (S 15) (S 16) (S' 15) (S' 16) (S 1031 0) ∧ sm_HD (S' 23) (S' 24) (S' 1100018 0) (S' 1007 0) ∧ sm_HD (S' 25) (fun _ : Int => (S' 1042 0)) 1 (S' 1007 0) ∧ (S' 1031 0) = (S 1031 0) ∧ (S' 1043 0) = (S 1043 0) ∧ (S' 1044 0) = (S 1044 0) ∧ (S' 1045 0) = (S 1045 0) ∧ (S 1032 0) ≤ (S' 1032 0) ∧ (S' 1032 0) ≤ 1 + (S' 1020 0) ∧ (S' 1100018 0) = (S' 1032 0) ∧ (S 1024 0) ≤ (S' 1024 0) ∧ ((S' 1021 0) = 0 → (S' 1023 0) = (S 1023 0) ∧ (S' 1024 0) + 2 ≤ (S 1024 0) + 2 * ((S' 1020 0) - (S 1020 0))) ∧ (0 < (S' 1021 0) → (S' 1024 0) ≤ (S 1024 0) + 2 * ((S' 1020 0) - (S 1020 0)) + 2 * ((if 0 < (S 1021 0) then 4 else 30 * (20 - (S 1023 0)) + 28))) ∧ -1 ≤ r ∧ r < 12000 ∧ ((S' 1021 0) = 0 → (S 1020 0) < (S' 1020 0) ∧ sm_sl (S' 1100001) (S' 1100002) (S' 1100005) (S' 1100003) (S' 1100004) (S' 1024 0) 2 r (17 * (20 - (S 1023 0)) + 5) (20 - (S 1023 0)) (if 0 < (S 1044 0) then 1 else 0) (if 0 < (S 1044 0) + (S 1045 0) then 1 else 0)))
def T_block (d : Int) : Prop := ∀ (S : sv_S), sm_ok S → (0 ≤ (S 1020 0) ∧ (S 1020 0) < (S 1012 0) ∧ sm_TK (S 6) (S 8) (S 9) (S 10) (S 1012 0) ∧ 0 ≤ (S 1021 0) ∧ 0 ≤ (S 1004 0) ∧ (S 1004 0) ≤ 4000 ∧ 1 ≤ (S 1007 0) ∧ (S 1007 0) ≤ 90 ∧ sm_LN (S 4) 400 (S 1007 0) ∧ ((S 1021 0) = 0 → sm_WF (S 11) (S 12) (S 13) (S 1100001) (S 1100002) (S 1100005) (S 1100003) (S 1100004) (S 1024 0) (S 1007 0) (S 1009 0) (sm_fn (S 1032 0) (S 21) (S 1043 0)) ∧ sm_FT (S 11) (S 12) (S 13) (S 1100019) (S 17) (S 18) (S 21) (S 19) (S 20) (S 22) (S 1100016) (S 1024 0) (S 1007 0) (S 1009 0) (S 1032 0) (S 1032 0) ∧ sm_WG (S 1100001) (S 1100019) (S 1043 0) ∧ (S 1100016 (S 1043 0)) = 0) ∧ sm_HD (S 23) (S 24) (S 1100018 0) (S 1007 0) ∧ sm_HD (S 25) (fun _ : Int => (S 1042 0)) 1 (S 1007 0) ∧ 0 ≤ (S 1043 0) ∧ (S 1043 0) < (S 1100018 0) ∧ (S 1100018 0) = (S 1032 0) ∧ (S 1032 0) ≤ 1 + (S 1020 0) ∧ 0 ≤ (S 1031 0) ∧ (S 1031 0) ≤ 100 ∧ 0 ≤ (S 1044 0) ∧ (S 1044 0) ≤ 30 ∧ 0 ≤ (S 1045 0) ∧ (S 1045 0) ≤ 30 ∧ 0 ≤ (S 1024 0) ∧ ((S 1021 0) = 0 → 0 ≤ (S 1023 0) ∧ (S 1023 0) ≤ 20 ∧ (S 1031 0) ≤ 3 * (S 1023 0) + 5 ∧ (S 1024 0) ≤ 2 * (S 1020 0) ∧ (S 1044 0) ≤ (S 1023 0) ∧ (S 1045 0) ≤ (S 1023 0)) ∧ (S 1031 0) ≤ 99 ∧ ((S 1021 0) = 0 → (S 1031 0) + 1 ≤ 3 * (S 1023 0) + 5)) → ((if 0 < (S 1021 0) then 4 else 30 * (20 - (S 1023 0)) + 28)) = d → sv_T sm_XS sm_cs sm_L sm_sh ((if 0 < (S 1021 0) then 4 else 30 * (20 - (S 1023 0)) + 28)).toNat (q_block S) 70 0 (lv_args 0 [.ref 0]) [] S
def q_declarations (p1 : Int) (S : sv_S) : Option Value → sv_S → Prop := fun v S' => ∃ r : Int, v = some (sv_I r) ∧ sv_R r ∧ sm_ok S' ∧ sv_mod [1020, 1021, 1022, 1023, 5, 1011, 3, 4, 1007, 1009, 11, 12, 13, 14, 1024, 15, 16, 1031, 1032, 17, 18, 19, 20, 21, 22, 23, 24, 25, 1042, 1043, 1044, 1045, 1100001, 1100002, 1100005, 1100003, 1100004, 1100018, 1100019, 1100016] S S' ∧ ((S 1020 0) ≤ (S' 1020 0) ∧ (S' 1020 0) < (S' 1012 0) ∧ 0 ≤ (S' 1021 0) ∧ (0 < (S 1021 0) → 0 < (S' 1021 0)) ∧ (S 1007 0) ≤ (S' 1007 0) ∧ (S' 1007 0) ≤ 90 ∧ sm_LN (S' 4) 400 (S' 1007 0) ∧ ((S 1009 0) = 1 → (S' 1009 0) = 1) ∧ ((S' 1021 0) = 0 → sm_WF (S' 11) (S' 12) (S' 13) (S' 1100001) (S' 1100002) (S' 1100005) (S' 1100003) (S' 1100004) (S' 1024 0) (S' 1007 0) (S' 1009 0) (sm_fn (S' 1032 0) (S' 21) (S' 1043 0)) ∧ sm_PX (S 11) (S 12) (S 13) (S 1100001) (S 1100002) (S 1100005) (S 1100003) (S 1100004) (S' 11) (S' 12) (S' 13) (S' 1100001) (S' 1100002) (S' 1100005) (S' 1100003) (S' 1100004) (S 1024 0) ∧ sm_FT (S' 11) (S' 12) (S' 13) (S' 1100019) (S' 17) (S' 18) (S' 21) (S' 19) (S' 20) (S' 22) (S' 1100016) (S' 1024 0) (S' 1007 0) (S' 1009 0) (S' 1032 0) (S' 1032 0) ∧ sm_WG (S' 1100001) (S' 1100019) (S' 1043 0) ∧ sm_F1 (S 1100019) (S' 1100019) (S 1024 0) ∧ sm_F1 (S 17) (S' 17) (S 1032 0) ∧ sm_F1 (S 18) (S' 18) (S 1032 0) ∧ sm_F1 (S 21) (S' 21) (S 1032 0) ∧ sm_F1 (S 20) (S' 20) (S 1032 0) ∧ sm_F1 (S 22) (S' 22) (S 1032 0) ∧ sm_F1 (S 1100016) (S' 1100016) (S 1032 0) ∧ sm_F1 (S 19) (S' 19) (8 * (S 1032 0)) ∧ sm_FN (S' 1100016) (S 1032 0) (S' 1032 0)) ∧ sm_KL (S 15) (S 16) (S' 15) (S' 16) (S 1031 0) ∧ sm_HD (S' 23) (S' 24) (S' 1100018 0) (S' 1007 0) ∧ sm_HD (S' 25) (fun _ : Int => (S' 1042 0)) 1 (S' 1007 0) ∧ (S' 1031 0) = (S 1031 0) ∧ (S' 1043 0) = (S 1043 0) ∧ (S' 1044 0) = (S 1044 0) ∧ (S' 1045 0) = (S 1045 0) ∧ (S 1032 0) ≤ (S' 1032 0) ∧ (S' 1032 0) ≤ 1 + (S' 1020 0) ∧ (S' 1100018 0) = (S' 1032 0) ∧ (S 1024 0) ≤ (S' 1024 0) ∧ ((S' 1021 0) = 0 → (S' 1023 0) = (S 1023 0) ∧ (S' 1024 0) + 2 ≤ (S 1024 0) + 2 * ((S' 1020 0) - (S 1020 0))) ∧ (0 < (S' 1021 0) → (S' 1024 0) ≤ (S 1024 0) + 2 * ((S' 1020 0) - (S 1020 0)) + 2 * (30 * (20 - (S 1023 0)) + 28)) ∧ 0 ≤ r ∧ r < (S' 1024 0) ∧ (S 1024 0) ≤ r ∧ r < 12000 ∧ ((S' 1021 0) = 0 → (S 1020 0) < (S' 1020 0) ∧ (S' 1100001 r) = 0 ∧ (S' 1100019 r) = (S' 1043 0) ∧ (S' 11 r) = 21 ∧ (S' 13 r) = -1 ∧ sm_li (S' 1100001) (S' 1100002) (S' 1100005) (S' 1024 0) 5 ((S' 12 (5 * r))) (17 * (20 - (S 1023 0))) (20 - (S 1023 0))))
def T_declarations (d : Int) : Prop := ∀ (p1 : Int) (S : sv_S), sm_ok S → (0 ≤ p1 ∧ p1 ≤ 1) → (0 ≤ (S 1020 0) ∧ (S 1020 0) < (S 1012 0) ∧ sm_TK (S 6) (S 8) (S 9) (S 10) (S 1012 0) ∧ 0 ≤ (S 1021 0) ∧ 0 ≤ (S 1004 0) ∧ (S 1004 0) ≤ 4000 ∧ 1 ≤ (S 1007 0) ∧ (S 1007 0) ≤ 90 ∧ sm_LN (S 4) 400 (S 1007 0) ∧ ((S 1021 0) = 0 → sm_WF (S 11) (S 12) (S 13) (S 1100001) (S 1100002) (S 1100005) (S 1100003) (S 1100004) (S 1024 0) (S 1007 0) (S 1009 0) (sm_fn (S 1032 0) (S 21) (S 1043 0)) ∧ sm_FT (S 11) (S 12) (S 13) (S 1100019) (S 17) (S 18) (S 21) (S 19) (S 20) (S 22) (S 1100016) (S 1024 0) (S 1007 0) (S 1009 0) (S 1032 0) (S 1032 0) ∧ sm_WG (S 1100001) (S 1100019) (S 1043 0) ∧ (S 1100016 (S 1043 0)) = 0) ∧ sm_HD (S 23) (S 24) (S 1100018 0) (S 1007 0) ∧ sm_HD (S 25) (fun _ : Int => (S 1042 0)) 1 (S 1007 0) ∧ 0 ≤ (S 1043 0) ∧ (S 1043 0) < (S 1100018 0) ∧ (S 1100018 0) = (S 1032 0) ∧ (S 1032 0) ≤ 1 + (S 1020 0) ∧ 0 ≤ (S 1031 0) ∧ (S 1031 0) ≤ 100 ∧ 0 ≤ (S 1044 0) ∧ (S 1044 0) ≤ 30 ∧ 0 ≤ (S 1045 0) ∧ (S 1045 0) ≤ 30 ∧ 0 ≤ (S 1024 0) ∧ ((S 1021 0) = 0 → 0 ≤ (S 1023 0) ∧ (S 1023 0) ≤ 20 ∧ (S 1031 0) ≤ 3 * (S 1023 0) + 5 ∧ (S 1024 0) ≤ 2 * (S 1020 0) ∧ (S 1044 0) ≤ (S 1023 0) ∧ (S 1045 0) ≤ (S 1023 0)) ∧ (S 1021 0) = 0 ∧ (S 1031 0) + 1 ≤ 3 * (S 1023 0) + 5 ∧ 1 ≤ (S 6 (S 1020 0)) ∧ (S 6 (S 1020 0)) ≤ 5) → (30 * (20 - (S 1023 0)) + 28) = d → sv_T sm_XS sm_cs sm_L sm_sh (30 * (20 - (S 1023 0)) + 28).toNat (q_declarations p1 S) 71 0 (lv_args 0 [.ref 0, sv_I p1]) [] S
def q_condition (S : sv_S) : Option Value → sv_S → Prop := fun v S' => ∃ r : Int, v = some (sv_I r) ∧ sv_R r ∧ sm_ok S' ∧ sv_mod [1020, 1021, 1022, 1023, 5, 1011, 3, 4, 1007, 1009, 11, 12, 13, 14, 1024, 15, 16, 1031, 1032, 17, 18, 19, 20, 21, 22, 23, 24, 25, 1042, 1043, 1044, 1045, 1100001, 1100002, 1100005, 1100003, 1100004, 1100018, 1100019, 1100016] S S' ∧ ((S 1020 0) ≤ (S' 1020 0) ∧ (S' 1020 0) < (S' 1012 0) ∧ 0 ≤ (S' 1021 0) ∧ (0 < (S 1021 0) → 0 < (S' 1021 0)) ∧ (S 1007 0) ≤ (S' 1007 0) ∧ (S' 1007 0) ≤ 90 ∧ sm_LN (S' 4) 400 (S' 1007 0) ∧ ((S 1009 0) = 1 → (S' 1009 0) = 1) ∧ ((S' 1021 0) = 0 → sm_WF (S' 11) (S' 12) (S' 13) (S' 1100001) (S' 1100002) (S' 1100005) (S' 1100003) (S' 1100004) (S' 1024 0) (S' 1007 0) (S' 1009 0) (sm_fn (S' 1032 0) (S' 21) (S' 1043 0)) ∧ sm_PX (S 11) (S 12) (S 13) (S 1100001) (S 1100002) (S 1100005) (S 1100003) (S 1100004) (S' 11) (S' 12) (S' 13) (S' 1100001) (S' 1100002) (S' 1100005) (S' 1100003) (S' 1100004) (S 1024 0) ∧ sm_FT (S' 11) (S' 12) (S' 13) (S' 1100019) (S' 17) (S' 18) (S' 21) (S' 19) (S' 20) (S' 22) (S' 1100016) (S' 1024 0) (S' 1007 0) (S' 1009 0) (S' 1032 0) (S' 1032 0) ∧ sm_WG (S' 1100001) (S' 1100019) (S' 1043 0) ∧ sm_F1 (S 1100019) (S' 1100019) (S 1024 0) ∧ sm_F1 (S 17) (S' 17) (S 1032 0) ∧ sm_F1 (S 18) (S' 18) (S 1032 0) ∧ sm_F1 (S 21) (S' 21) (S 1032 0) ∧ sm_F1 (S 20) (S' 20) (S 1032 0) ∧ sm_F1 (S 22) (S' 22) (S 1032 0) ∧ sm_F1 (S 1100016) (S' 1100016) (S 1032 0) ∧ sm_F1 (S 19) (S' 19) (8 * (S 1032 0)) ∧ sm_FN (S' 1100016) (S 1032 0) (S' 1032 0)) ∧ sm_KL (S 15) (S 16) (S' 15) (S' 16) (S 1031 0) ∧ sm_HD (S' 23) (S' 24) (S' 1100018 0) (S' 1007 0) ∧ sm_HD (S' 25) (fun _ : Int => (S' 1042 0)) 1 (S' 1007 0) ∧ (S' 1031 0) = (S 1031 0) ∧ (S' 1043 0) = (S 1043 0) ∧ (S' 1044 0) = (S 1044 0) ∧ (S' 1045 0) = (S 1045 0) ∧ (S 1032 0) ≤ (S' 1032 0) ∧ (S' 1032 0) ≤ 1 + (S' 1020 0) ∧ (S' 1100018 0) = (S' 1032 0) ∧ (S 1024 0) ≤ (S' 1024 0) ∧ ((S' 1021 0) = 0 → (S' 1023 0) = (S 1023 0) ∧ (S' 1024 0) + 1 ≤ (S 1024 0) + 2 * ((S' 1020 0) - (S 1020 0))) ∧ (0 < (S' 1021 0) → (S' 1024 0) ≤ (S 1024 0) + 2 * ((S' 1020 0) - (S 1020 0)) + 2 * (30 * (20 - (S 1023 0)) + 27)) ∧ -1 ≤ r ∧ r < 12000 ∧ ((S' 1021 0) = 0 → (S 1020 0) < (S' 1020 0) ∧ sm_ex (S' 1100001) (S' 1100002) (S' 1100005) (S' 1024 0) 1 r (17 * (20 - (S 1023 0)) + 17) (20 - (S 1023 0))))
def T_condition (d : Int) : Prop := ∀ (S : sv_S), sm_ok S → (0 ≤ (S 1020 0) ∧ (S 1020 0) < (S 1012 0) ∧ sm_TK (S 6) (S 8) (S 9) (S 10) (S 1012 0) ∧ 0 ≤ (S 1021 0) ∧ 0 ≤ (S 1004 0) ∧ (S 1004 0) ≤ 4000 ∧ 1 ≤ (S 1007 0) ∧ (S 1007 0) ≤ 90 ∧ sm_LN (S 4) 400 (S 1007 0) ∧ ((S 1021 0) = 0 → sm_WF (S 11) (S 12) (S 13) (S 1100001) (S 1100002) (S 1100005) (S 1100003) (S 1100004) (S 1024 0) (S 1007 0) (S 1009 0) (sm_fn (S 1032 0) (S 21) (S 1043 0)) ∧ sm_FT (S 11) (S 12) (S 13) (S 1100019) (S 17) (S 18) (S 21) (S 19) (S 20) (S 22) (S 1100016) (S 1024 0) (S 1007 0) (S 1009 0) (S 1032 0) (S 1032 0) ∧ sm_WG (S 1100001) (S 1100019) (S 1043 0) ∧ (S 1100016 (S 1043 0)) = 0) ∧ sm_HD (S 23) (S 24) (S 1100018 0) (S 1007 0) ∧ sm_HD (S 25) (fun _ : Int => (S 1042 0)) 1 (S 1007 0) ∧ 0 ≤ (S 1043 0) ∧ (S 1043 0) < (S 1100018 0) ∧ (S 1100018 0) = (S 1032 0) ∧ (S 1032 0) ≤ 1 + (S 1020 0) ∧ 0 ≤ (S 1031 0) ∧ (S 1031 0) ≤ 100 ∧ 0 ≤ (S 1044 0) ∧ (S 1044 0) ≤ 30 ∧ 0 ≤ (S 1045 0) ∧ (S 1045 0) ≤ 30 ∧ 0 ≤ (S 1024 0) ∧ ((S 1021 0) = 0 → 0 ≤ (S 1023 0) ∧ (S 1023 0) ≤ 20 ∧ (S 1031 0) ≤ 3 * (S 1023 0) + 5 ∧ (S 1024 0) ≤ 2 * (S 1020 0) ∧ (S 1044 0) ≤ (S 1023 0) ∧ (S 1045 0) ≤ (S 1023 0)) ∧ (S 1021 0) = 0) → (30 * (20 - (S 1023 0)) + 27) = d → sv_T sm_XS sm_cs sm_L sm_sh (30 * (20 - (S 1023 0)) + 27).toNat (q_condition S) 72 0 (lv_args 0 [.ref 0]) [] S
def q_looped (S : sv_S) : Option Value → sv_S → Prop := fun v S' => ∃ r : Int, v = some (sv_I r) ∧ sv_R r ∧ sm_ok S' ∧ sv_mod [1020, 1021, 1022, 1023, 5, 1011, 3, 4, 1007, 1009, 11, 12, 13, 14, 1024, 15, 16, 1031, 1032, 17, 18, 19, 20, 21, 22, 23, 24, 25, 1042, 1043, 1044, 1045, 1100001, 1100002, 1100005, 1100003, 1100004, 1100018, 1100019, 1100016] S S' ∧ ((S 1020 0) ≤ (S' 1020 0) ∧ (S' 1020 0) < (S' 1012 0) ∧ 0 ≤ (S' 1021 0) ∧ (0 < (S 1021 0) → 0 < (S' 1021 0)) ∧ (S 1007 0) ≤ (S' 1007 0) ∧ (S' 1007 0) ≤ 90 ∧ sm_LN (S' 4) 400 (S' 1007 0) ∧ ((S 1009 0) = 1 → (S' 1009 0) = 1) ∧ ((S' 1021 0) = 0 → sm_WF (S' 11) (S' 12) (S' 13) (S' 1100001) (S' 1100002) (S' 1100005) (S' 1100003) (S' 1100004) (S' 1024 0) (S' 1007 0) (S' 1009 0) (sm_fn (S' 1032 0) (S' 21) (S' 1043 0)) ∧ sm_PX (S 11) (S 12) (S 13) (S 1100001) (S 1100002) (S 1100005) (S 1100003) (S 1100004) (S' 11) (S' 12) (S' 13) (S' 1100001) (S' 1100002) (S' 1100005) (S' 1100003) (S' 1100004) (S 1024 0) ∧ sm_FT (S' 11) (S' 12) (S' 13) (S' 1100019) (S' 17) (S' 18) (S' 21) (S' 19) (S' 20) (S' 22) (S' 1100016) (S' 1024 0) (S' 1007 0) (S' 1009 0) (S' 1032 0) (S' 1032 0) ∧ sm_WG (S' 1100001) (S' 1100019) (S' 1043 0) ∧ sm_F1 (S 1100019) (S' 1100019) (S 1024 0) ∧ sm_F1 (S 17) (S' 17) (S 1032 0) ∧ sm_F1 (S 18) (S' 18) (S 1032 0) ∧ sm_F1 (S 21) (S' 21) (S 1032 0) ∧ sm_F1 (S 20) (S' 20) (S 1032 0) ∧ sm_F1 (S 22) (S' 22) (S 1032 0) ∧ sm_F1 (S 1100016) (S' 1100016) (S 1032 0) ∧ sm_F1 (S 19) (S' 19) (8 * (S 1032 0)) ∧ sm_FN (S' 1100016) (S 1032 0) (S' 1032 0)) ∧ sm_KL (S 15) (S 16) (S' 15) (S' 16) (S 1031 0) ∧ sm_HD (S' 23) (S' 24) (S' 1100018 0) (S' 1007 0) ∧ sm_HD (S' 25) (fun _ : Int => (S' 1042 0)) 1 (S' 1007 0) ∧ (S' 1031 0) = (S 1031 0) ∧ (S' 1043 0) = (S 1043 0) ∧ (S' 1044 0) = (S 1044 0) ∧ (S' 1045 0) = (S 1045 0) ∧ (S 1032 0) ≤ (S' 1032 0) ∧ (S' 1032 0) ≤ 1 + (S' 1020 0) ∧ (S' 1100018 0) = (S' 1032 0) ∧ (S 1024 0) ≤ (S' 1024 0) ∧ ((S' 1021 0) = 0 → (S' 1023 0) = (S 1023 0) ∧ (S' 1024 0) + 0 ≤ (S 1024 0) + 2 * ((S' 1020 0) - (S 1020 0))) ∧ (0 < (S' 1021 0) → (S' 1024 0) ≤ (S 1024 0) + 2 * ((S' 1020 0) - (S 1020 0)) + 2 * ((if 0 < (S 1021 0) then 3 else 30 * (20 - (S 1023 0)) + 28))) ∧ -1 ≤ r ∧ r < 12000 ∧ ((S' 1021 0) = 0 → (S 1020 0) < (S' 1020 0) ∧ sm_sx (S' 1100001) (S' 1100002) (S' 1100005) (S' 1100003) (S' 1100004) (S' 1024 0) 2 r (17 * (20 - (S 1023 0)) + 5) (20 - (S 1023 0)) 1 1) ∧ (0 < (S 1021 0) → (S' 1020 0) = (S 1020 0) ∧ (S' 1024 0) = (S 1024 0)))
def T_looped (d : Int) : Prop := ∀ (S : sv_S), sm_ok S → (0 ≤ (S 1020 0) ∧ (S 1020 0) < (S 1012 0) ∧ sm_TK (S 6) (S 8) (S 9) (S 10) (S 1012 0) ∧ 0 ≤ (S 1021 0) ∧ 0 ≤ (S 1004 0) ∧ (S 1004 0) ≤ 4000 ∧ 1 ≤ (S 1007 0) ∧ (S 1007 0) ≤ 90 ∧ sm_LN (S 4) 400 (S 1007 0) ∧ ((S 1021 0) = 0 → sm_WF (S 11) (S 12) (S 13) (S 1100001) (S 1100002) (S 1100005) (S 1100003) (S 1100004) (S 1024 0) (S 1007 0) (S 1009 0) (sm_fn (S 1032 0) (S 21) (S 1043 0)) ∧ sm_FT (S 11) (S 12) (S 13) (S 1100019) (S 17) (S 18) (S 21) (S 19) (S 20) (S 22) (S 1100016) (S 1024 0) (S 1007 0) (S 1009 0) (S 1032 0) (S 1032 0) ∧ sm_WG (S 1100001) (S 1100019) (S 1043 0) ∧ (S 1100016 (S 1043 0)) = 0) ∧ sm_HD (S 23) (S 24) (S 1100018 0) (S 1007 0) ∧ sm_HD (S 25) (fun _ : Int => (S 1042 0)) 1 (S 1007 0) ∧ 0 ≤ (S 1043 0) ∧ (S 1043 0) < (S 1100018 0) ∧ (S 1100018 0) = (S 1032 0) ∧ (S 1032 0) ≤ 1 + (S 1020 0) ∧ 0 ≤ (S 1031 0) ∧ (S 1031 0) ≤ 100 ∧ 0 ≤ (S 1044 0) ∧ (S 1044 0) ≤ 30 ∧ 0 ≤ (S 1045 0) ∧ (S 1045 0) ≤ 30 ∧ 0 ≤ (S 1024 0) ∧ ((S 1021 0) = 0 → 0 ≤ (S 1023 0) ∧ (S 1023 0) ≤ 20 ∧ (S 1031 0) ≤ 3 * (S 1023 0) + 5 ∧ (S 1024 0) ≤ 2 * (S 1020 0) ∧ (S 1044 0) ≤ (S 1023 0) ∧ (S 1045 0) ≤ (S 1023 0)) ∧ (S 1044 0) ≤ 29 ∧ ((S 1021 0) = 0 → (S 1044 0) + 1 ≤ (S 1023 0))) → ((if 0 < (S 1021 0) then 3 else 30 * (20 - (S 1023 0)) + 28)) = d → sv_T sm_XS sm_cs sm_L sm_sh ((if 0 < (S 1021 0) then 3 else 30 * (20 - (S 1023 0)) + 28)).toNat (q_looped S) 73 0 (lv_args 0 [.ref 0]) [] S
def q_whether (S : sv_S) : Option Value → sv_S → Prop := fun v S' => ∃ r : Int, v = some (sv_I r) ∧ sv_R r ∧ sm_ok S' ∧ sv_mod [1020, 1021, 1022, 1023, 5, 1011, 3, 4, 1007, 1009, 11, 12, 13, 14, 1024, 15, 16, 1031, 1032, 17, 18, 19, 20, 21, 22, 23, 24, 25, 1042, 1043, 1044, 1045, 1100001, 1100002, 1100005, 1100003, 1100004, 1100018, 1100019, 1100016] S S' ∧ ((S 1020 0) ≤ (S' 1020 0) ∧ (S' 1020 0) < (S' 1012 0) ∧ 0 ≤ (S' 1021 0) ∧ (0 < (S 1021 0) → 0 < (S' 1021 0)) ∧ (S 1007 0) ≤ (S' 1007 0) ∧ (S' 1007 0) ≤ 90 ∧ sm_LN (S' 4) 400 (S' 1007 0) ∧ ((S 1009 0) = 1 → (S' 1009 0) = 1) ∧ ((S' 1021 0) = 0 → sm_WF (S' 11) (S' 12) (S' 13) (S' 1100001) (S' 1100002) (S' 1100005) (S' 1100003) (S' 1100004) (S' 1024 0) (S' 1007 0) (S' 1009 0) (sm_fn (S' 1032 0) (S' 21) (S' 1043 0)) ∧ sm_PX (S 11) (S 12) (S 13) (S 1100001) (S 1100002) (S 1100005) (S 1100003) (S 1100004) (S' 11) (S' 12) (S' 13) (S' 1100001) (S' 1100002) (S' 1100005) (S' 1100003) (S' 1100004) (S 1024 0) ∧ sm_FT (S' 11) (S' 12) (S' 13) (S' 1100019) (S' 17) (S' 18) (S' 21) (S' 19) (S' 20) (S' 22) (S' 1100016) (S' 1024 0) (S' 1007 0) (S' 1009 0) (S' 1032 0) (S' 1032 0) ∧ sm_WG (S' 1100001) (S' 1100019) (S' 1043 0) ∧ sm_F1 (S 1100019) (S' 1100019) (S 1024 0) ∧ sm_F1 (S 17) (S' 17) (S 1032 0) ∧ sm_F1 (S 18) (S' 18) (S 1032 0) ∧ sm_F1 (S 21) (S' 21) (S 1032 0) ∧ sm_F1 (S 20) (S' 20) (S 1032 0) ∧ sm_F1 (S 22) (S' 22) (S 1032 0) ∧ sm_F1 (S 1100016) (S' 1100016) (S 1032 0) ∧ sm_F1 (S 19) (S' 19) (8 * (S 1032 0)) ∧ sm_FN (S' 1100016) (S 1032 0) (S' 1032 0)) ∧ sm_KL (S 15) (S 16) (S' 15) (S' 16) (S 1031 0) ∧ sm_HD (S' 23) (S' 24) (S' 1100018 0) (S' 1007 0) ∧ sm_HD (S' 25) (fun _ : Int => (S' 1042 0)) 1 (S' 1007 0) ∧ (S' 1031 0) = (S 1031 0) ∧ (S' 1043 0) = (S 1043 0) ∧ (S' 1044 0) = (S 1044 0) ∧ (S' 1045 0) = (S 1045 0) ∧ (S 1032 0) ≤ (S' 1032 0) ∧ (S' 1032 0) ≤ 1 + (S' 1020 0) ∧ (S' 1100018 0) = (S' 1032 0) ∧ (S 1024 0) ≤ (S' 1024 0) ∧ ((S' 1021 0) = 0 → (S' 1023 0) = (S 1023 0) ∧ (S' 1024 0) + 0 ≤ (S 1024 0) + 2 * ((S' 1020 0) - (S 1020 0))) ∧ (0 < (S' 1021 0) → (S' 1024 0) ≤ (S 1024 0) + 2 * ((S' 1020 0) - (S 1020 0)) + 2 * (30 * (20 - (S 1023 0)) + 29)) ∧ -1 ≤ r ∧ r < 12000 ∧ ((S' 1021 0) = 0 → (S 1020 0) < (S' 1020 0) ∧ (S 1024 0) ≤ r ∧ sm_sx (S' 1100001) (S' 1100002) (S' 1100005) (S' 1100003) (S' 1100004) (S' 1024 0) 2 r (17 * (21 - (S 1023 0)) + 5) (21 - (S 1023 0)) (if 0 < (S 1044 0) then 1 else 0) (if 0 < (S 1044 0) + (S 1045 0) then 1 else 0) ∧ (S' 1100002 r) = (17 * (21 - (S 1023 0)) + 5) ∧ (S' 1100005 r) = (21 - (S 1023 0)) ∧ (S' 1100003 r) = (if 0 < (S 1044 0) then 1 else 0) ∧ (S' 1100004 r) = (if 0 < (S 1044 0) + (S 1045 0) then 1 else 0)))
def T_whether (d : Int) : Prop := ∀ (S : sv_S), sm_ok S → (0 ≤ (S 1020 0) ∧ (S 1020 0) < (S 1012 0) ∧ sm_TK (S 6) (S 8) (S 9) (S 10) (S 1012 0) ∧ 0 ≤ (S 1021 0) ∧ 0 ≤ (S 1004 0) ∧ (S 1004 0) ≤ 4000 ∧ 1 ≤ (S 1007 0) ∧ (S 1007 0) ≤ 90 ∧ sm_LN (S 4) 400 (S 1007 0) ∧ ((S 1021 0) = 0 → sm_WF (S 11) (S 12) (S 13) (S 1100001) (S 1100002) (S 1100005) (S 1100003) (S 1100004) (S 1024 0) (S 1007 0) (S 1009 0) (sm_fn (S 1032 0) (S 21) (S 1043 0)) ∧ sm_FT (S 11) (S 12) (S 13) (S 1100019) (S 17) (S 18) (S 21) (S 19) (S 20) (S 22) (S 1100016) (S 1024 0) (S 1007 0) (S 1009 0) (S 1032 0) (S 1032 0) ∧ sm_WG (S 1100001) (S 1100019) (S 1043 0) ∧ (S 1100016 (S 1043 0)) = 0) ∧ sm_HD (S 23) (S 24) (S 1100018 0) (S 1007 0) ∧ sm_HD (S 25) (fun _ : Int => (S 1042 0)) 1 (S 1007 0) ∧ 0 ≤ (S 1043 0) ∧ (S 1043 0) < (S 1100018 0) ∧ (S 1100018 0) = (S 1032 0) ∧ (S 1032 0) ≤ 1 + (S 1020 0) ∧ 0 ≤ (S 1031 0) ∧ (S 1031 0) ≤ 100 ∧ 0 ≤ (S 1044 0) ∧ (S 1044 0) ≤ 30 ∧ 0 ≤ (S 1045 0) ∧ (S 1045 0) ≤ 30 ∧ 0 ≤ (S 1024 0) ∧ ((S 1021 0) = 0 → 0 ≤ (S 1023 0) ∧ (S 1023 0) ≤ 20 ∧ (S 1031 0) ≤ 3 * (S 1023 0) + 5 ∧ (S 1024 0) ≤ 2 * (S 1020 0) ∧ (S 1044 0) ≤ (S 1023 0) ∧ (S 1045 0) ≤ (S 1023 0)) ∧ (S 1021 0) = 0 ∧ 1 ≤ (S 1023 0) ∧ (S 1044 0) + 1 ≤ (S 1023 0) ∧ (S 1045 0) + 1 ≤ (S 1023 0) ∧ (S 1031 0) ≤ 3 * (S 1023 0) + 2 ∧ 1 ≤ (S 6 (S 1020 0)) ∧ (S 6 (S 1020 0)) ≤ 5) → (30 * (20 - (S 1023 0)) + 29) = d → sv_T sm_XS sm_cs sm_L sm_sh (30 * (20 - (S 1023 0)) + 29).toNat (q_whether S) 74 0 (lv_args 0 [.ref 0]) [] S
def q_until (S : sv_S) : Option Value → sv_S → Prop := fun v S' => ∃ r : Int, v = some (sv_I r) ∧ sv_R r ∧ sm_ok S' ∧ sv_mod [1020, 1021, 1022, 1023, 5, 1011, 3, 4, 1007, 1009, 11, 12, 13, 14, 1024, 15, 16, 1031, 1032, 17, 18, 19, 20, 21, 22, 23, 24, 25, 1042, 1043, 1044, 1045, 1100001, 1100002, 1100005, 1100003, 1100004, 1100018, 1100019, 1100016] S S' ∧ ((S 1020 0) ≤ (S' 1020 0) ∧ (S' 1020 0) < (S' 1012 0) ∧ 0 ≤ (S' 1021 0) ∧ (0 < (S 1021 0) → 0 < (S' 1021 0)) ∧ (S 1007 0) ≤ (S' 1007 0) ∧ (S' 1007 0) ≤ 90 ∧ sm_LN (S' 4) 400 (S' 1007 0) ∧ ((S 1009 0) = 1 → (S' 1009 0) = 1) ∧ ((S' 1021 0) = 0 → sm_WF (S' 11) (S' 12) (S' 13) (S' 1100001) (S' 1100002) (S' 1100005) (S' 1100003) (S' 1100004) (S' 1024 0) (S' 1007 0) (S' 1009 0) (sm_fn (S' 1032 0) (S' 21) (S' 1043 0)) ∧ sm_PX (S 11) (S 12) (S 13) (S 1100001) (S 1100002) (S 1100005) (S 1100003) (S 1100004) (S' 11) (S' 12) (S' 13) (S' 1100001) (S' 1100002) (S' 1100005) (S' 1100003) (S' 1100004) (S 1024 0) ∧ sm_FT (S' 11) (S' 12) (S' 13) (S' 1100019) (S' 17) (S' 18) (S' 21) (S' 19) (S' 20) (S' 22) (S' 1100016) (S' 1024 0) (S' 1007 0) (S' 1009 0) (S' 1032 0) (S' 1032 0) ∧ sm_WG (S' 1100001) (S' 1100019) (S' 1043 0) ∧ sm_F1 (S 1100019) (S' 1100019) (S 1024 0) ∧ sm_F1 (S 17) (S' 17) (S 1032 0) ∧ sm_F1 (S 18) (S' 18) (S 1032 0) ∧ sm_F1 (S 21) (S' 21) (S 1032 0) ∧ sm_F1 (S 20) (S' 20) (S 1032 0) ∧ sm_F1 (S 22) (S' 22) (S 1032 0) ∧ sm_F1 (S 1100016) (S' 1100016) (S 1032 0) ∧ sm_F1 (S 19) (S' 19) (8 * (S 1032 0)) ∧ sm_FN (S' 1100016) (S 1032 0) (S' 1032 0)) ∧ sm_KL (S 15) (S 16) (S' 15) (S' 16) (S 1031 0) ∧ sm_HD (S' 23) (S' 24) (S' 1100018 0) (S' 1007 0) ∧ sm_HD (S' 25) (fun _ : Int => (S' 1042 0)) 1 (S' 1007 0) ∧ (S' 1031 0) = (S 1031 0) ∧ (S' 1043 0) = (S 1043 0) ∧ (S' 1044 0) = (S 1044 0) ∧ (S' 1045 0) = (S 1045 0) ∧ (S 1032 0) ≤ (S' 1032 0) ∧ (S' 1032 0) ≤ 1 + (S' 1020 0) ∧ (S' 1100018 0) = (S' 1032 0) ∧ (S 1024 0) ≤ (S' 1024 0) ∧ ((S' 1021 0) = 0 → (S' 1023 0) = (S 1023 0) ∧ (S' 1024 0) + 0 ≤ (S 1024 0) + 2 * ((S' 1020 0) - (S 1020 0))) ∧ (0 < (S' 1021 0) → (S' 1024 0) ≤ (S 1024 0) + 2 * ((S' 1020 0) - (S 1020 0)) + 2 * (30 * (20 - (S 1023 0)) + 29)) ∧ -1 ≤ r ∧ r < 12000 ∧ ((S' 1021 0) = 0 → (S 1020 0) < (S' 1020 0) ∧ (S 1024 0) ≤ r ∧ sm_sx (S' 1100001) (S' 1100002) (S' 1100005) (S' 1100003) (S' 1100004) (S' 1024 0) 2 r (17 * (21 - (S 1023 0)) + 5) (21 - (S 1023 0)) (if 0 < (S 1044 0) then 1 else 0) (if 0 < (S 1044 0) + (S 1045 0) then 1 else 0) ∧ (S' 1100002 r) = (17 * (21 - (S 1023 0)) + 5) ∧ (S' 1100005 r) = (21 - (S 1023 0)) ∧ (S' 1100003 r) = (if 0 < (S 1044 0) then 1 else 0) ∧ (S' 1100004 r) = (if 0 < (S 1044 0) + (S 1045 0) then 1 else 0)))
def T_until (d : Int) : Prop := ∀ (S : sv_S), sm_ok S → (0 ≤ (S 1020 0) ∧ (S 1020 0) < (S 1012 0) ∧ sm_TK (S 6) (S 8) (S 9) (S 10) (S 1012 0) ∧ 0 ≤ (S 1021 0) ∧ 0 ≤ (S 1004 0) ∧ (S 1004 0) ≤ 4000 ∧ 1 ≤ (S 1007 0) ∧ (S 1007 0) ≤ 90 ∧ sm_LN (S 4) 400 (S 1007 0) ∧ ((S 1021 0) = 0 → sm_WF (S 11) (S 12) (S 13) (S 1100001) (S 1100002) (S 1100005) (S 1100003) (S 1100004) (S 1024 0) (S 1007 0) (S 1009 0) (sm_fn (S 1032 0) (S 21) (S 1043 0)) ∧ sm_FT (S 11) (S 12) (S 13) (S 1100019) (S 17) (S 18) (S 21) (S 19) (S 20) (S 22) (S 1100016) (S 1024 0) (S 1007 0) (S 1009 0) (S 1032 0) (S 1032 0) ∧ sm_WG (S 1100001) (S 1100019) (S 1043 0) ∧ (S 1100016 (S 1043 0)) = 0) ∧ sm_HD (S 23) (S 24) (S 1100018 0) (S 1007 0) ∧ sm_HD (S 25) (fun _ : Int => (S 1042 0)) 1 (S 1007 0) ∧ 0 ≤ (S 1043 0) ∧ (S 1043 0) < (S 1100018 0) ∧ (S 1100018 0) = (S 1032 0) ∧ (S 1032 0) ≤ 1 + (S 1020 0) ∧ 0 ≤ (S 1031 0) ∧ (S 1031 0) ≤ 100 ∧ 0 ≤ (S 1044 0) ∧ (S 1044 0) ≤ 30 ∧ 0 ≤ (S 1045 0) ∧ (S 1045 0) ≤ 30 ∧ 0 ≤ (S 1024 0) ∧ ((S 1021 0) = 0 → 0 ≤ (S 1023 0) ∧ (S 1023 0) ≤ 20 ∧ (S 1031 0) ≤ 3 * (S 1023 0) + 5 ∧ (S 1024 0) ≤ 2 * (S 1020 0) ∧ (S 1044 0) ≤ (S 1023 0) ∧ (S 1045 0) ≤ (S 1023 0)) ∧ (S 1021 0) = 0 ∧ 1 ≤ (S 1023 0) ∧ (S 1044 0) + 1 ≤ (S 1023 0) ∧ (S 1045 0) + 1 ≤ (S 1023 0) ∧ (S 1031 0) ≤ 3 * (S 1023 0) + 2 ∧ 1 ≤ (S 6 (S 1020 0)) ∧ (S 6 (S 1020 0)) ≤ 5) → (30 * (20 - (S 1023 0)) + 29) = d → sv_T sm_XS sm_cs sm_L sm_sh (30 * (20 - (S 1023 0)) + 29).toNat (q_until S) 75 0 (lv_args 0 [.ref 0]) [] S
def q_counted (S : sv_S) : Option Value → sv_S → Prop := fun v S' => ∃ r : Int, v = some (sv_I r) ∧ sv_R r ∧ sm_ok S' ∧ sv_mod [1020, 1021, 1022, 1023, 5, 1011, 3, 4, 1007, 1009, 11, 12, 13, 14, 1024, 15, 16, 1031, 1032, 17, 18, 19, 20, 21, 22, 23, 24, 25, 1042, 1043, 1044, 1045, 1100001, 1100002, 1100005, 1100003, 1100004, 1100018, 1100019, 1100016] S S' ∧ ((S 1020 0) ≤ (S' 1020 0) ∧ (S' 1020 0) < (S' 1012 0) ∧ 0 ≤ (S' 1021 0) ∧ (0 < (S 1021 0) → 0 < (S' 1021 0)) ∧ (S 1007 0) ≤ (S' 1007 0) ∧ (S' 1007 0) ≤ 90 ∧ sm_LN (S' 4) 400 (S' 1007 0) ∧ ((S 1009 0) = 1 → (S' 1009 0) = 1) ∧ ((S' 1021 0) = 0 → sm_WF (S' 11) (S' 12) (S' 13) (S' 1100001) (S' 1100002) (S' 1100005) (S' 1100003) (S' 1100004) (S' 1024 0) (S' 1007 0) (S' 1009 0) (sm_fn (S' 1032 0) (S' 21) (S' 1043 0)) ∧ sm_PX (S 11) (S 12) (S 13) (S 1100001) (S 1100002) (S 1100005) (S 1100003) (S 1100004) (S' 11) (S' 12) (S' 13) (S' 1100001) (S' 1100002) (S' 1100005) (S' 1100003) (S' 1100004) (S 1024 0) ∧ sm_FT (S' 11) (S' 12) (S' 13) (S' 1100019) (S' 17) (S' 18) (S' 21) (S' 19) (S' 20) (S' 22) (S' 1100016) (S' 1024 0) (S' 1007 0) (S' 1009 0) (S' 1032 0) (S' 1032 0) ∧ sm_WG (S' 1100001) (S' 1100019) (S' 1043 0) ∧ sm_F1 (S 1100019) (S' 1100019) (S 1024 0) ∧ sm_F1 (S 17) (S' 17) (S 1032 0) ∧ sm_F1 (S 18) (S' 18) (S 1032 0) ∧ sm_F1 (S 21) (S' 21) (S 1032 0) ∧ sm_F1 (S 20) (S' 20) (S 1032 0) ∧ sm_F1 (S 22) (S' 22) (S 1032 0) ∧ sm_F1 (S 1100016) (S' 1100016) (S 1032 0) ∧ sm_F1 (S 19) (S' 19) (8 * (S 1032 0)) ∧ sm_FN (S' 1100016) (S 1032 0) (S' 1032 0)) ∧ sm_KL (S 15) (S 16) (S' 15) (S' 16) (S 1031 0) ∧ sm_HD (S' 23) (S' 24) (S' 1100018 0) (S' 1007 0) ∧ sm_HD (S' 25) (fun _ : Int => (S' 1042 0)) 1 (S' 1007 0) ∧ (S' 1031 0) = (S 1031 0) ∧ (S' 1043 0) = (S 1043 0) ∧ (S' 1044 0) = (S 1044 0) ∧ (S' 1045 0) = (S 1045 0) ∧ (S 1032 0) ≤ (S' 1032 0) ∧ (S' 1032 0) ≤ 1 + (S' 1020 0) ∧ (S' 1100018 0) = (S' 1032 0) ∧ (S 1024 0) ≤ (S' 1024 0) ∧ ((S' 1021 0) = 0 → (S' 1023 0) = (S 1023 0) ∧ (S' 1024 0) + 0 ≤ (S 1024 0) + 2 * ((S' 1020 0) - (S 1020 0))) ∧ (0 < (S' 1021 0) → (S' 1024 0) ≤ (S 1024 0) + 2 * ((S' 1020 0) - (S 1020 0)) + 2 * (30 * (20 - (S 1023 0)) + 30)) ∧ -1 ≤ r ∧ r < 12000 ∧ ((S' 1021 0) = 0 → (S 1020 0) < (S' 1020 0) ∧ (S 1024 0) ≤ r ∧ sm_sx (S' 1100001) (S' 1100002) (S' 1100005) (S' 1100003) (S' 1100004) (S' 1024 0) 2 r (17 * (21 - (S 1023 0)) + 5) (21 - (S 1023 0)) (if 0 < (S 1044 0) then 1 else 0) (if 0 < (S 1044 0) + (S 1045 0) then 1 else 0) ∧ (S' 1100002 r) = (17 * (21 - (S 1023 0)) + 5) ∧ (S' 1100005 r) = (21 - (S 1023 0)) ∧ (S' 1100003 r) = (if 0 < (S 1044 0) then 1 else 0) ∧ (S' 1100004 r) = (if 0 < (S 1044 0) + (S 1045 0) then 1 else 0)))
def T_counted (d : Int) : Prop := ∀ (S : sv_S), sm_ok S → (0 ≤ (S 1020 0) ∧ (S 1020 0) < (S 1012 0) ∧ sm_TK (S 6) (S 8) (S 9) (S 10) (S 1012 0) ∧ 0 ≤ (S 1021 0) ∧ 0 ≤ (S 1004 0) ∧ (S 1004 0) ≤ 4000 ∧ 1 ≤ (S 1007 0) ∧ (S 1007 0) ≤ 90 ∧ sm_LN (S 4) 400 (S 1007 0) ∧ ((S 1021 0) = 0 → sm_WF (S 11) (S 12) (S 13) (S 1100001) (S 1100002) (S 1100005) (S 1100003) (S 1100004) (S 1024 0) (S 1007 0) (S 1009 0) (sm_fn (S 1032 0) (S 21) (S 1043 0)) ∧ sm_FT (S 11) (S 12) (S 13) (S 1100019) (S 17) (S 18) (S 21) (S 19) (S 20) (S 22) (S 1100016) (S 1024 0) (S 1007 0) (S 1009 0) (S 1032 0) (S 1032 0) ∧ sm_WG (S 1100001) (S 1100019) (S 1043 0) ∧ (S 1100016 (S 1043 0)) = 0) ∧ sm_HD (S 23) (S 24) (S 1100018 0) (S 1007 0) ∧ sm_HD (S 25) (fun _ : Int => (S 1042 0)) 1 (S 1007 0) ∧ 0 ≤ (S 1043 0) ∧ (S 1043 0) < (S 1100018 0) ∧ (S 1100018 0) = (S 1032 0) ∧ (S 1032 0) ≤ 1 + (S 1020 0) ∧ 0 ≤ (S 1031 0) ∧ (S 1031 0) ≤ 100 ∧ 0 ≤ (S 1044 0) ∧ (S 1044 0) ≤ 30 ∧ 0 ≤ (S 1045 0) ∧ (S 1045 0) ≤ 30 ∧ 0 ≤ (S 1024 0) ∧ ((S 1021 0) = 0 → 0 ≤ (S 1023 0) ∧ (S 1023 0) ≤ 20 ∧ (S 1031 0) ≤ 3 * (S 1023 0) + 5 ∧ (S 1024 0) ≤ 2 * (S 1020 0) ∧ (S 1044 0) ≤ (S 1023 0) ∧ (S 1045 0) ≤ (S 1023 0)) ∧ (S 1021 0) = 0 ∧ 1 ≤ (S 1023 0) ∧ (S 1044 0) + 1 ≤ (S 1023 0) ∧ (S 1045 0) + 1 ≤ (S 1023 0) ∧ (S 1031 0) ≤ 3 * (S 1023 0) + 2 ∧ 1 ≤ (S 6 (S 1020 0)) ∧ (S 6 (S 1020 0)) ≤ 5) → (30 * (20 - (S 1023 0)) + 30) = d → sv_T sm_XS sm_cs sm_L sm_sh (30 * (20 - (S 1023 0)) + 30).toNat (q_counted S) 76 0 (lv_args 0 [.ref 0]) [] S
def q_each (p1 : Int) (S : sv_S) : Option Value → sv_S → Prop := fun v S' => ∃ r : Int, v = some (sv_I r) ∧ sv_R r ∧ sm_ok S' ∧ sv_mod [1020, 1021, 1022, 1023, 5, 1011, 3, 4, 1007, 1009, 11, 12, 13, 14, 1024, 15, 16, 1031, 1032, 17, 18, 19, 20, 21, 22, 23, 24, 25, 1042, 1043, 1044, 1045, 1100001, 1100002, 1100005, 1100003, 1100004, 1100018, 1100019, 1100016] S S' ∧ ((S 1020 0) ≤ (S' 1020 0) ∧ (S' 1020 0) < (S' 1012 0) ∧ 0 ≤ (S' 1021 0) ∧ (0 < (S 1021 0) → 0 < (S' 1021 0)) ∧ (S 1007 0) ≤ (S' 1007 0) ∧ (S' 1007 0) ≤ 90 ∧ sm_LN (S' 4) 400 (S' 1007 0) ∧ ((S 1009 0) = 1 → (S' 1009 0) = 1) ∧ ((S' 1021 0) = 0 → sm_WF (S' 11) (S' 12) (S' 13) (S' 1100001) (S' 1100002) (S' 1100005) (S' 1100003) (S' 1100004) (S' 1024 0) (S' 1007 0) (S' 1009 0) (sm_fn (S' 1032 0) (S' 21) (S' 1043 0)) ∧ sm_PX (S 11) (S 12) (S 13) (S 1100001) (S 1100002) (S 1100005) (S 1100003) (S 1100004) (S' 11) (S' 12) (S' 13) (S' 1100001) (S' 1100002) (S' 1100005) (S' 1100003) (S' 1100004) (S 1024 0) ∧ sm_FT (S' 11) (S' 12) (S' 13) (S' 1100019) (S' 17) (S' 18) (S' 21) (S' 19) (S' 20) (S' 22) (S' 1100016) (S' 1024 0) (S' 1007 0) (S' 1009 0) (S' 1032 0) (S' 1032 0) ∧ sm_WG (S' 1100001) (S' 1100019) (S' 1043 0) ∧ sm_F1 (S 1100019) (S' 1100019) (S 1024 0) ∧ sm_F1 (S 17) (S' 17) (S 1032 0) ∧ sm_F1 (S 18) (S' 18) (S 1032 0) ∧ sm_F1 (S 21) (S' 21) (S 1032 0) ∧ sm_F1 (S 20) (S' 20) (S 1032 0) ∧ sm_F1 (S 22) (S' 22) (S 1032 0) ∧ sm_F1 (S 1100016) (S' 1100016) (S 1032 0) ∧ sm_F1 (S 19) (S' 19) (8 * (S 1032 0)) ∧ sm_FN (S' 1100016) (S 1032 0) (S' 1032 0)) ∧ sm_KL (S 15) (S 16) (S' 15) (S' 16) (S 1031 0) ∧ sm_HD (S' 23) (S' 24) (S' 1100018 0) (S' 1007 0) ∧ sm_HD (S' 25) (fun _ : Int => (S' 1042 0)) 1 (S' 1007 0) ∧ (S' 1031 0) = (S 1031 0) ∧ (S' 1043 0) = (S 1043 0) ∧ (S' 1044 0) = (S 1044 0) ∧ (S' 1045 0) = (S 1045 0) ∧ (S 1032 0) ≤ (S' 1032 0) ∧ (S' 1032 0) ≤ 1 + (S' 1020 0) ∧ (S' 1100018 0) = (S' 1032 0) ∧ (S 1024 0) ≤ (S' 1024 0) ∧ ((S' 1021 0) = 0 → (S' 1023 0) = (S 1023 0) ∧ (S' 1024 0) + 0 ≤ (S 1024 0) + 2 * ((S' 1020 0) - (S 1020 0))) ∧ (0 < (S' 1021 0) → (S' 1024 0) ≤ (S 1024 0) + 2 * ((S' 1020 0) - (S 1020 0)) + 2 * (30 * (20 - (S 1023 0)) + 29)) ∧ -1 ≤ r ∧ r < 12000 ∧ ((S' 1021 0) = 0 → (S 1020 0) < (S' 1020 0) ∧ (S 1024 0) ≤ r ∧ sm_sx (S' 1100001) (S' 1100002) (S' 1100005) (S' 1100003) (S' 1100004) (S' 1024 0) 2 r (17 * (21 - (S 1023 0)) + 5) (21 - (S 1023 0)) (if 0 < (S 1044 0) then 1 else 0) (if 0 < (S 1044 0) + (S 1045 0) then 1 else 0) ∧ (S' 1100002 r) = (17 * (21 - (S 1023 0)) + 5) ∧ (S' 1100005 r) = (21 - (S 1023 0)) ∧ (S' 1100003 r) = (if 0 < (S 1044 0) then 1 else 0) ∧ (S' 1100004 r) = (if 0 < (S 1044 0) + (S 1045 0) then 1 else 0)))
def T_each (d : Int) : Prop := ∀ (p1 : Int) (S : sv_S), sm_ok S → (0 ≤ p1 ∧ p1 ≤ 1) → (0 ≤ (S 1020 0) ∧ (S 1020 0) < (S 1012 0) ∧ sm_TK (S 6) (S 8) (S 9) (S 10) (S 1012 0) ∧ 0 ≤ (S 1021 0) ∧ 0 ≤ (S 1004 0) ∧ (S 1004 0) ≤ 4000 ∧ 1 ≤ (S 1007 0) ∧ (S 1007 0) ≤ 90 ∧ sm_LN (S 4) 400 (S 1007 0) ∧ ((S 1021 0) = 0 → sm_WF (S 11) (S 12) (S 13) (S 1100001) (S 1100002) (S 1100005) (S 1100003) (S 1100004) (S 1024 0) (S 1007 0) (S 1009 0) (sm_fn (S 1032 0) (S 21) (S 1043 0)) ∧ sm_FT (S 11) (S 12) (S 13) (S 1100019) (S 17) (S 18) (S 21) (S 19) (S 20) (S 22) (S 1100016) (S 1024 0) (S 1007 0) (S 1009 0) (S 1032 0) (S 1032 0) ∧ sm_WG (S 1100001) (S 1100019) (S 1043 0) ∧ (S 1100016 (S 1043 0)) = 0) ∧ sm_HD (S 23) (S 24) (S 1100018 0) (S 1007 0) ∧ sm_HD (S 25) (fun _ : Int => (S 1042 0)) 1 (S 1007 0) ∧ 0 ≤ (S 1043 0) ∧ (S 1043 0) < (S 1100018 0) ∧ (S 1100018 0) = (S 1032 0) ∧ (S 1032 0) ≤ 1 + (S 1020 0) ∧ 0 ≤ (S 1031 0) ∧ (S 1031 0) ≤ 100 ∧ 0 ≤ (S 1044 0) ∧ (S 1044 0) ≤ 30 ∧ 0 ≤ (S 1045 0) ∧ (S 1045 0) ≤ 30 ∧ 0 ≤ (S 1024 0) ∧ ((S 1021 0) = 0 → 0 ≤ (S 1023 0) ∧ (S 1023 0) ≤ 20 ∧ (S 1031 0) ≤ 3 * (S 1023 0) + 5 ∧ (S 1024 0) ≤ 2 * (S 1020 0) ∧ (S 1044 0) ≤ (S 1023 0) ∧ (S 1045 0) ≤ (S 1023 0)) ∧ (S 1021 0) = 0 ∧ 1 ≤ (S 1023 0) ∧ (S 1044 0) + 1 ≤ (S 1023 0) ∧ (S 1045 0) + 1 ≤ (S 1023 0) ∧ (S 1031 0) ≤ 3 * (S 1023 0) + 2 ∧ (p1 = 1 → (S 6 (S 1020 0)) = 2 ∧ (S 6 ((S 1020 0) + 1)) = 1 ∧ (S 6 ((S 1020 0) + 2)) = 2) ∧ (p1 = 0 → (S 6 (S 1020 0)) = 1 ∧ (S 6 ((S 1020 0) + 1)) = 2)) → (30 * (20 - (S 1023 0)) + 29) = d → sv_T sm_XS sm_cs sm_L sm_sh (30 * (20 - (S 1023 0)) + 29).toNat (q_each p1 S) 77 0 (lv_args 0 [.ref 0, sv_I p1]) [] S
def q_back_ (S : sv_S) : Option Value → sv_S → Prop := fun v S' => ∃ r : Int, v = some (sv_I r) ∧ sv_R r ∧ sm_ok S' ∧ sv_mod [1020, 1021, 1022, 1023, 5, 1011, 3, 4, 1007, 1009, 11, 12, 13, 14, 1024, 15, 16, 1031, 1032, 17, 18, 19, 20, 21, 22, 23, 24, 25, 1042, 1043, 1044, 1045, 1100001, 1100002, 1100005, 1100003, 1100004, 1100018, 1100019, 1100016] S S' ∧ ((S 1020 0) ≤ (S' 1020 0) ∧ (S' 1020 0) < (S' 1012 0) ∧ 0 ≤ (S' 1021 0) ∧ (0 < (S 1021 0) → 0 < (S' 1021 0)) ∧ (S 1007 0) ≤ (S' 1007 0) ∧ (S' 1007 0) ≤ 90 ∧ sm_LN (S' 4) 400 (S' 1007 0) ∧ ((S 1009 0) = 1 → (S' 1009 0) = 1) ∧ ((S' 1021 0) = 0 → sm_WF (S' 11) (S' 12) (S' 13) (S' 1100001) (S' 1100002) (S' 1100005) (S' 1100003) (S' 1100004) (S' 1024 0) (S' 1007 0) (S' 1009 0) (sm_fn (S' 1032 0) (S' 21) (S' 1043 0)) ∧ sm_PX (S 11) (S 12) (S 13) (S 1100001) (S 1100002) (S 1100005) (S 1100003) (S 1100004) (S' 11) (S' 12) (S' 13) (S' 1100001) (S' 1100002) (S' 1100005) (S' 1100003) (S' 1100004) (S 1024 0) ∧ sm_FT (S' 11) (S' 12) (S' 13) (S' 1100019) (S' 17) (S' 18) (S' 21) (S' 19) (S' 20) (S' 22) (S' 1100016) (S' 1024 0) (S' 1007 0) (S' 1009 0) (S' 1032 0) (S' 1032 0) ∧ sm_WG (S' 1100001) (S' 1100019) (S' 1043 0) ∧ sm_F1 (S 1100019) (S' 1100019) (S 1024 0) ∧ sm_F1 (S 17) (S' 17) (S 1032 0) ∧ sm_F1 (S 18) (S' 18) (S 1032 0) ∧ sm_F1 (S 21) (S' 21) (S 1032 0) ∧ sm_F1 (S 20) (S' 20) (S 1032 0) ∧ sm_F1 (S 22) (S' 22) (S 1032 0) ∧ sm_F1 (S 1100016) (S' 1100016) (S 1032 0) ∧ sm_F1 (S 19) (S' 19) (8 * (S 1032 0)) ∧ sm_FN (S' 1100016) (S 1032 0) (S' 1032 0)) ∧ sm_KL (S 15) (S 16) (S' 15) (S' 16) (S 1031 0) ∧ sm_HD (S' 23) (S' 24) (S' 1100018 0) (S' 1007 0) ∧ sm_HD (S' 25) (fun _ : Int => (S' 1042 0)) 1 (S' 1007 0) ∧ (S' 1031 0) = (S 1031 0) ∧ (S' 1043 0) = (S 1043 0) ∧ (S' 1044 0) = (S 1044 0) ∧ (S' 1045 0) = (S 1045 0) ∧ (S 1032 0) ≤ (S' 1032 0) ∧ (S' 1032 0) ≤ 1 + (S' 1020 0) ∧ (S' 1100018 0) = (S' 1032 0) ∧ (S 1024 0) ≤ (S' 1024 0) ∧ ((S' 1021 0) = 0 → (S' 1023 0) = (S 1023 0) ∧ (S' 1024 0) + 0 ≤ (S 1024 0) + 2 * ((S' 1020 0) - (S 1020 0))) ∧ (0 < (S' 1021 0) → (S' 1024 0) ≤ (S 1024 0) + 2 * ((S' 1020 0) - (S 1020 0)) + 2 * (30 * (20 - (S 1023 0)) + 28)) ∧ -1 ≤ r ∧ r < 12000 ∧ ((S' 1021 0) = 0 → (S 1020 0) < (S' 1020 0) ∧ (S 1024 0) ≤ r ∧ sm_sx (S' 1100001) (S' 1100002) (S' 1100005) (S' 1100003) (S' 1100004) (S' 1024 0) 2 r (17 * (21 - (S 1023 0)) + 5) (21 - (S 1023 0)) (if 0 < (S 1044 0) then 1 else 0) (if 0 < (S 1044 0) + (S 1045 0) then 1 else 0) ∧ (S' 1100002 r) = (17 * (21 - (S 1023 0)) + 5) ∧ (S' 1100005 r) = (21 - (S 1023 0)) ∧ (S' 1100003 r) = (if 0 < (S 1044 0) then 1 else 0) ∧ (S' 1100004 r) = (if 0 < (S 1044 0) + (S 1045 0) then 1 else 0)))
def T_back_ (d : Int) : Prop := ∀ (S : sv_S), sm_ok S → (0 ≤ (S 1020 0) ∧ (S 1020 0) < (S 1012 0) ∧ sm_TK (S 6) (S 8) (S 9) (S 10) (S 1012 0) ∧ 0 ≤ (S 1021 0) ∧ 0 ≤ (S 1004 0) ∧ (S 1004 0) ≤ 4000 ∧ 1 ≤ (S 1007 0) ∧ (S 1007 0) ≤ 90 ∧ sm_LN (S 4) 400 (S 1007 0) ∧ ((S 1021 0) = 0 → sm_WF (S 11) (S 12) (S 13) (S 1100001) (S 1100002) (S 1100005) (S 1100003) (S 1100004) (S 1024 0) (S 1007 0) (S 1009 0) (sm_fn (S 1032 0) (S 21) (S 1043 0)) ∧ sm_FT (S 11) (S 12) (S 13) (S 1100019) (S 17) (S 18) (S 21) (S 19) (S 20) (S 22) (S 1100016) (S 1024 0) (S 1007 0) (S 1009 0) (S 1032 0) (S 1032 0) ∧ sm_WG (S 1100001) (S 1100019) (S 1043 0) ∧ (S 1100016 (S 1043 0)) = 0) ∧ sm_HD (S 23) (S 24) (S 1100018 0) (S 1007 0) ∧ sm_HD (S 25) (fun _ : Int => (S 1042 0)) 1 (S 1007 0) ∧ 0 ≤ (S 1043 0) ∧ (S 1043 0) < (S 1100018 0) ∧ (S 1100018 0) = (S 1032 0) ∧ (S 1032 0) ≤ 1 + (S 1020 0) ∧ 0 ≤ (S 1031 0) ∧ (S 1031 0) ≤ 100 ∧ 0 ≤ (S 1044 0) ∧ (S 1044 0) ≤ 30 ∧ 0 ≤ (S 1045 0) ∧ (S 1045 0) ≤ 30 ∧ 0 ≤ (S 1024 0) ∧ ((S 1021 0) = 0 → 0 ≤ (S 1023 0) ∧ (S 1023 0) ≤ 20 ∧ (S 1031 0) ≤ 3 * (S 1023 0) + 5 ∧ (S 1024 0) ≤ 2 * (S 1020 0) ∧ (S 1044 0) ≤ (S 1023 0) ∧ (S 1045 0) ≤ (S 1023 0)) ∧ (S 1021 0) = 0 ∧ 1 ≤ (S 1023 0) ∧ (S 1044 0) + 1 ≤ (S 1023 0) ∧ (S 1045 0) + 1 ≤ (S 1023 0) ∧ (S 1031 0) ≤ 3 * (S 1023 0) + 2 ∧ 1 ≤ (S 6 (S 1020 0)) ∧ (S 6 (S 1020 0)) ≤ 5) → (30 * (20 - (S 1023 0)) + 28) = d → sv_T sm_XS sm_cs sm_L sm_sh (30 * (20 - (S 1023 0)) + 28).toNat (q_back_ S) 78 0 (lv_args 0 [.ref 0]) [] S
def q_toss (S : sv_S) : Option Value → sv_S → Prop := fun v S' => ∃ r : Int, v = some (sv_I r) ∧ sv_R r ∧ sm_ok S' ∧ sv_mod [1020, 1021, 1022, 1023, 5, 1011, 3, 4, 1007, 1009, 11, 12, 13, 14, 1024, 15, 16, 1031, 1032, 17, 18, 19, 20, 21, 22, 23, 24, 25, 1042, 1043, 1044, 1045, 1100001, 1100002, 1100005, 1100003, 1100004, 1100018, 1100019, 1100016] S S' ∧ ((S 1020 0) ≤ (S' 1020 0) ∧ (S' 1020 0) < (S' 1012 0) ∧ 0 ≤ (S' 1021 0) ∧ (0 < (S 1021 0) → 0 < (S' 1021 0)) ∧ (S 1007 0) ≤ (S' 1007 0) ∧ (S' 1007 0) ≤ 90 ∧ sm_LN (S' 4) 400 (S' 1007 0) ∧ ((S 1009 0) = 1 → (S' 1009 0) = 1) ∧ ((S' 1021 0) = 0 → sm_WF (S' 11) (S' 12) (S' 13) (S' 1100001) (S' 1100002) (S' 1100005) (S' 1100003) (S' 1100004) (S' 1024 0) (S' 1007 0) (S' 1009 0) (sm_fn (S' 1032 0) (S' 21) (S' 1043 0)) ∧ sm_PX (S 11) (S 12) (S 13) (S 1100001) (S 1100002) (S 1100005) (S 1100003) (S 1100004) (S' 11) (S' 12) (S' 13) (S' 1100001) (S' 1100002) (S' 1100005) (S' 1100003) (S' 1100004) (S 1024 0) ∧ sm_FT (S' 11) (S' 12) (S' 13) (S' 1100019) (S' 17) (S' 18) (S' 21) (S' 19) (S' 20) (S' 22) (S' 1100016) (S' 1024 0) (S' 1007 0) (S' 1009 0) (S' 1032 0) (S' 1032 0) ∧ sm_WG (S' 1100001) (S' 1100019) (S' 1043 0) ∧ sm_F1 (S 1100019) (S' 1100019) (S 1024 0) ∧ sm_F1 (S 17) (S' 17) (S 1032 0) ∧ sm_F1 (S 18) (S' 18) (S 1032 0) ∧ sm_F1 (S 21) (S' 21) (S 1032 0) ∧ sm_F1 (S 20) (S' 20) (S 1032 0) ∧ sm_F1 (S 22) (S' 22) (S 1032 0) ∧ sm_F1 (S 1100016) (S' 1100016) (S 1032 0) ∧ sm_F1 (S 19) (S' 19) (8 * (S 1032 0)) ∧ sm_FN (S' 1100016) (S 1032 0) (S' 1032 0)) ∧ sm_KL (S 15) (S 16) (S' 15) (S' 16) (S 1031 0) ∧ sm_HD (S' 23) (S' 24) (S' 1100018 0) (S' 1007 0) ∧ sm_HD (S' 25) (fun _ : Int => (S' 1042 0)) 1 (S' 1007 0) ∧ (S' 1031 0) = (S 1031 0) ∧ (S' 1043 0) = (S 1043 0) ∧ (S' 1044 0) = (S 1044 0) ∧ (S' 1045 0) = (S 1045 0) ∧ (S 1032 0) ≤ (S' 1032 0) ∧ (S' 1032 0) ≤ 1 + (S' 1020 0) ∧ (S' 1100018 0) = (S' 1032 0) ∧ (S 1024 0) ≤ (S' 1024 0) ∧ ((S' 1021 0) = 0 → (S' 1023 0) = (S 1023 0) ∧ (S' 1024 0) + 0 ≤ (S 1024 0) + 2 * ((S' 1020 0) - (S 1020 0))) ∧ (0 < (S' 1021 0) → (S' 1024 0) ≤ (S 1024 0) + 2 * ((S' 1020 0) - (S 1020 0)) + 2 * (30 * (20 - (S 1023 0)) + 28)) ∧ -1 ≤ r ∧ r < 12000 ∧ ((S' 1021 0) = 0 → (S 1020 0) < (S' 1020 0) ∧ (S 1024 0) ≤ r ∧ sm_sx (S' 1100001) (S' 1100002) (S' 1100005) (S' 1100003) (S' 1100004) (S' 1024 0) 2 r (17 * (21 - (S 1023 0)) + 5) (21 - (S 1023 0)) (if 0 < (S 1044 0) then 1 else 0) (if 0 < (S 1044 0) + (S 1045 0) then 1 else 0) ∧ (S' 1100002 r) = (17 * (21 - (S 1023 0)) + 5) ∧ (S' 1100005 r) = (21 - (S 1023 0)) ∧ (S' 1100003 r) = (if 0 < (S 1044 0) then 1 else 0) ∧ (S' 1100004 r) = (if 0 < (S 1044 0) + (S 1045 0) then 1 else 0)))
def T_toss (d : Int) : Prop := ∀ (S : sv_S), sm_ok S → (0 ≤ (S 1020 0) ∧ (S 1020 0) < (S 1012 0) ∧ sm_TK (S 6) (S 8) (S 9) (S 10) (S 1012 0) ∧ 0 ≤ (S 1021 0) ∧ 0 ≤ (S 1004 0) ∧ (S 1004 0) ≤ 4000 ∧ 1 ≤ (S 1007 0) ∧ (S 1007 0) ≤ 90 ∧ sm_LN (S 4) 400 (S 1007 0) ∧ ((S 1021 0) = 0 → sm_WF (S 11) (S 12) (S 13) (S 1100001) (S 1100002) (S 1100005) (S 1100003) (S 1100004) (S 1024 0) (S 1007 0) (S 1009 0) (sm_fn (S 1032 0) (S 21) (S 1043 0)) ∧ sm_FT (S 11) (S 12) (S 13) (S 1100019) (S 17) (S 18) (S 21) (S 19) (S 20) (S 22) (S 1100016) (S 1024 0) (S 1007 0) (S 1009 0) (S 1032 0) (S 1032 0) ∧ sm_WG (S 1100001) (S 1100019) (S 1043 0) ∧ (S 1100016 (S 1043 0)) = 0) ∧ sm_HD (S 23) (S 24) (S 1100018 0) (S 1007 0) ∧ sm_HD (S 25) (fun _ : Int => (S 1042 0)) 1 (S 1007 0) ∧ 0 ≤ (S 1043 0) ∧ (S 1043 0) < (S 1100018 0) ∧ (S 1100018 0) = (S 1032 0) ∧ (S 1032 0) ≤ 1 + (S 1020 0) ∧ 0 ≤ (S 1031 0) ∧ (S 1031 0) ≤ 100 ∧ 0 ≤ (S 1044 0) ∧ (S 1044 0) ≤ 30 ∧ 0 ≤ (S 1045 0) ∧ (S 1045 0) ≤ 30 ∧ 0 ≤ (S 1024 0) ∧ ((S 1021 0) = 0 → 0 ≤ (S 1023 0) ∧ (S 1023 0) ≤ 20 ∧ (S 1031 0) ≤ 3 * (S 1023 0) + 5 ∧ (S 1024 0) ≤ 2 * (S 1020 0) ∧ (S 1044 0) ≤ (S 1023 0) ∧ (S 1045 0) ≤ (S 1023 0)) ∧ (S 1021 0) = 0 ∧ 1 ≤ (S 1023 0) ∧ (S 1044 0) + 1 ≤ (S 1023 0) ∧ (S 1045 0) + 1 ≤ (S 1023 0) ∧ (S 1031 0) ≤ 3 * (S 1023 0) + 2 ∧ 1 ≤ (S 6 (S 1020 0)) ∧ (S 6 (S 1020 0)) ≤ 5) → (30 * (20 - (S 1023 0)) + 28) = d → sv_T sm_XS sm_cs sm_L sm_sh (30 * (20 - (S 1023 0)) + 28).toNat (q_toss S) 79 0 (lv_args 0 [.ref 0]) [] S
def q_attempt (S : sv_S) : Option Value → sv_S → Prop := fun v S' => ∃ r : Int, v = some (sv_I r) ∧ sv_R r ∧ sm_ok S' ∧ sv_mod [1020, 1021, 1022, 1023, 5, 1011, 3, 4, 1007, 1009, 11, 12, 13, 14, 1024, 15, 16, 1031, 1032, 17, 18, 19, 20, 21, 22, 23, 24, 25, 1042, 1043, 1044, 1045, 1100001, 1100002, 1100005, 1100003, 1100004, 1100018, 1100019, 1100016] S S' ∧ ((S 1020 0) ≤ (S' 1020 0) ∧ (S' 1020 0) < (S' 1012 0) ∧ 0 ≤ (S' 1021 0) ∧ (0 < (S 1021 0) → 0 < (S' 1021 0)) ∧ (S 1007 0) ≤ (S' 1007 0) ∧ (S' 1007 0) ≤ 90 ∧ sm_LN (S' 4) 400 (S' 1007 0) ∧ ((S 1009 0) = 1 → (S' 1009 0) = 1) ∧ ((S' 1021 0) = 0 → sm_WF (S' 11) (S' 12) (S' 13) (S' 1100001) (S' 1100002) (S' 1100005) (S' 1100003) (S' 1100004) (S' 1024 0) (S' 1007 0) (S' 1009 0) (sm_fn (S' 1032 0) (S' 21) (S' 1043 0)) ∧ sm_PX (S 11) (S 12) (S 13) (S 1100001) (S 1100002) (S 1100005) (S 1100003) (S 1100004) (S' 11) (S' 12) (S' 13) (S' 1100001) (S' 1100002) (S' 1100005) (S' 1100003) (S' 1100004) (S 1024 0) ∧ sm_FT (S' 11) (S' 12) (S' 13) (S' 1100019) (S' 17) (S' 18) (S' 21) (S' 19) (S' 20) (S' 22) (S' 1100016) (S' 1024 0) (S' 1007 0) (S' 1009 0) (S' 1032 0) (S' 1032 0) ∧ sm_WG (S' 1100001) (S' 1100019) (S' 1043 0) ∧ sm_F1 (S 1100019) (S' 1100019) (S 1024 0) ∧ sm_F1 (S 17) (S' 17) (S 1032 0) ∧ sm_F1 (S 18) (S' 18) (S 1032 0) ∧ sm_F1 (S 21) (S' 21) (S 1032 0) ∧ sm_F1 (S 20) (S' 20) (S 1032 0) ∧ sm_F1 (S 22) (S' 22) (S 1032 0) ∧ sm_F1 (S 1100016) (S' 1100016) (S 1032 0) ∧ sm_F1 (S 19) (S' 19) (8 * (S 1032 0)) ∧ sm_FN (S' 1100016) (S 1032 0) (S' 1032 0)) ∧ sm_KL (S 15) (S 16) (S' 15) (S' 16) (S 1031 0) ∧ sm_HD (S' 23) (S' 24) (S' 1100018 0) (S' 1007 0) ∧ sm_HD (S' 25) (fun _ : Int => (S' 1042 0)) 1 (S' 1007 0) ∧ (S' 1031 0) = (S 1031 0) ∧ (S' 1043 0) = (S 1043 0) ∧ (S' 1044 0) = (S 1044 0) ∧ (S' 1045 0) = (S 1045 0) ∧ (S 1032 0) ≤ (S' 1032 0) ∧ (S' 1032 0) ≤ 1 + (S' 1020 0) ∧ (S' 1100018 0) = (S' 1032 0) ∧ (S 1024 0) ≤ (S' 1024 0) ∧ ((S' 1021 0) = 0 → (S' 1023 0) = (S 1023 0) ∧ (S' 1024 0) + 0 ≤ (S 1024 0) + 2 * ((S' 1020 0) - (S 1020 0))) ∧ (0 < (S' 1021 0) → (S' 1024 0) ≤ (S 1024 0) + 2 * ((S' 1020 0) - (S 1020 0)) + 2 * (30 * (20 - (S 1023 0)) + 29)) ∧ -1 ≤ r ∧ r < 12000 ∧ ((S' 1021 0) = 0 → (S 1020 0) < (S' 1020 0) ∧ (S 1024 0) ≤ r ∧ sm_sx (S' 1100001) (S' 1100002) (S' 1100005) (S' 1100003) (S' 1100004) (S' 1024 0) 2 r (17 * (21 - (S 1023 0)) + 5) (21 - (S 1023 0)) (if 0 < (S 1044 0) then 1 else 0) (if 0 < (S 1044 0) + (S 1045 0) then 1 else 0) ∧ (S' 1100002 r) = (17 * (21 - (S 1023 0)) + 5) ∧ (S' 1100005 r) = (21 - (S 1023 0)) ∧ (S' 1100003 r) = (if 0 < (S 1044 0) then 1 else 0) ∧ (S' 1100004 r) = (if 0 < (S 1044 0) + (S 1045 0) then 1 else 0)))
def T_attempt (d : Int) : Prop := ∀ (S : sv_S), sm_ok S → (0 ≤ (S 1020 0) ∧ (S 1020 0) < (S 1012 0) ∧ sm_TK (S 6) (S 8) (S 9) (S 10) (S 1012 0) ∧ 0 ≤ (S 1021 0) ∧ 0 ≤ (S 1004 0) ∧ (S 1004 0) ≤ 4000 ∧ 1 ≤ (S 1007 0) ∧ (S 1007 0) ≤ 90 ∧ sm_LN (S 4) 400 (S 1007 0) ∧ ((S 1021 0) = 0 → sm_WF (S 11) (S 12) (S 13) (S 1100001) (S 1100002) (S 1100005) (S 1100003) (S 1100004) (S 1024 0) (S 1007 0) (S 1009 0) (sm_fn (S 1032 0) (S 21) (S 1043 0)) ∧ sm_FT (S 11) (S 12) (S 13) (S 1100019) (S 17) (S 18) (S 21) (S 19) (S 20) (S 22) (S 1100016) (S 1024 0) (S 1007 0) (S 1009 0) (S 1032 0) (S 1032 0) ∧ sm_WG (S 1100001) (S 1100019) (S 1043 0) ∧ (S 1100016 (S 1043 0)) = 0) ∧ sm_HD (S 23) (S 24) (S 1100018 0) (S 1007 0) ∧ sm_HD (S 25) (fun _ : Int => (S 1042 0)) 1 (S 1007 0) ∧ 0 ≤ (S 1043 0) ∧ (S 1043 0) < (S 1100018 0) ∧ (S 1100018 0) = (S 1032 0) ∧ (S 1032 0) ≤ 1 + (S 1020 0) ∧ 0 ≤ (S 1031 0) ∧ (S 1031 0) ≤ 100 ∧ 0 ≤ (S 1044 0) ∧ (S 1044 0) ≤ 30 ∧ 0 ≤ (S 1045 0) ∧ (S 1045 0) ≤ 30 ∧ 0 ≤ (S 1024 0) ∧ ((S 1021 0) = 0 → 0 ≤ (S 1023 0) ∧ (S 1023 0) ≤ 20 ∧ (S 1031 0) ≤ 3 * (S 1023 0) + 5 ∧ (S 1024 0) ≤ 2 * (S 1020 0) ∧ (S 1044 0) ≤ (S 1023 0) ∧ (S 1045 0) ≤ (S 1023 0)) ∧ (S 1021 0) = 0 ∧ 1 ≤ (S 1023 0) ∧ (S 1044 0) + 1 ≤ (S 1023 0) ∧ (S 1045 0) + 1 ≤ (S 1023 0) ∧ (S 1031 0) ≤ 3 * (S 1023 0) + 2 ∧ 1 ≤ (S 6 (S 1020 0)) ∧ (S 6 (S 1020 0)) ≤ 5) → (30 * (20 - (S 1023 0)) + 29) = d → sv_T sm_XS sm_cs sm_L sm_sh (30 * (20 - (S 1023 0)) + 29).toNat (q_attempt S) 80 0 (lv_args 0 [.ref 0]) [] S
def q_cases (S : sv_S) : Option Value → sv_S → Prop := fun v S' => ∃ r : Int, v = some (sv_I r) ∧ sv_R r ∧ sm_ok S' ∧ sv_mod [1020, 1021, 1022, 1023, 5, 1011, 3, 4, 1007, 1009, 11, 12, 13, 14, 1024, 15, 16, 1031, 1032, 17, 18, 19, 20, 21, 22, 23, 24, 25, 1042, 1043, 1044, 1045, 1100001, 1100002, 1100005, 1100003, 1100004, 1100018, 1100019, 1100016] S S' ∧ ((S 1020 0) ≤ (S' 1020 0) ∧ (S' 1020 0) < (S' 1012 0) ∧ 0 ≤ (S' 1021 0) ∧ (0 < (S 1021 0) → 0 < (S' 1021 0)) ∧ (S 1007 0) ≤ (S' 1007 0) ∧ (S' 1007 0) ≤ 90 ∧ sm_LN (S' 4) 400 (S' 1007 0) ∧ ((S 1009 0) = 1 → (S' 1009 0) = 1) ∧ ((S' 1021 0) = 0 → sm_WF (S' 11) (S' 12) (S' 13) (S' 1100001) (S' 1100002) (S' 1100005) (S' 1100003) (S' 1100004) (S' 1024 0) (S' 1007 0) (S' 1009 0) (sm_fn (S' 1032 0) (S' 21) (S' 1043 0)) ∧ sm_PX (S 11) (S 12) (S 13) (S 1100001) (S 1100002) (S 1100005) (S 1100003) (S 1100004) (S' 11) (S' 12) (S' 13) (S' 1100001) (S' 1100002) (S' 1100005) (S' 1100003) (S' 1100004) (S 1024 0) ∧ sm_FT (S' 11) (S' 12) (S' 13) (S' 1100019) (S' 17) (S' 18) (S' 21) (S' 19) (S' 20) (S' 22) (S' 1100016) (S' 1024 0) (S' 1007 0) (S' 1009 0) (S' 1032 0) (S' 1032 0) ∧ sm_WG (S' 1100001) (S' 1100019) (S' 1043 0) ∧ sm_F1 (S 1100019) (S' 1100019) (S 1024 0) ∧ sm_F1 (S 17) (S' 17) (S 1032 0) ∧ sm_F1 (S 18) (S' 18) (S 1032 0) ∧ sm_F1 (S 21) (S' 21) (S 1032 0) ∧ sm_F1 (S 20) (S' 20) (S 1032 0) ∧ sm_F1 (S 22) (S' 22) (S 1032 0) ∧ sm_F1 (S 1100016) (S' 1100016) (S 1032 0) ∧ sm_F1 (S 19) (S' 19) (8 * (S 1032 0)) ∧ sm_FN (S' 1100016) (S 1032 0) (S' 1032 0)) ∧ sm_KL (S 15) (S 16) (S' 15) (S' 16) (S 1031 0) ∧ sm_HD (S' 23) (S' 24) (S' 1100018 0) (S' 1007 0) ∧ sm_HD (S' 25) (fun _ : Int => (S' 1042 0)) 1 (S' 1007 0) ∧ (S' 1031 0) = (S 1031 0) ∧ (S' 1043 0) = (S 1043 0) ∧ (S' 1044 0) = (S 1044 0) ∧ (S' 1045 0) = (S 1045 0) ∧ (S 1032 0) ≤ (S' 1032 0) ∧ (S' 1032 0) ≤ 1 + (S' 1020 0) ∧ (S' 1100018 0) = (S' 1032 0) ∧ (S 1024 0) ≤ (S' 1024 0) ∧ ((S' 1021 0) = 0 → (S' 1023 0) = (S 1023 0) ∧ (S' 1024 0) + 0 ≤ (S 1024 0) + 2 * ((S' 1020 0) - (S 1020 0))) ∧ (0 < (S' 1021 0) → (S' 1024 0) ≤ (S 1024 0) + 2 * ((S' 1020 0) - (S 1020 0)) + 2 * (30 * (20 - (S 1023 0)) + 29)) ∧ -1 ≤ r ∧ r < 12000 ∧ ((S' 1021 0) = 0 → (S 1020 0) < (S' 1020 0) ∧ (S 1024 0) ≤ r ∧ sm_sx (S' 1100001) (S' 1100002) (S' 1100005) (S' 1100003) (S' 1100004) (S' 1024 0) 2 r (17 * (21 - (S 1023 0)) + 5) (21 - (S 1023 0)) (if 0 < (S 1044 0) then 1 else 0) (if 0 < (S 1044 0) + (S 1045 0) then 1 else 0) ∧ (S' 1100002 r) = (17 * (21 - (S 1023 0)) + 5) ∧ (S' 1100005 r) = (21 - (S 1023 0)) ∧ (S' 1100003 r) = (if 0 < (S 1044 0) then 1 else 0) ∧ (S' 1100004 r) = (if 0 < (S 1044 0) + (S 1045 0) then 1 else 0)))
def T_cases (d : Int) : Prop := ∀ (S : sv_S), sm_ok S → (0 ≤ (S 1020 0) ∧ (S 1020 0) < (S 1012 0) ∧ sm_TK (S 6) (S 8) (S 9) (S 10) (S 1012 0) ∧ 0 ≤ (S 1021 0) ∧ 0 ≤ (S 1004 0) ∧ (S 1004 0) ≤ 4000 ∧ 1 ≤ (S 1007 0) ∧ (S 1007 0) ≤ 90 ∧ sm_LN (S 4) 400 (S 1007 0) ∧ ((S 1021 0) = 0 → sm_WF (S 11) (S 12) (S 13) (S 1100001) (S 1100002) (S 1100005) (S 1100003) (S 1100004) (S 1024 0) (S 1007 0) (S 1009 0) (sm_fn (S 1032 0) (S 21) (S 1043 0)) ∧ sm_FT (S 11) (S 12) (S 13) (S 1100019) (S 17) (S 18) (S 21) (S 19) (S 20) (S 22) (S 1100016) (S 1024 0) (S 1007 0) (S 1009 0) (S 1032 0) (S 1032 0) ∧ sm_WG (S 1100001) (S 1100019) (S 1043 0) ∧ (S 1100016 (S 1043 0)) = 0) ∧ sm_HD (S 23) (S 24) (S 1100018 0) (S 1007 0) ∧ sm_HD (S 25) (fun _ : Int => (S 1042 0)) 1 (S 1007 0) ∧ 0 ≤ (S 1043 0) ∧ (S 1043 0) < (S 1100018 0) ∧ (S 1100018 0) = (S 1032 0) ∧ (S 1032 0) ≤ 1 + (S 1020 0) ∧ 0 ≤ (S 1031 0) ∧ (S 1031 0) ≤ 100 ∧ 0 ≤ (S 1044 0) ∧ (S 1044 0) ≤ 30 ∧ 0 ≤ (S 1045 0) ∧ (S 1045 0) ≤ 30 ∧ 0 ≤ (S 1024 0) ∧ ((S 1021 0) = 0 → 0 ≤ (S 1023 0) ∧ (S 1023 0) ≤ 20 ∧ (S 1031 0) ≤ 3 * (S 1023 0) + 5 ∧ (S 1024 0) ≤ 2 * (S 1020 0) ∧ (S 1044 0) ≤ (S 1023 0) ∧ (S 1045 0) ≤ (S 1023 0)) ∧ (S 1021 0) = 0 ∧ 1 ≤ (S 1023 0) ∧ (S 1044 0) + 1 ≤ (S 1023 0) ∧ (S 1045 0) + 1 ≤ (S 1023 0) ∧ (S 1031 0) ≤ 3 * (S 1023 0) + 2 ∧ 1 ≤ (S 6 (S 1020 0)) ∧ (S 6 (S 1020 0)) ≤ 5) → (30 * (20 - (S 1023 0)) + 29) = d → sv_T sm_XS sm_cs sm_L sm_sh (30 * (20 - (S 1023 0)) + 29).toNat (q_cases S) 81 0 (lv_args 0 [.ref 0]) [] S
def P_P (d : Int) : Prop := T_expression d ∧ T_opened d ∧ T_assigned d ∧ T_conditional d ∧ T_binary d ∧ T_unit d ∧ T_postfix d ∧ T_left d ∧ T_fresh d ∧ T_member d ∧ T_arguments d ∧ T_items d ∧ T_primary d ∧ T_bracketed d ∧ T_pairs d ∧ T_function d ∧ T_parts d ∧ T_statement d ∧ T_statementBody d ∧ T_plain d ∧ T_block d ∧ T_declarations d ∧ T_condition d ∧ T_looped d ∧ T_whether d ∧ T_until d ∧ T_counted d ∧ T_each d ∧ T_back_ d ∧ T_toss d ∧ T_attempt d ∧ T_cases d
theorem la_expression_0 {x0 : Int} (h0 : 0 ≤ x0) (h1 : x0 ≤ 1) : 0 ≤ x0 ∧ x0 ≤ 1 := by omega
theorem la_expression_1 {x0 x1 x2 x3 x4 x5 x6 x7 x8 x9 : Int} (h0 : 0 ≤ x0) (h1 : x0 < x1) (h2 : x1 = x2) (h3 : x2 ≤ 1 + x3) (h4 : 0 ≤ x4) (h5 : 0 ≤ x5) (h6 : 0 ≤ x6) (h7 : 0 ≤ x7) (h8 : 0 ≤ x8) (h9 : x8 ≤ 20) (h10 : x4 ≤ 3 * x8 + 5) (h11 : x7 ≤ 2 * x3) (h12 : x5 ≤ x8) (h13 : x6 ≤ x8) : 0 ≤ x0 ∧ x0 < x1 ∧ x1 = x2 ∧ x2 ≤ 1 + x3 ∧ 0 ≤ x4 ∧ x4 ≤ 100 ∧ 0 ≤ x5 ∧ x5 ≤ 30 ∧ 0 ≤ x6 ∧ x6 ≤ 30 ∧ 0 ≤ x7 ∧ (x9 = 0 → 0 ≤ x8 ∧ x8 ≤ 20 ∧ x4 ≤ 3 * x8 + 5 ∧ x7 ≤ 2 * x3 ∧ x5 ≤ x8 ∧ x6 ≤ x8) := by omega
theorem la_expression_2 {x0 : Int} (h0 : x0 = 0) : ¬ 0 < x0 := by omega
theorem la_expression_3 {x0 x1 : Int} (h0 : x0 ≤ 20) (h1 : x1 = 30 * (20 - x0) + 25) : 0 ≤ x1 := by omega
theorem la_expression_4 {x0 x1 x2 : Int} (h0 : 30 * (20 - x0) + 26 = x1) (h1 : x2 = 30 * (20 - x0) + 25) : x2 < x1 := by omega
theorem la_expression_5 {x0 x1 : Int} (h0 : x0 = 30 * (20 - x1) + 25) : x0 + 1 ≤ 30 * (20 - x1) + 26 := by omega
theorem la_expression_6 {x0 x1 : Int} (h0 : 0 ≤ x0) (h1 : x0 ≤ x1) : 0 ≤ x1 := by omega
theorem la_expression_7 {x0 x1 : Int} (h0 : 1 ≤ x0) (h1 : x0 ≤ x1) : 1 ≤ x1 := by omega
theorem la_expression_8 {x0 x1 x2 x3 : Int} (h0 : x0 < x1) (h1 : x1 = x2) (h2 : x3 = x0) : x3 < x2 := by omega
theorem la_expression_9 {x0 x1 x2 : Int} (h0 : x0 = 0) (h1 : x1 = x2) (h2 : x2 = x0) : x1 = 0 := by omega
theorem la_expression_10 {x0 x1 : Int} (h0 : 0 ≤ x0) (h1 : x1 = x0) : 0 ≤ x1 := by omega
theorem la_expression_11 {x0 x1 x2 x3 x4 x5 : Int} (h0 : x0 < x1) (h1 : x1 = x2) (h2 : x3 = x0) (h3 : x2 ≤ x4) (h4 : x5 = x4) : x3 < x5 := by omega
theorem la_expression_12 {x0 x1 x2 : Int} (h0 : x0 ≤ 20) (h1 : x1 ≤ 3 * x0 + 5) (h2 : x2 = x1) : x2 ≤ 100 := by omega
theorem la_expression_13 {x0 x1 x2 : Int} (h0 : x0 ≤ 20) (h1 : x1 ≤ x0) (h2 : x2 = x1) : x2 ≤ 30 := by omega
theorem la_expression_14 {x0 x1 x2 x3 x4 x5 x6 x7 x8 x9 x10 x11 x12 : Int} (h0 : 0 ≤ x0) (h1 : x0 ≤ 20) (h2 : x1 ≤ 3 * x0 + 5) (h3 : x2 ≤ 2 * x3) (h4 : x4 ≤ x0) (h5 : x5 ≤ x0) (h6 : 0 ≤ x6) (h7 : x7 = x1) (h8 : x8 = x4) (h9 : x9 = x5) (h10 : x6 = 0 → x10 = x0 ∧ x11 + 1 ≤ x2 + 2 * (x12 - x3)) : x6 = 0 → 0 ≤ x10 ∧ x10 ≤ 20 ∧ x7 ≤ 3 * x10 + 5 ∧ x11 ≤ 2 * x12 ∧ x8 ≤ x10 ∧ x9 ≤ x10 := by omega
theorem la_expression_15 {x0 x1 x2 x3 x4 x5 x6 x7 : Int} (h0 : x0 ≤ 20) (h1 : x1 = 0 → x2 = x0 ∧ x3 + 1 ≤ x4 + 2 * (x5 - x6)) (h2 : 0 < x1 → x3 ≤ x4 + 2 * (x5 - x6) + 2 * x7) (h3 : x7 = 30 * (20 - x0) + 25) : 0 < x1 → x3 ≤ x4 + 2 * (x5 - x6) + 2 * (30 * (20 - x0) + 26) := by omega
theorem la_expression_16 {x0 x1 x2 : Int} (h0 : x0 < x1) (h1 : 0 ≤ x2) : 0 ≤ 2 * (x1 - x0) + x2 := by omega
theorem la_expression_17 {x0 : Int} (h0 : 0 ≤ x0) (h1 : ¬ x0 = 0) : 0 < x0 := by omega
theorem la_expression_18 {x0 : Int} (h0 : 0 < x0) (h1 : x0 = 0) : False := by omega
theorem la_expression_19 {x0 : Int} (h0 : ¬ ¬ x0 = 0) : x0 = 0 := by omega
theorem la_expression_20 {x0 : Int} (h0 : ¬ ¬ x0 = 0) : ¬ 0 < x0 := by omega
theorem la_expression_21 {x0 : Int} (h0 : 0 ≤ x0) (h1 : ¬ ¬ x0 = 0) : x0 = 0 := by omega
theorem la_expression_22 {x0 x1 x2 : Int} (h0 : 0 ≤ x0) (h1 : x1 ≤ 4001) (h2 : x2 < x1) (h3 : x0 < x2) : 0 ≤ x2 ∧ x2 ≤ 4000 := by omega
theorem la_expression_23 {x0 : Int} (h0 : x0 ≤ 20) : 0 + 1 ≤ 30 * (20 - x0) + 26 := by omega
theorem la_expression_24 {x0 x1 : Int} (h0 : x0 ≤ 4001) (h1 : 0 ≤ x1) (h2 : x1 < x0) : sv_R (x1 + 1) := by omega
theorem la_expression_25 {x0 x1 : Int} (h0 : 0 ≤ x0) (h1 : x0 < x1) : 0 ≤ x1 + 1 := by omega
theorem la_expression_26 {x0 : Int} (h0 : x0 = 5) : 1 ≤ x0 := by omega
theorem la_expression_27 {x0 : Int} (h0 : x0 = 5) : x0 ≤ 5 := by omega
theorem la_expression_28 {x0 x1 : Int} (h0 : x0 ≤ 1 + x1) : x0 ≤ 1 + (x1 + 1) := by omega
theorem la_expression_29 {x0 x1 : Int} (h0 : x0 ≤ 2 * x1) : x0 ≤ 2 * (x1 + 1) := by omega
theorem la_expression_30 {x0 x1 x2 x3 : Int} (h0 : 30 * (20 - x0) + 26 = x1) (h1 : x2 = x0) (h2 : x3 = 30 * (20 - x2) + 25) : x3 < x1 := by omega
theorem la_expression_31 {x0 x1 x2 : Int} (h0 : x0 = x1) (h1 : x2 = 30 * (20 - x0) + 25) : x2 + 1 ≤ 30 * (20 - x1) + 26 := by omega
theorem la_expression_32 {x0 x1 x2 : Int} (h0 : 0 ≤ x0) (h1 : x0 < x1) (h2 : x1 ≤ x2) : 0 ≤ x2 := by omega
theorem la_expression_33 {x0 x1 x2 x3 x4 x5 x6 x7 x8 : Int} (h0 : x0 ≤ 4001) (h1 : 0 ≤ x1) (h2 : x2 ≤ 2 * x3) (h3 : x4 < x0) (h4 : 0 ≤ x5) (h5 : x5 = 0 → x6 = x1 ∧ x7 + 1 ≤ x2 + 2 * (x4 - (x3 + 1))) (h6 : 0 < x5 → x7 ≤ x2 + 2 * (x4 - (x3 + 1)) + 2 * x8) (h7 : x8 = 30 * (20 - x1) + 25) : x7 < 12000 := by omega
theorem la_expression_34 {x0 : Int} (h0 : 0 ≤ x0) (h1 : x0 ≤ 20) : sv_R (17 * (20 - x0) + 17) := by omega
theorem la_expression_35 {x0 : Int} (h0 : 0 ≤ x0) (h1 : x0 ≤ 20) : sv_R (20 - x0) := by omega
theorem la_expression_36 {x0 x1 x2 : Int} (h0 : 0 ≤ x0) (h1 : x0 < x1) (h2 : x1 + 1 ≤ x2) : 0 ≤ x2 := by omega
theorem la_expression_37 {x0 x1 x2 : Int} (h0 : x0 = x1) (h1 : 0 ≤ x2) (h2 : x2 < x1) : 0 ≤ x0 := by omega
theorem la_expression_38 {x0 x1 x2 : Int} (h0 : x0 = x1) (h1 : x2 = x1 + 1) : x0 < x2 := by omega
theorem la_expression_39 {x0 x1 x2 : Int} (h0 : x0 ≤ x1) (h1 : x2 = x1 + 1) : x0 ≤ x2 := by omega
theorem la_expression_40 {x0 x1 x2 x3 x4 : Int} (h0 : x0 < x1) (h1 : x1 ≤ x2) (h2 : x3 = x2) (h3 : x4 = x0) : x4 < x3 := by omega
theorem la_expression_41 {x0 x1 : Int} (h0 : x0 = x1) : 17 * (20 - x0) + 17 ≤ 17 * (20 - x1) + 17 := by omega
theorem la_expression_42 {x0 x1 : Int} (h0 : x0 = x1) : 20 - x0 ≤ 20 - x1 := by omega
theorem la_expression_43 {x0 x1 : Int} (h0 : x0 = x1 + 1) : x1 ≤ x0 := by omega
theorem la_expression_44 {x0 : Int} (h0 : x0 ≤ 20) : 0 ≤ 17 * (20 - x0) + 17 := by omega
theorem la_expression_45 {x0 : Int} (h0 : x0 ≤ 20) : 0 ≤ 20 - x0 := by omega
theorem la_expression_46 {x0 x1 x2 x3 : Int} (h0 : x0 = x1) (h1 : x2 = x3) (h2 : x3 < x1) : x2 < x0 := by omega
theorem la_expression_47 {x0 x1 x2 x3 x4 : Int} (h0 : x0 < x1) (h1 : x1 = x2) (h2 : x3 = x0) (h3 : x4 = x3) : x4 < x2 := by omega
theorem la_expression_48 {x0 x1 x2 : Int} (h0 : x0 < x1) (h1 : x2 + 1 < x0) : x2 + 1 < x1 := by omega
theorem la_expression_49 {x0 x1 : Int} (h0 : x0 = x1) : ¬ x0 < x1 := by omega
theorem la_expression_50 {x0 x1 x2 : Int} (h0 : x0 = x1) (h1 : x2 = x0) : x2 = x1 := by omega
theorem la_expression_51 {x0 x1 x2 : Int} (h0 : 0 ≤ x0) (h1 : x0 ≤ x1) (h2 : x2 = x1 + 1) : 0 ≤ x2 := by omega
theorem la_expression_52 {x0 x1 x2 x3 x4 x5 x6 x7 x8 x9 x10 x11 x12 x13 x14 x15 : Int} (h0 : x0 ≤ 2 * x1) (h1 : 0 ≤ x2) (h2 : x2 ≤ 20) (h3 : x3 ≤ 3 * x2 + 5) (h4 : x4 ≤ x2) (h5 : x5 ≤ x2) (h6 : x6 + 1 ≤ x0 + 2 * (x7 - x1)) (h7 : x8 = x3) (h8 : x9 = x4) (h9 : x10 = x5) (h10 : x11 = 0 → x12 = x2 ∧ x13 + 1 ≤ x6 + 2 * (x14 - (x7 + 1))) (h11 : x15 = x13 + 1) : x11 = 0 → 0 ≤ x12 ∧ x12 ≤ 20 ∧ x8 ≤ 3 * x12 + 5 ∧ x15 ≤ 2 * x14 ∧ x9 ≤ x12 ∧ x10 ≤ x12 := by omega
theorem la_expression_53 {x0 x1 x2 : Int} (h0 : x0 < x1) (h1 : x1 + 1 ≤ x2) : x0 ≤ x2 := by omega
theorem la_expression_54 {x0 x1 : Int} (h0 : x0 = 0) : 0 < x0 → 0 < x1 := by omega
theorem la_expression_55 {x0 x1 x2 : Int} (h0 : x0 ≤ x1) (h1 : x1 ≤ x2) : x0 ≤ x2 := by omega
theorem la_expression_56 {x0 x1 x2 : Int} (h0 : x0 = 1 → x1 = 1) (h1 : x1 = 1 → x2 = 1) : x0 = 1 → x2 = 1 := by omega
theorem la_expression_57 {x0 x1 x2 x3 : Int} (h0 : x0 ≤ x1) (h1 : x1 ≤ x2) (h2 : x3 = x2) : x0 ≤ x3 := by omega
theorem la_expression_58 {x0 x1 : Int} (h0 : x0 ≤ x1) : 8 * x0 ≤ 8 * x1 := by omega
theorem la_expression_59 {x0 x1 : Int} (h0 : x0 = x1) : x1 ≤ x0 := by omega
theorem la_expression_60 {x0 x1 x2 x3 : Int} (h0 : x0 ≤ x1) (h1 : x1 ≤ x2) (h2 : x3 = x2 + 1) : x0 ≤ x3 := by omega
theorem la_expression_61 {x0 x1 x2 x3 x4 x5 x6 x7 x8 x9 x10 : Int} (h0 : x0 = x1) (h1 : x2 + 1 ≤ x3 + 2 * (x4 - x5)) (h2 : x6 = 0 → x7 = x0 ∧ x8 + 1 ≤ x2 + 2 * (x9 - (x4 + 1))) (h3 : x10 = x8 + 1) : x6 = 0 → x7 = x1 ∧ x10 + 1 ≤ x3 + 2 * (x9 - x5) := by omega
theorem la_expression_62 {x0 x1 x2 x3 x4 x5 x6 x7 x8 x9 x10 x11 : Int} (h0 : x0 ≤ 20) (h1 : x1 = x0) (h2 : x2 + 1 ≤ x3 + 2 * (x4 - x5)) (h3 : x6 = 0 → x7 = x1 ∧ x8 + 1 ≤ x2 + 2 * (x9 - (x4 + 1))) (h4 : 0 < x6 → x8 ≤ x2 + 2 * (x9 - (x4 + 1)) + 2 * x10) (h5 : x10 = 30 * (20 - x1) + 25) (h6 : x11 = x8 + 1) : 0 < x6 → x11 ≤ x3 + 2 * (x9 - x5) + 2 * (30 * (20 - x0) + 26) := by omega
theorem la_expression_63 {x0 x1 x2 : Int} (h0 : 0 ≤ x0) (h1 : x0 ≤ x1) (h2 : x2 = x1) : (-1) ≤ x2 := by omega
theorem la_expression_64 {x0 x1 x2 x3 x4 x5 x6 x7 x8 x9 : Int} (h0 : x0 ≤ 4001) (h1 : 0 ≤ x1) (h2 : x2 ≤ 2 * x3) (h3 : x4 < x0) (h4 : 0 ≤ x5) (h5 : x5 = 0 → x6 = x1 ∧ x7 + 1 ≤ x2 + 2 * (x4 - (x3 + 1))) (h6 : 0 < x5 → x7 ≤ x2 + 2 * (x4 - (x3 + 1)) + 2 * x8) (h7 : x8 = 30 * (20 - x1) + 25) (h8 : x9 = x7) : x9 < 12000 := by omega
theorem la_expression_65 {x0 x1 x2 : Int} (h0 : x0 < x1) (h1 : x1 + 1 < x2) : x0 < x2 := by omega
theorem la_expression_66 : (1 : Int) = 1 := by omega
theorem la_expression_67 {x0 : Int} : 17 * (20 - x0) + 17 ≤ 17 * (20 - x0) + 17 := by omega
theorem la_expression_68 {x0 : Int} : 20 - x0 ≤ 20 - x0 := by omega
theorem la_expression_69 {x0 : Int} (h0 : x0 = 3) : ¬ x0 = 2 := by omega
theorem la_expression_70 {x0 x1 : Int} (h0 : 0 ≤ x0) (h1 : x0 < x1) : 0 ≤ x1 := by omega
theorem la_expression_71 {x0 x1 x2 : Int} (h0 : x0 < x1) (h1 : x1 ≤ x2) : x0 < x2 := by omega
theorem la_expression_72 {x0 x1 x2 x3 : Int} (h0 : x0 < x1) (h1 : x1 ≤ x2) (h2 : x3 = x0) : x3 < x2 := by omega
theorem la_expression_73 {x0 x1 x2 : Int} (h0 : x0 < x1) (h1 : x2 = x0) : x2 < x1 := by omega
theorem la_expression_74 {x0 : Int} : x0 = x0 := by omega
theorem la_expression_75 {x0 x1 : Int} (h0 : x0 = x1) : x1 = x0 := by omega
theorem la_expression_76 {x0 x1 : Int} (h0 : x0 = x1) : 5 * x1 = 5 * x0 := by omega
theorem la_expression_77 {x0 x1 : Int} (h0 : x0 = x1) : 5 * x1 + 1 = 5 * x0 + 1 := by omega
theorem la_expression_78 {x0 x1 : Int} (h0 : x0 = x1) : 5 * x1 + 2 = 5 * x0 + 2 := by omega
theorem la_expression_79 {x0 x1 : Int} (h0 : x0 = x1) : 5 * x1 + 3 = 5 * x0 + 3 := by omega
theorem la_expression_80 {x0 x1 : Int} (h0 : x0 = x1) : 5 * x1 + 4 = 5 * x0 + 4 := by omega
theorem la_expression_81 {x0 : Int} (h0 : x0 = 3) (h1 : x0 = 7) : False := by omega
theorem la_expression_82 {x0 x1 x2 x3 x4 : Int} (h0 : x0 + 1 ≤ x1) (h1 : x2 ≤ 1) (h2 : x3 = 1) : 2 * (x4 - x1) + x2 < 2 * (x4 - x0) + x3 := by omega
set_option maxHeartbeats 8000000 in
theorem f_expression : ∀ (d : Int) (p1 : Int) (S : sv_S), sm_ok S → (0 ≤ p1 ∧ p1 ≤ 1) → (0 ≤ (S 1020 0) ∧ (S 1020 0) < (S 1012 0) ∧ sm_TK (S 6) (S 8) (S 9) (S 10) (S 1012 0) ∧ 0 ≤ (S 1021 0) ∧ 0 ≤ (S 1004 0) ∧ (S 1004 0) ≤ 4000 ∧ 1 ≤ (S 1007 0) ∧ (S 1007 0) ≤ 90 ∧ sm_LN (S 4) 400 (S 1007 0) ∧ ((S 1021 0) = 0 → sm_WF (S 11) (S 12) (S 13) (S 1100001) (S 1100002) (S 1100005) (S 1100003) (S 1100004) (S 1024 0) (S 1007 0) (S 1009 0) (sm_fn (S 1032 0) (S 21) (S 1043 0)) ∧ sm_FT (S 11) (S 12) (S 13) (S 1100019) (S 17) (S 18) (S 21) (S 19) (S 20) (S 22) (S 1100016) (S 1024 0) (S 1007 0) (S 1009 0) (S 1032 0) (S 1032 0) ∧ sm_WG (S 1100001) (S 1100019) (S 1043 0) ∧ (S 1100016 (S 1043 0)) = 0) ∧ sm_HD (S 23) (S 24) (S 1100018 0) (S 1007 0) ∧ sm_HD (S 25) (fun _ : Int => (S 1042 0)) 1 (S 1007 0) ∧ 0 ≤ (S 1043 0) ∧ (S 1043 0) < (S 1100018 0) ∧ (S 1100018 0) = (S 1032 0) ∧ (S 1032 0) ≤ 1 + (S 1020 0) ∧ 0 ≤ (S 1031 0) ∧ (S 1031 0) ≤ 100 ∧ 0 ≤ (S 1044 0) ∧ (S 1044 0) ≤ 30 ∧ 0 ≤ (S 1045 0) ∧ (S 1045 0) ≤ 30 ∧ 0 ≤ (S 1024 0) ∧ ((S 1021 0) = 0 → 0 ≤ (S 1023 0) ∧ (S 1023 0) ≤ 20 ∧ (S 1031 0) ≤ 3 * (S 1023 0) + 5 ∧ (S 1024 0) ≤ 2 * (S 1020 0) ∧ (S 1044 0) ≤ (S 1023 0) ∧ (S 1045 0) ≤ (S 1023 0)) ∧ (S 1021 0) = 0) → (30 * (20 - (S 1023 0)) + 26) = d → (0 ≤ p1 ∧ p1 ≤ 1) ∧ (0 ≤ (S 1020 0) ∧ (S 1020 0) < (S 1012 0) ∧ sm_TK (S 6) (S 8) (S 9) (S 10) (S 1012 0) ∧ 0 ≤ (S 1021 0) ∧ 0 ≤ (S 1004 0) ∧ (S 1004 0) ≤ 4000 ∧ 1 ≤ (S 1007 0) ∧ (S 1007 0) ≤ 90 ∧ sm_LN (S 4) 400 (S 1007 0) ∧ ((S 1021 0) = 0 → sm_WF (S 11) (S 12) (S 13) (S 1100001) (S 1100002) (S 1100005) (S 1100003) (S 1100004) (S 1024 0) (S 1007 0) (S 1009 0) (sm_fn (S 1032 0) (S 21) (S 1043 0)) ∧ sm_FT (S 11) (S 12) (S 13) (S 1100019) (S 17) (S 18) (S 21) (S 19) (S 20) (S 22) (S 1100016) (S 1024 0) (S 1007 0) (S 1009 0) (S 1032 0) (S 1032 0) ∧ sm_WG (S 1100001) (S 1100019) (S 1043 0) ∧ (S 1100016 (S 1043 0)) = 0) ∧ sm_HD (S 23) (S 24) (S 1100018 0) (S 1007 0) ∧ sm_HD (S 25) (fun _ : Int => (S 1042 0)) 1 (S 1007 0) ∧ 0 ≤ (S 1043 0) ∧ (S 1043 0) < (S 1100018 0) ∧ (S 1100018 0) = (S 1032 0) ∧ (S 1032 0) ≤ 1 + (S 1020 0) ∧ 0 ≤ (S 1031 0) ∧ (S 1031 0) ≤ 100 ∧ 0 ≤ (S 1044 0) ∧ (S 1044 0) ≤ 30 ∧ 0 ≤ (S 1045 0) ∧ (S 1045 0) ≤ 30 ∧ 0 ≤ (S 1024 0) ∧ ((S 1021 0) = 0 → 0 ≤ (S 1023 0) ∧ (S 1023 0) ≤ 20 ∧ (S 1031 0) ≤ 3 * (S 1023 0) + 5 ∧ (S 1024 0) ≤ 2 * (S 1020 0) ∧ (S 1044 0) ≤ (S 1023 0) ∧ (S 1045 0) ≤ (S 1023 0))) ∧ (0 ≤ ((if 0 < (S 1021 0) then 12 else 30 * (20 - (S 1023 0)) + 25)) ∧ ((if 0 < (S 1021 0) then 12 else 30 * (20 - (S 1023 0)) + 25)) < d) ∧ (0 ≤ ((if 0 < (S 1021 0) then 12 else 30 * (20 - (S 1023 0)) + 25)) ∧ ((if 0 < (S 1021 0) then 12 else 30 * (20 - (S 1023 0)) + 25)) + 1 ≤ (30 * (20 - (S 1023 0)) + 26)) ∧ (∀ r9 : Int, sv_R r9 → ∀ g5 : sv_S, ((S 1020 0) ≤ (g5 1020 0) ∧ (g5 1020 0) < (S 1012 0) ∧ 0 ≤ (g5 1021 0) ∧ (0 < (S 1021 0) → 0 < (g5 1021 0)) ∧ (S 1007 0) ≤ (g5 1007 0) ∧ (g5 1007 0) ≤ 90 ∧ sm_LN (g5 4) 400 (g5 1007 0) ∧ ((S 1009 0) = 1 → (g5 1009 0) = 1) ∧ ((g5 1021 0) = 0 → sm_WF (g5 11) (g5 12) (g5 13) (g5 1100001) (g5 1100002) (g5 1100005) (g5 1100003) (g5 1100004) (g5 1024 0) (g5 1007 0) (g5 1009 0) (sm_fn (g5 1032 0) (g5 21) (g5 1043 0)) ∧ sm_PX (S 11) (S 12) (S 13) (S 1100001) (S 1100002) (S 1100005) (S 1100003) (S 1100004) (g5 11) (g5 12) (g5 13) (g5 1100001) (g5 1100002) (g5 1100005) (g5 1100003) (g5 1100004) (S 1024 0) ∧ sm_FT (g5 11) (g5 12) (g5 13) (g5 1100019) (g5 17) (g5 18) (g5 21) (g5 19) (g5 20) (g5 22) (g5 1100016) (g5 1024 0) (g5 1007 0) (g5 1009 0) (g5 1032 0) (g5 1032 0) ∧ sm_WG (g5 1100001) (g5 1100019) (g5 1043 0) ∧ sm_F1 (S 1100019) (g5 1100019) (S 1024 0) ∧ sm_F1 (S 17) (g5 17) (S 1032 0) ∧ sm_F1 (S 18) (g5 18) (S 1032 0) ∧ sm_F1 (S 21) (g5 21) (S 1032 0) ∧ sm_F1 (S 20) (g5 20) (S 1032 0) ∧ sm_F1 (S 22) (g5 22) (S 1032 0) ∧ sm_F1 (S 1100016) (g5 1100016) (S 1032 0) ∧ sm_F1 (S 19) (g5 19) (8 * (S 1032 0)) ∧ sm_FN (g5 1100016) (S 1032 0) (g5 1032 0)) ∧ sm_KL (S 15) (S 16) (g5 15) (g5 16) (S 1031 0) ∧ sm_HD (g5 23) (g5 24) (g5 1100018 0) (g5 1007 0) ∧ sm_HD (g5 25) (fun _ : Int => (g5 1042 0)) 1 (g5 1007 0) ∧ (g5 1031 0) = (S 1031 0) ∧ (g5 1043 0) = (S 1043 0) ∧ (g5 1044 0) = (S 1044 0) ∧ (g5 1045 0) = (S 1045 0) ∧ (S 1032 0) ≤ (g5 1032 0) ∧ (g5 1032 0) ≤ 1 + (g5 1020 0) ∧ (g5 1100018 0) = (g5 1032 0) ∧ (S 1024 0) ≤ (g5 1024 0) ∧ ((g5 1021 0) = 0 → (g5 1023 0) = (S 1023 0) ∧ (g5 1024 0) + 1 ≤ (S 1024 0) + 2 * ((g5 1020 0) - (S 1020 0))) ∧ (0 < (g5 1021 0) → (g5 1024 0) ≤ (S 1024 0) + 2 * ((g5 1020 0) - (S 1020 0)) + 2 * ((if 0 < (S 1021 0) then 12 else 30 * (20 - (S 1023 0)) + 25))) ∧ -1 ≤ r9 ∧ r9 < 12000 ∧ ((g5 1021 0) = 0 → (S 1020 0) < (g5 1020 0) ∧ 1 ≤ (S 6 (S 1020 0)) ∧ sm_ex (g5 1100001) (g5 1100002) (g5 1100005) (g5 1024 0) 1 r9 (17 * (20 - (S 1023 0)) + 17) (20 - (S 1023 0)) ∧ ((g5 11 r9) = 2 ∨ (g5 11 r9) = 7 → (g5 1100002 r9) ≤ 17 * (20 - (S 1023 0)) + 2)) ∧ (0 < (S 1021 0) → (g5 1020 0) = (S 1020 0) ∧ (g5 1024 0) = (S 1024 0))) → ((0 ≤ (g5 1020 0) ∧ (g5 1020 0) < (S 1012 0) ∧ sm_TK (S 6) (S 8) (S 9) (S 10) (S 1012 0) ∧ 0 ≤ (g5 1021 0) ∧ 0 ≤ (S 1004 0) ∧ (S 1004 0) ≤ 4000 ∧ 1 ≤ (g5 1007 0) ∧ (g5 1007 0) ≤ 90 ∧ sm_LN (g5 4) 400 (g5 1007 0) ∧ ((g5 1021 0) = 0 → sm_WF (g5 11) (g5 12) (g5 13) (g5 1100001) (g5 1100002) (g5 1100005) (g5 1100003) (g5 1100004) (g5 1024 0) (g5 1007 0) (g5 1009 0) (sm_fn (g5 1032 0) (g5 21) (g5 1043 0)) ∧ sm_FT (g5 11) (g5 12) (g5 13) (g5 1100019) (g5 17) (g5 18) (g5 21) (g5 19) (g5 20) (g5 22) (g5 1100016) (g5 1024 0) (g5 1007 0) (g5 1009 0) (g5 1032 0) (g5 1032 0) ∧ sm_WG (g5 1100001) (g5 1100019) (g5 1043 0) ∧ (g5 1100016 (g5 1043 0)) = 0) ∧ sm_HD (g5 23) (g5 24) (g5 1100018 0) (g5 1007 0) ∧ sm_HD (g5 25) (fun _ : Int => (g5 1042 0)) 1 (g5 1007 0) ∧ 0 ≤ (g5 1043 0) ∧ (g5 1043 0) < (g5 1100018 0) ∧ (g5 1100018 0) = (g5 1032 0) ∧ (g5 1032 0) ≤ 1 + (g5 1020 0) ∧ 0 ≤ (g5 1031 0) ∧ (g5 1031 0) ≤ 100 ∧ 0 ≤ (g5 1044 0) ∧ (g5 1044 0) ≤ 30 ∧ 0 ≤ (g5 1045 0) ∧ (g5 1045 0) ≤ 30 ∧ 0 ≤ (g5 1024 0) ∧ ((g5 1021 0) = 0 → 0 ≤ (g5 1023 0) ∧ (g5 1023 0) ≤ 20 ∧ (g5 1031 0) ≤ 3 * (g5 1023 0) + 5 ∧ (g5 1024 0) ≤ 2 * (g5 1020 0) ∧ (g5 1044 0) ≤ (g5 1023 0) ∧ (g5 1045 0) ≤ (g5 1023 0)) ∧ (S 1020 0) ≤ (g5 1020 0) ∧ (g5 1020 0) < (S 1012 0) ∧ 0 ≤ (g5 1021 0) ∧ (0 < (S 1021 0) → 0 < (g5 1021 0)) ∧ (S 1007 0) ≤ (g5 1007 0) ∧ (g5 1007 0) ≤ 90 ∧ sm_LN (g5 4) 400 (g5 1007 0) ∧ ((S 1009 0) = 1 → (g5 1009 0) = 1) ∧ ((g5 1021 0) = 0 → sm_WF (g5 11) (g5 12) (g5 13) (g5 1100001) (g5 1100002) (g5 1100005) (g5 1100003) (g5 1100004) (g5 1024 0) (g5 1007 0) (g5 1009 0) (sm_fn (g5 1032 0) (g5 21) (g5 1043 0)) ∧ sm_PX (S 11) (S 12) (S 13) (S 1100001) (S 1100002) (S 1100005) (S 1100003) (S 1100004) (g5 11) (g5 12) (g5 13) (g5 1100001) (g5 1100002) (g5 1100005) (g5 1100003) (g5 1100004) (S 1024 0) ∧ sm_FT (g5 11) (g5 12) (g5 13) (g5 1100019) (g5 17) (g5 18) (g5 21) (g5 19) (g5 20) (g5 22) (g5 1100016) (g5 1024 0) (g5 1007 0) (g5 1009 0) (g5 1032 0) (g5 1032 0) ∧ sm_WG (g5 1100001) (g5 1100019) (g5 1043 0) ∧ sm_F1 (S 1100019) (g5 1100019) (S 1024 0) ∧ sm_F1 (S 17) (g5 17) (S 1032 0) ∧ sm_F1 (S 18) (g5 18) (S 1032 0) ∧ sm_F1 (S 21) (g5 21) (S 1032 0) ∧ sm_F1 (S 20) (g5 20) (S 1032 0) ∧ sm_F1 (S 22) (g5 22) (S 1032 0) ∧ sm_F1 (S 1100016) (g5 1100016) (S 1032 0) ∧ sm_F1 (S 19) (g5 19) (8 * (S 1032 0)) ∧ sm_FN (g5 1100016) (S 1032 0) (g5 1032 0)) ∧ sm_KL (S 15) (S 16) (g5 15) (g5 16) (S 1031 0) ∧ sm_HD (g5 23) (g5 24) (g5 1100018 0) (g5 1007 0) ∧ sm_HD (g5 25) (fun _ : Int => (g5 1042 0)) 1 (g5 1007 0) ∧ (g5 1031 0) = (S 1031 0) ∧ (g5 1043 0) = (S 1043 0) ∧ (g5 1044 0) = (S 1044 0) ∧ (g5 1045 0) = (S 1045 0) ∧ (S 1032 0) ≤ (g5 1032 0) ∧ (g5 1032 0) ≤ 1 + (g5 1020 0) ∧ (g5 1100018 0) = (g5 1032 0) ∧ (S 1024 0) ≤ (g5 1024 0) ∧ ((g5 1021 0) = 0 → (g5 1023 0) = (S 1023 0) ∧ (g5 1024 0) + 1 ≤ (S 1024 0) + 2 * ((g5 1020 0) - (S 1020 0))) ∧ (0 < (g5 1021 0) → (g5 1024 0) ≤ (S 1024 0) + 2 * ((g5 1020 0) - (S 1020 0)) + 2 * (30 * (20 - (S 1023 0)) + 26)) ∧ -1 ≤ r9 ∧ r9 < 12000 ∧ ((g5 1021 0) = 0 → (S 1020 0) < (g5 1020 0) ∧ 1 ≤ (S 6 (S 1020 0)) ∧ sm_ex (g5 1100001) (g5 1100002) (g5 1100005) (g5 1024 0) 1 r9 (17 * (20 - (S 1023 0)) + 17) (20 - (S 1023 0)) ∧ ((g5 11 r9) = 2 ∨ (g5 11 r9) = 7 → (g5 1100002 r9) ≤ 17 * (20 - (S 1023 0)) + 2))) ∧ (∀ l2_12 : Int, sv_R l2_12 → ∀ g11 : sv_S, (0 ≤ (g11 1020 0) ∧ (g11 1020 0) < (S 1012 0) ∧ sm_TK (S 6) (S 8) (S 9) (S 10) (S 1012 0) ∧ 0 ≤ (g11 1021 0) ∧ 0 ≤ (S 1004 0) ∧ (S 1004 0) ≤ 4000 ∧ 1 ≤ (g11 1007 0) ∧ (g11 1007 0) ≤ 90 ∧ sm_LN (g11 4) 400 (g11 1007 0) ∧ ((g11 1021 0) = 0 → sm_WF (g11 11) (g11 12) (g11 13) (g11 1100001) (g11 1100002) (g11 1100005) (g11 1100003) (g11 1100004) (g11 1024 0) (g11 1007 0) (g11 1009 0) (sm_fn (g11 1032 0) (g11 21) (g11 1043 0)) ∧ sm_FT (g11 11) (g11 12) (g11 13) (g11 1100019) (g11 17) (g11 18) (g11 21) (g11 19) (g11 20) (g11 22) (g11 1100016) (g11 1024 0) (g11 1007 0) (g11 1009 0) (g11 1032 0) (g11 1032 0) ∧ sm_WG (g11 1100001) (g11 1100019) (g11 1043 0) ∧ (g11 1100016 (g11 1043 0)) = 0) ∧ sm_HD (g11 23) (g11 24) (g11 1100018 0) (g11 1007 0) ∧ sm_HD (g11 25) (fun _ : Int => (g11 1042 0)) 1 (g11 1007 0) ∧ 0 ≤ (g11 1043 0) ∧ (g11 1043 0) < (g11 1100018 0) ∧ (g11 1100018 0) = (g11 1032 0) ∧ (g11 1032 0) ≤ 1 + (g11 1020 0) ∧ 0 ≤ (g11 1031 0) ∧ (g11 1031 0) ≤ 100 ∧ 0 ≤ (g11 1044 0) ∧ (g11 1044 0) ≤ 30 ∧ 0 ≤ (g11 1045 0) ∧ (g11 1045 0) ≤ 30 ∧ 0 ≤ (g11 1024 0) ∧ ((g11 1021 0) = 0 → 0 ≤ (g11 1023 0) ∧ (g11 1023 0) ≤ 20 ∧ (g11 1031 0) ≤ 3 * (g11 1023 0) + 5 ∧ (g11 1024 0) ≤ 2 * (g11 1020 0) ∧ (g11 1044 0) ≤ (g11 1023 0) ∧ (g11 1045 0) ≤ (g11 1023 0)) ∧ (S 1020 0) ≤ (g11 1020 0) ∧ (g11 1020 0) < (S 1012 0) ∧ 0 ≤ (g11 1021 0) ∧ (0 < (S 1021 0) → 0 < (g11 1021 0)) ∧ (S 1007 0) ≤ (g11 1007 0) ∧ (g11 1007 0) ≤ 90 ∧ sm_LN (g11 4) 400 (g11 1007 0) ∧ ((S 1009 0) = 1 → (g11 1009 0) = 1) ∧ ((g11 1021 0) = 0 → sm_WF (g11 11) (g11 12) (g11 13) (g11 1100001) (g11 1100002) (g11 1100005) (g11 1100003) (g11 1100004) (g11 1024 0) (g11 1007 0) (g11 1009 0) (sm_fn (g11 1032 0) (g11 21) (g11 1043 0)) ∧ sm_PX (S 11) (S 12) (S 13) (S 1100001) (S 1100002) (S 1100005) (S 1100003) (S 1100004) (g11 11) (g11 12) (g11 13) (g11 1100001) (g11 1100002) (g11 1100005) (g11 1100003) (g11 1100004) (S 1024 0) ∧ sm_FT (g11 11) (g11 12) (g11 13) (g11 1100019) (g11 17) (g11 18) (g11 21) (g11 19) (g11 20) (g11 22) (g11 1100016) (g11 1024 0) (g11 1007 0) (g11 1009 0) (g11 1032 0) (g11 1032 0) ∧ sm_WG (g11 1100001) (g11 1100019) (g11 1043 0) ∧ sm_F1 (S 1100019) (g11 1100019) (S 1024 0) ∧ sm_F1 (S 17) (g11 17) (S 1032 0) ∧ sm_F1 (S 18) (g11 18) (S 1032 0) ∧ sm_F1 (S 21) (g11 21) (S 1032 0) ∧ sm_F1 (S 20) (g11 20) (S 1032 0) ∧ sm_F1 (S 22) (g11 22) (S 1032 0) ∧ sm_F1 (S 1100016) (g11 1100016) (S 1032 0) ∧ sm_F1 (S 19) (g11 19) (8 * (S 1032 0)) ∧ sm_FN (g11 1100016) (S 1032 0) (g11 1032 0)) ∧ sm_KL (S 15) (S 16) (g11 15) (g11 16) (S 1031 0) ∧ sm_HD (g11 23) (g11 24) (g11 1100018 0) (g11 1007 0) ∧ sm_HD (g11 25) (fun _ : Int => (g11 1042 0)) 1 (g11 1007 0) ∧ (g11 1031 0) = (S 1031 0) ∧ (g11 1043 0) = (S 1043 0) ∧ (g11 1044 0) = (S 1044 0) ∧ (g11 1045 0) = (S 1045 0) ∧ (S 1032 0) ≤ (g11 1032 0) ∧ (g11 1032 0) ≤ 1 + (g11 1020 0) ∧ (g11 1100018 0) = (g11 1032 0) ∧ (S 1024 0) ≤ (g11 1024 0) ∧ ((g11 1021 0) = 0 → (g11 1023 0) = (S 1023 0) ∧ (g11 1024 0) + 1 ≤ (S 1024 0) + 2 * ((g11 1020 0) - (S 1020 0))) ∧ (0 < (g11 1021 0) → (g11 1024 0) ≤ (S 1024 0) + 2 * ((g11 1020 0) - (S 1020 0)) + 2 * (30 * (20 - (S 1023 0)) + 26)) ∧ -1 ≤ l2_12 ∧ l2_12 < 12000 ∧ ((g11 1021 0) = 0 → (S 1020 0) < (g11 1020 0) ∧ 1 ≤ (S 6 (S 1020 0)) ∧ sm_ex (g11 1100001) (g11 1100002) (g11 1100005) (g11 1024 0) 1 l2_12 (17 * (20 - (S 1023 0)) + 17) (20 - (S 1023 0)) ∧ ((g11 11 l2_12) = 2 ∨ (g11 11 l2_12) = 7 → (g11 1100002 l2_12) ≤ 17 * (20 - (S 1023 0)) + 2))) → (0 ≤ 2 * ((S 1012 0) - (g11 1020 0)) + (if (g11 1021 0) = 0 then 1 else 0)) ∧ (sv_R (g11 1021 0) → (((¬ (g11 1021 0) = (0 : Int)) → ((S 1020 0) ≤ (g11 1020 0) ∧ (g11 1020 0) < (S 1012 0) ∧ 0 ≤ (g11 1021 0) ∧ (0 < (S 1021 0) → 0 < (g11 1021 0)) ∧ (S 1007 0) ≤ (g11 1007 0) ∧ (g11 1007 0) ≤ 90 ∧ sm_LN (g11 4) 400 (g11 1007 0) ∧ ((S 1009 0) = 1 → (g11 1009 0) = 1) ∧ ((g11 1021 0) = 0 → sm_WF (g11 11) (g11 12) (g11 13) (g11 1100001) (g11 1100002) (g11 1100005) (g11 1100003) (g11 1100004) (g11 1024 0) (g11 1007 0) (g11 1009 0) (sm_fn (g11 1032 0) (g11 21) (g11 1043 0)) ∧ sm_PX (S 11) (S 12) (S 13) (S 1100001) (S 1100002) (S 1100005) (S 1100003) (S 1100004) (g11 11) (g11 12) (g11 13) (g11 1100001) (g11 1100002) (g11 1100005) (g11 1100003) (g11 1100004) (S 1024 0) ∧ sm_FT (g11 11) (g11 12) (g11 13) (g11 1100019) (g11 17) (g11 18) (g11 21) (g11 19) (g11 20) (g11 22) (g11 1100016) (g11 1024 0) (g11 1007 0) (g11 1009 0) (g11 1032 0) (g11 1032 0) ∧ sm_WG (g11 1100001) (g11 1100019) (g11 1043 0) ∧ sm_F1 (S 1100019) (g11 1100019) (S 1024 0) ∧ sm_F1 (S 17) (g11 17) (S 1032 0) ∧ sm_F1 (S 18) (g11 18) (S 1032 0) ∧ sm_F1 (S 21) (g11 21) (S 1032 0) ∧ sm_F1 (S 20) (g11 20) (S 1032 0) ∧ sm_F1 (S 22) (g11 22) (S 1032 0) ∧ sm_F1 (S 1100016) (g11 1100016) (S 1032 0) ∧ sm_F1 (S 19) (g11 19) (8 * (S 1032 0)) ∧ sm_FN (g11 1100016) (S 1032 0) (g11 1032 0)) ∧ sm_KL (S 15) (S 16) (g11 15) (g11 16) (S 1031 0) ∧ sm_HD (g11 23) (g11 24) (g11 1100018 0) (g11 1007 0) ∧ sm_HD (g11 25) (fun _ : Int => (g11 1042 0)) 1 (g11 1007 0) ∧ (g11 1031 0) = (S 1031 0) ∧ (g11 1043 0) = (S 1043 0) ∧ (g11 1044 0) = (S 1044 0) ∧ (g11 1045 0) = (S 1045 0) ∧ (S 1032 0) ≤ (g11 1032 0) ∧ (g11 1032 0) ≤ 1 + (g11 1020 0) ∧ (g11 1100018 0) = (g11 1032 0) ∧ (S 1024 0) ≤ (g11 1024 0) ∧ ((g11 1021 0) = 0 → (g11 1023 0) = (S 1023 0) ∧ (g11 1024 0) + 1 ≤ (S 1024 0) + 2 * ((g11 1020 0) - (S 1020 0))) ∧ (0 < (g11 1021 0) → (g11 1024 0) ≤ (S 1024 0) + 2 * ((g11 1020 0) - (S 1020 0)) + 2 * (30 * (20 - (S 1023 0)) + 26)) ∧ -1 ≤ l2_12 ∧ l2_12 < 12000 ∧ ((g11 1021 0) = 0 → (S 1020 0) < (g11 1020 0) ∧ 1 ≤ (S 6 (S 1020 0)) ∧ sm_ex (g11 1100001) (g11 1100002) (g11 1100005) (g11 1024 0) 1 l2_12 (17 * (20 - (S 1023 0)) + 17) (20 - (S 1023 0)) ∧ ((g11 11 l2_12) = 2 ∨ (g11 11 l2_12) = 7 → (g11 1100002 l2_12) ≤ 17 * (20 - (S 1023 0)) + 2)))) ∧ ((¬ (¬ (g11 1021 0) = (0 : Int))) → (0 ≤ (g11 1020 0) ∧ (g11 1020 0) ≤ 4000) ∧ (0 + 1 ≤ (30 * (20 - (S 1023 0)) + 26)) ∧ (((¬ ((S 6 (g11 1020 0)) = 5 ∧ (S 7 (g11 1020 0)) = (32 : Int))) → ((S 1020 0) ≤ (g11 1020 0) ∧ (g11 1020 0) < (S 1012 0) ∧ 0 ≤ (g11 1021 0) ∧ (0 < (S 1021 0) → 0 < (g11 1021 0)) ∧ (S 1007 0) ≤ (g11 1007 0) ∧ (g11 1007 0) ≤ 90 ∧ sm_LN (g11 4) 400 (g11 1007 0) ∧ ((S 1009 0) = 1 → (g11 1009 0) = 1) ∧ ((g11 1021 0) = 0 → sm_WF (g11 11) (g11 12) (g11 13) (g11 1100001) (g11 1100002) (g11 1100005) (g11 1100003) (g11 1100004) (g11 1024 0) (g11 1007 0) (g11 1009 0) (sm_fn (g11 1032 0) (g11 21) (g11 1043 0)) ∧ sm_PX (S 11) (S 12) (S 13) (S 1100001) (S 1100002) (S 1100005) (S 1100003) (S 1100004) (g11 11) (g11 12) (g11 13) (g11 1100001) (g11 1100002) (g11 1100005) (g11 1100003) (g11 1100004) (S 1024 0) ∧ sm_FT (g11 11) (g11 12) (g11 13) (g11 1100019) (g11 17) (g11 18) (g11 21) (g11 19) (g11 20) (g11 22) (g11 1100016) (g11 1024 0) (g11 1007 0) (g11 1009 0) (g11 1032 0) (g11 1032 0) ∧ sm_WG (g11 1100001) (g11 1100019) (g11 1043 0) ∧ sm_F1 (S 1100019) (g11 1100019) (S 1024 0) ∧ sm_F1 (S 17) (g11 17) (S 1032 0) ∧ sm_F1 (S 18) (g11 18) (S 1032 0) ∧ sm_F1 (S 21) (g11 21) (S 1032 0) ∧ sm_F1 (S 20) (g11 20) (S 1032 0) ∧ sm_F1 (S 22) (g11 22) (S 1032 0) ∧ sm_F1 (S 1100016) (g11 1100016) (S 1032 0) ∧ sm_F1 (S 19) (g11 19) (8 * (S 1032 0)) ∧ sm_FN (g11 1100016) (S 1032 0) (g11 1032 0)) ∧ sm_KL (S 15) (S 16) (g11 15) (g11 16) (S 1031 0) ∧ sm_HD (g11 23) (g11 24) (g11 1100018 0) (g11 1007 0) ∧ sm_HD (g11 25) (fun _ : Int => (g11 1042 0)) 1 (g11 1007 0) ∧ (g11 1031 0) = (S 1031 0) ∧ (g11 1043 0) = (S 1043 0) ∧ (g11 1044 0) = (S 1044 0) ∧ (g11 1045 0) = (S 1045 0) ∧ (S 1032 0) ≤ (g11 1032 0) ∧ (g11 1032 0) ≤ 1 + (g11 1020 0) ∧ (g11 1100018 0) = (g11 1032 0) ∧ (S 1024 0) ≤ (g11 1024 0) ∧ ((g11 1021 0) = 0 → (g11 1023 0) = (S 1023 0) ∧ (g11 1024 0) + 1 ≤ (S 1024 0) + 2 * ((g11 1020 0) - (S 1020 0))) ∧ (0 < (g11 1021 0) → (g11 1024 0) ≤ (S 1024 0) + 2 * ((g11 1020 0) - (S 1020 0)) + 2 * (30 * (20 - (S 1023 0)) + 26)) ∧ -1 ≤ l2_12 ∧ l2_12 < 12000 ∧ ((g11 1021 0) = 0 → (S 1020 0) < (g11 1020 0) ∧ 1 ≤ (S 6 (S 1020 0)) ∧ sm_ex (g11 1100001) (g11 1100002) (g11 1100005) (g11 1024 0) 1 l2_12 (17 * (20 - (S 1023 0)) + 17) (20 - (S 1023 0)) ∧ ((g11 11 l2_12) = 2 ∨ (g11 11 l2_12) = 7 → (g11 1100002 l2_12) ≤ 17 * (20 - (S 1023 0)) + 2)))) ∧ (((S 6 (g11 1020 0)) = 5 ∧ (S 7 (g11 1020 0)) = (32 : Int)) → (sv_R (g11 1020 0) → (sv_R ((g11 1020 0) + (1 : Int))) ∧ (0 ≤ ((g11 1020 0) + (1 : Int)) ∧ ((g11 1020 0) + (1 : Int)) < (S 1012 0) ∧ sm_TK (S 6) (S 8) (S 9) (S 10) (S 1012 0) ∧ 0 ≤ (g11 1021 0) ∧ 0 ≤ (S 1004 0) ∧ (S 1004 0) ≤ 4000 ∧ 1 ≤ (g11 1007 0) ∧ (g11 1007 0) ≤ 90 ∧ sm_LN (g11 4) 400 (g11 1007 0) ∧ ((g11 1021 0) = 0 → sm_WF (g11 11) (g11 12) (g11 13) (g11 1100001) (g11 1100002) (g11 1100005) (g11 1100003) (g11 1100004) (g11 1024 0) (g11 1007 0) (g11 1009 0) (sm_fn (g11 1032 0) (g11 21) (g11 1043 0)) ∧ sm_FT (g11 11) (g11 12) (g11 13) (g11 1100019) (g11 17) (g11 18) (g11 21) (g11 19) (g11 20) (g11 22) (g11 1100016) (g11 1024 0) (g11 1007 0) (g11 1009 0) (g11 1032 0) (g11 1032 0) ∧ sm_WG (g11 1100001) (g11 1100019) (g11 1043 0) ∧ (g11 1100016 (g11 1043 0)) = 0) ∧ sm_HD (g11 23) (g11 24) (g11 1100018 0) (g11 1007 0) ∧ sm_HD (g11 25) (fun _ : Int => (g11 1042 0)) 1 (g11 1007 0) ∧ 0 ≤ (g11 1043 0) ∧ (g11 1043 0) < (g11 1100018 0) ∧ (g11 1100018 0) = (g11 1032 0) ∧ (g11 1032 0) ≤ 1 + ((g11 1020 0) + (1 : Int)) ∧ 0 ≤ (g11 1031 0) ∧ (g11 1031 0) ≤ 100 ∧ 0 ≤ (g11 1044 0) ∧ (g11 1044 0) ≤ 30 ∧ 0 ≤ (g11 1045 0) ∧ (g11 1045 0) ≤ 30 ∧ 0 ≤ (g11 1024 0) ∧ ((g11 1021 0) = 0 → 0 ≤ (g11 1023 0) ∧ (g11 1023 0) ≤ 20 ∧ (g11 1031 0) ≤ 3 * (g11 1023 0) + 5 ∧ (g11 1024 0) ≤ 2 * ((g11 1020 0) + (1 : Int)) ∧ (g11 1044 0) ≤ (g11 1023 0) ∧ (g11 1045 0) ≤ (g11 1023 0))) ∧ (0 ≤ ((if 0 < (g11 1021 0) then 12 else 30 * (20 - (g11 1023 0)) + 25)) ∧ ((if 0 < (g11 1021 0) then 12 else 30 * (20 - (g11 1023 0)) + 25)) < d) ∧ (0 ≤ ((if 0 < (g11 1021 0) then 12 else 30 * (20 - (g11 1023 0)) + 25)) ∧ ((if 0 < (g11 1021 0) then 12 else 30 * (20 - (g11 1023 0)) + 25)) + 1 ≤ (30 * (20 - (S 1023 0)) + 26)) ∧ (∀ r33 : Int, sv_R r33 → ∀ g29 : sv_S, (((g11 1020 0) + (1 : Int)) ≤ (g29 1020 0) ∧ (g29 1020 0) < (S 1012 0) ∧ 0 ≤ (g29 1021 0) ∧ (0 < (g11 1021 0) → 0 < (g29 1021 0)) ∧ (g11 1007 0) ≤ (g29 1007 0) ∧ (g29 1007 0) ≤ 90 ∧ sm_LN (g29 4) 400 (g29 1007 0) ∧ ((g11 1009 0) = 1 → (g29 1009 0) = 1) ∧ ((g29 1021 0) = 0 → sm_WF (g29 11) (g29 12) (g29 13) (g29 1100001) (g29 1100002) (g29 1100005) (g29 1100003) (g29 1100004) (g29 1024 0) (g29 1007 0) (g29 1009 0) (sm_fn (g29 1032 0) (g29 21) (g29 1043 0)) ∧ sm_PX (g11 11) (g11 12) (g11 13) (g11 1100001) (g11 1100002) (g11 1100005) (g11 1100003) (g11 1100004) (g29 11) (g29 12) (g29 13) (g29 1100001) (g29 1100002) (g29 1100005) (g29 1100003) (g29 1100004) (g11 1024 0) ∧ sm_FT (g29 11) (g29 12) (g29 13) (g29 1100019) (g29 17) (g29 18) (g29 21) (g29 19) (g29 20) (g29 22) (g29 1100016) (g29 1024 0) (g29 1007 0) (g29 1009 0) (g29 1032 0) (g29 1032 0) ∧ sm_WG (g29 1100001) (g29 1100019) (g29 1043 0) ∧ sm_F1 (g11 1100019) (g29 1100019) (g11 1024 0) ∧ sm_F1 (g11 17) (g29 17) (g11 1032 0) ∧ sm_F1 (g11 18) (g29 18) (g11 1032 0) ∧ sm_F1 (g11 21) (g29 21) (g11 1032 0) ∧ sm_F1 (g11 20) (g29 20) (g11 1032 0) ∧ sm_F1 (g11 22) (g29 22) (g11 1032 0) ∧ sm_F1 (g11 1100016) (g29 1100016) (g11 1032 0) ∧ sm_F1 (g11 19) (g29 19) (8 * (g11 1032 0)) ∧ sm_FN (g29 1100016) (g11 1032 0) (g29 1032 0)) ∧ sm_KL (g11 15) (g11 16) (g29 15) (g29 16) (g11 1031 0) ∧ sm_HD (g29 23) (g29 24) (g29 1100018 0) (g29 1007 0) ∧ sm_HD (g29 25) (fun _ : Int => (g29 1042 0)) 1 (g29 1007 0) ∧ (g29 1031 0) = (g11 1031 0) ∧ (g29 1043 0) = (g11 1043 0) ∧ (g29 1044 0) = (g11 1044 0) ∧ (g29 1045 0) = (g11 1045 0) ∧ (g11 1032 0) ≤ (g29 1032 0) ∧ (g29 1032 0) ≤ 1 + (g29 1020 0) ∧ (g29 1100018 0) = (g29 1032 0) ∧ (g11 1024 0) ≤ (g29 1024 0) ∧ ((g29 1021 0) = 0 → (g29 1023 0) = (g11 1023 0) ∧ (g29 1024 0) + 1 ≤ (g11 1024 0) + 2 * ((g29 1020 0) - ((g11 1020 0) + (1 : Int)))) ∧ (0 < (g29 1021 0) → (g29 1024 0) ≤ (g11 1024 0) + 2 * ((g29 1020 0) - ((g11 1020 0) + (1 : Int))) + 2 * ((if 0 < (g11 1021 0) then 12 else 30 * (20 - (g11 1023 0)) + 25))) ∧ -1 ≤ r33 ∧ r33 < 12000 ∧ ((g29 1021 0) = 0 → ((g11 1020 0) + (1 : Int)) < (g29 1020 0) ∧ 1 ≤ (S 6 ((g11 1020 0) + (1 : Int))) ∧ sm_ex (g29 1100001) (g29 1100002) (g29 1100005) (g29 1024 0) 1 r33 (17 * (20 - (g11 1023 0)) + 17) (20 - (g11 1023 0)) ∧ ((g29 11 r33) = 2 ∨ (g29 11 r33) = 7 → (g29 1100002 r33) ≤ 17 * (20 - (g11 1023 0)) + 2)) ∧ (0 < (g11 1021 0) → (g29 1020 0) = ((g11 1020 0) + (1 : Int)) ∧ (g29 1024 0) = (g11 1024 0))) → (0 ≤ (g29 1024 0) ∧ (g29 1024 0) < 12000) ∧ (∀ r41 : Int, sv_R r41 → ∀ g37 : sv_S, (r41 = (g29 1024 0) ∧ (g37 1024 0) = (g29 1024 0) + 1 ∧ (g37 11 r41) = (3 : Int) ∧ (g37 12 (5 * r41)) = l2_12 ∧ (g37 12 (5 * r41 + 1)) = r33 ∧ (g37 12 (5 * r41 + 2)) = (0 : Int) ∧ (g37 12 (5 * r41 + 3)) = -1 ∧ (g37 12 (5 * r41 + 4)) = -1 ∧ (g37 13 r41) = -1 ∧ (g37 14 r41) = 0 ∧ (∀ n : Int, n < (g29 1024 0) → (g37 14 n) = (g29 14 n)) ∧ (sm_WF (g29 11) (g29 12) (g29 13) (g29 1100001) (g29 1100002) (g29 1100005) (g29 1100003) (g29 1100004) (g29 1024 0) (g29 1007 0) (g29 1009 0) (sm_fn (g29 1032 0) (g29 21) (g29 1043 0)) → sm_WF (g37 11) (g37 12) (g37 13) (g29 1100001) (g29 1100002) (g29 1100005) (g29 1100003) (g29 1100004) (g37 1024 0) (g29 1007 0) (g29 1009 0) (sm_fn (g29 1032 0) (g29 21) (g29 1043 0)) ∧ (g29 1100001 r41) = 0) ∧ sm_PX (g29 11) (g29 12) (g29 13) (g29 1100001) (g29 1100002) (g29 1100005) (g29 1100003) (g29 1100004) (g37 11) (g37 12) (g37 13) (g29 1100001) (g29 1100002) (g29 1100005) (g29 1100003) (g29 1100004) (g29 1024 0) ∧ (g37 1100019 r41) = (g29 1043 0) ∧ sm_F1 (g29 1100019) (g37 1100019) (g29 1024 0) ∧ (sm_WG (g29 1100001) (g29 1100019) (g29 1043 0) → sm_WG (g29 1100001) (g37 1100019) (g29 1043 0)) ∧ (sm_FT (g29 11) (g29 12) (g29 13) (g29 1100019) (g29 17) (g29 18) (g29 21) (g29 19) (g29 20) (g29 22) (g29 1100016) (g29 1024 0) (g29 1007 0) (g29 1009 0) (g29 1032 0) (g29 1032 0) → sm_FT (g37 11) (g37 12) (g37 13) (g37 1100019) (g29 17) (g29 18) (g29 21) (g29 19) (g29 20) (g29 22) (g29 1100016) (g37 1024 0) (g29 1007 0) (g29 1009 0) (g29 1032 0) (g29 1032 0))) → (sv_R ((17 * (20 - (S 1023 0)) + 17))) ∧ (sv_R ((20 - (S 1023 0)))) ∧ (((g29 1021 0) = 0 → sm_WG (g29 1100001) (g37 1100019) (g29 1043 0) → (g37 1100019 r41) = (g29 1043 0) → sm_WG (fun i' : Int => if i' = r41 then (1 : Int) else (g29 1100001) i') (g37 1100019) (g29 1043 0)) → (((g29 1021 0) = 0 → sm_WF (g37 11) (g37 12) (g37 13) (g29 1100001) (g29 1100002) (g29 1100005) (g29 1100003) (g29 1100004) (g37 1024 0) (g29 1007 0) (g29 1009 0) (sm_fn (g29 1032 0) (g29 21) (g29 1043 0)) → (g29 1100001 r41) = 0 → 0 ≤ r41 → r41 < (g37 1024 0) → (g37 13 r41) = -1 → (g37 11 r41) = 3 → (sm_ex (g29 1100001) (g29 1100002) (g29 1100005) (g37 1024 0) 1 (g37 12 (5 * r41)) (17 * (20 - (S 1023 0)) + 17) (20 - (S 1023 0))) → ((g37 12 (5 * r41)) < r41) → (sm_ex (g29 1100001) (g29 1100002) (g29 1100005) (g37 1024 0) 1 (g37 12 (5 * r41 + 1)) (17 * (20 - (S 1023 0)) + 17) (20 - (S 1023 0))) → (0 ≤ (17 * (20 - (S 1023 0)) + 17)) → (0 ≤ (20 - (S 1023 0))) → ((g37 12 (5 * r41 + 1)) < r41) → sm_WF (g37 11) (g37 12) (g37 13) (fun i' : Int => if i' = r41 then (1 : Int) else (g29 1100001) i') (fun i' : Int => if i' = r41 then ((17 * (20 - (S 1023 0)) + 17)) else (g29 1100002) i') (fun i' : Int => if i' = r41 then ((20 - (S 1023 0))) else (g29 1100005) i') (fun i' : Int => if i' = r41 then (0 : Int) else (g29 1100003) i') (fun i' : Int => if i' = r41 then (0 : Int) else (g29 1100004) i') (g37 1024 0) (g29 1007 0) (g29 1009 0) (sm_fn (g29 1032 0) (g29 21) (g29 1043 0))) → ((0 ≤ (g29 1020 0) ∧ (g29 1020 0) < (S 1012 0) ∧ sm_TK (S 6) (S 8) (S 9) (S 10) (S 1012 0) ∧ 0 ≤ (g29 1021 0) ∧ 0 ≤ (S 1004 0) ∧ (S 1004 0) ≤ 4000 ∧ 1 ≤ (g29 1007 0) ∧ (g29 1007 0) ≤ 90 ∧ sm_LN (g29 4) 400 (g29 1007 0) ∧ ((g29 1021 0) = 0 → sm_WF (g37 11) (g37 12) (g37 13) (fun i' : Int => if i' = r41 then (1 : Int) else (g29 1100001) i') (fun i' : Int => if i' = r41 then ((17 * (20 - (S 1023 0)) + 17)) else (g29 1100002) i') (fun i' : Int => if i' = r41 then ((20 - (S 1023 0))) else (g29 1100005) i') (fun i' : Int => if i' = r41 then (0 : Int) else (g29 1100003) i') (fun i' : Int => if i' = r41 then (0 : Int) else (g29 1100004) i') (g37 1024 0) (g29 1007 0) (g29 1009 0) (sm_fn (g29 1032 0) (g29 21) (g29 1043 0)) ∧ sm_FT (g37 11) (g37 12) (g37 13) (g37 1100019) (g29 17) (g29 18) (g29 21) (g29 19) (g29 20) (g29 22) (g29 1100016) (g37 1024 0) (g29 1007 0) (g29 1009 0) (g29 1032 0) (g29 1032 0) ∧ sm_WG (fun i' : Int => if i' = r41 then (1 : Int) else (g29 1100001) i') (g37 1100019) (g29 1043 0) ∧ (g29 1100016 (g29 1043 0)) = 0) ∧ sm_HD (g29 23) (g29 24) (g29 1100018 0) (g29 1007 0) ∧ sm_HD (g29 25) (fun _ : Int => (g29 1042 0)) 1 (g29 1007 0) ∧ 0 ≤ (g29 1043 0) ∧ (g29 1043 0) < (g29 1100018 0) ∧ (g29 1100018 0) = (g29 1032 0) ∧ (g29 1032 0) ≤ 1 + (g29 1020 0) ∧ 0 ≤ (g29 1031 0) ∧ (g29 1031 0) ≤ 100 ∧ 0 ≤ (g29 1044 0) ∧ (g29 1044 0) ≤ 30 ∧ 0 ≤ (g29 1045 0) ∧ (g29 1045 0) ≤ 30 ∧ 0 ≤ (g37 1024 0) ∧ ((g29 1021 0) = 0 → 0 ≤ (g29 1023 0) ∧ (g29 1023 0) ≤ 20 ∧ (g29 1031 0) ≤ 3 * (g29 1023 0) + 5 ∧ (g37 1024 0) ≤ 2 * (g29 1020 0) ∧ (g29 1044 0) ≤ (g29 1023 0) ∧ (g29 1045 0) ≤ (g29 1023 0)) ∧ (S 1020 0) ≤ (g29 1020 0) ∧ (g29 1020 0) < (S 1012 0) ∧ 0 ≤ (g29 1021 0) ∧ (0 < (S 1021 0) → 0 < (g29 1021 0)) ∧ (S 1007 0) ≤ (g29 1007 0) ∧ (g29 1007 0) ≤ 90 ∧ sm_LN (g29 4) 400 (g29 1007 0) ∧ ((S 1009 0) = 1 → (g29 1009 0) = 1) ∧ ((g29 1021 0) = 0 → sm_WF (g37 11) (g37 12) (g37 13) (fun i' : Int => if i' = r41 then (1 : Int) else (g29 1100001) i') (fun i' : Int => if i' = r41 then ((17 * (20 - (S 1023 0)) + 17)) else (g29 1100002) i') (fun i' : Int => if i' = r41 then ((20 - (S 1023 0))) else (g29 1100005) i') (fun i' : Int => if i' = r41 then (0 : Int) else (g29 1100003) i') (fun i' : Int => if i' = r41 then (0 : Int) else (g29 1100004) i') (g37 1024 0) (g29 1007 0) (g29 1009 0) (sm_fn (g29 1032 0) (g29 21) (g29 1043 0)) ∧ sm_PX (S 11) (S 12) (S 13) (S 1100001) (S 1100002) (S 1100005) (S 1100003) (S 1100004) (g37 11) (g37 12) (g37 13) (fun i' : Int => if i' = r41 then (1 : Int) else (g29 1100001) i') (fun i' : Int => if i' = r41 then ((17 * (20 - (S 1023 0)) + 17)) else (g29 1100002) i') (fun i' : Int => if i' = r41 then ((20 - (S 1023 0))) else (g29 1100005) i') (fun i' : Int => if i' = r41 then (0 : Int) else (g29 1100003) i') (fun i' : Int => if i' = r41 then (0 : Int) else (g29 1100004) i') (S 1024 0) ∧ sm_FT (g37 11) (g37 12) (g37 13) (g37 1100019) (g29 17) (g29 18) (g29 21) (g29 19) (g29 20) (g29 22) (g29 1100016) (g37 1024 0) (g29 1007 0) (g29 1009 0) (g29 1032 0) (g29 1032 0) ∧ sm_WG (fun i' : Int => if i' = r41 then (1 : Int) else (g29 1100001) i') (g37 1100019) (g29 1043 0) ∧ sm_F1 (S 1100019) (g37 1100019) (S 1024 0) ∧ sm_F1 (S 17) (g29 17) (S 1032 0) ∧ sm_F1 (S 18) (g29 18) (S 1032 0) ∧ sm_F1 (S 21) (g29 21) (S 1032 0) ∧ sm_F1 (S 20) (g29 20) (S 1032 0) ∧ sm_F1 (S 22) (g29 22) (S 1032 0) ∧ sm_F1 (S 1100016) (g29 1100016) (S 1032 0) ∧ sm_F1 (S 19) (g29 19) (8 * (S 1032 0)) ∧ sm_FN (g29 1100016) (S 1032 0) (g29 1032 0)) ∧ sm_KL (S 15) (S 16) (g29 15) (g29 16) (S 1031 0) ∧ sm_HD (g29 23) (g29 24) (g29 1100018 0) (g29 1007 0) ∧ sm_HD (g29 25) (fun _ : Int => (g29 1042 0)) 1 (g29 1007 0) ∧ (g29 1031 0) = (S 1031 0) ∧ (g29 1043 0) = (S 1043 0) ∧ (g29 1044 0) = (S 1044 0) ∧ (g29 1045 0) = (S 1045 0) ∧ (S 1032 0) ≤ (g29 1032 0) ∧ (g29 1032 0) ≤ 1 + (g29 1020 0) ∧ (g29 1100018 0) = (g29 1032 0) ∧ (S 1024 0) ≤ (g37 1024 0) ∧ ((g29 1021 0) = 0 → (g29 1023 0) = (S 1023 0) ∧ (g37 1024 0) + 1 ≤ (S 1024 0) + 2 * ((g29 1020 0) - (S 1020 0))) ∧ (0 < (g29 1021 0) → (g37 1024 0) ≤ (S 1024 0) + 2 * ((g29 1020 0) - (S 1020 0)) + 2 * (30 * (20 - (S 1023 0)) + 26)) ∧ -1 ≤ r41 ∧ r41 < 12000 ∧ ((g29 1021 0) = 0 → (S 1020 0) < (g29 1020 0) ∧ 1 ≤ (S 6 (S 1020 0)) ∧ sm_ex (fun i' : Int => if i' = r41 then (1 : Int) else (g29 1100001) i') (fun i' : Int => if i' = r41 then ((17 * (20 - (S 1023 0)) + 17)) else (g29 1100002) i') (fun i' : Int => if i' = r41 then ((20 - (S 1023 0))) else (g29 1100005) i') (g37 1024 0) 1 r41 (17 * (20 - (S 1023 0)) + 17) (20 - (S 1023 0)) ∧ ((g37 11 r41) = 2 ∨ (g37 11 r41) = 7 → (if r41 = r41 then ((17 * (20 - (S 1023 0)) + 17)) else (g29 1100002 r41)) ≤ 17 * (20 - (S 1023 0)) + 2))) ∧ (2 * ((S 1012 0) - (g29 1020 0)) + (if (g29 1021 0) = 0 then 1 else 0)) < (2 * ((S 1012 0) - (g11 1020 0)) + (if (g11 1021 0) = 0 then 1 else 0)))))))))))))))) := by
  intro d
  intro p1
  intro S
  intro h1_
  rintro ⟨h2_, h3_⟩
  rintro ⟨h4_, ⟨h5_, ⟨h6_, ⟨h7_, ⟨h8_, ⟨h9_, ⟨h10_, ⟨h11_, ⟨h12_, ⟨h13_, ⟨h14_, ⟨h15_, ⟨h16_, ⟨h17_, ⟨h18_, ⟨h19_, ⟨h20_, ⟨h21_, ⟨h22_, ⟨h23_, ⟨h24_, ⟨h25_, ⟨h26_, ⟨h27_, h28_⟩⟩⟩⟩⟩⟩⟩⟩⟩⟩⟩⟩⟩⟩⟩⟩⟩⟩⟩⟩⟩⟩⟩⟩
  obtain ⟨h29_, ⟨h30_, ⟨h31_, ⟨h32_, ⟨h33_, h34_⟩⟩⟩⟩⟩ := (h27_ h28_)
  obtain ⟨h35_, ⟨h36_, ⟨h37_, h38_⟩⟩⟩ := (h13_ h28_)
  intro h39_
  refine ⟨(la_expression_0 h2_ h3_), ?_⟩
  refine ⟨⟨h4_, ⟨h5_, ⟨h6_, ⟨h7_, ⟨h8_, ⟨h9_, ⟨h10_, ⟨h11_, ⟨h12_, ⟨h13_, ⟨h14_, ⟨h15_, (la_expression_1 h16_ h17_ h18_ h19_ h20_ h22_ h24_ h26_ h29_ h30_ h31_ h32_ h33_ h34_)⟩⟩⟩⟩⟩⟩⟩⟩⟩⟩⟩⟩, ?_⟩
  refine ⟨?_, ?_⟩
  · skip
    refine ⟨?_, ?_⟩
    · skip
      have e40_ : (if 0 < S 1021 0 then 12 else 30 * (20 - S 1023 0) + 25 : Int) = 30 * (20 - S 1023 0) + 25 := if_neg (la_expression_2 h28_)
      exact (la_expression_3 h30_ e40_)
    have e41_ : (if 0 < S 1021 0 then 12 else 30 * (20 - S 1023 0) + 25 : Int) = 30 * (20 - S 1023 0) + 25 := if_neg (la_expression_2 h28_)
    exact (la_expression_4 h39_ e41_)
  refine ⟨?_, ?_⟩
  · skip
    refine ⟨?_, ?_⟩
    · skip
      have e42_ : (if 0 < S 1021 0 then 12 else 30 * (20 - S 1023 0) + 25 : Int) = 30 * (20 - S 1023 0) + 25 := if_neg (la_expression_2 h28_)
      exact (la_expression_3 h30_ e42_)
    have e43_ : (if 0 < S 1021 0 then 12 else 30 * (20 - S 1023 0) + 25 : Int) = 30 * (20 - S 1023 0) + 25 := if_neg (la_expression_2 h28_)
    exact (la_expression_5 e43_)
  intro r9
  intro h44_
  intro g5
  rintro ⟨h45_, ⟨h46_, ⟨h47_, ⟨h48_, ⟨h49_, ⟨h50_, ⟨h51_, ⟨h52_, ⟨h53_, ⟨h54_, ⟨h55_, ⟨h56_, ⟨h57_, ⟨h58_, ⟨h59_, ⟨h60_, ⟨h61_, ⟨h62_, ⟨h63_, ⟨h64_, ⟨h65_, ⟨h66_, ⟨h67_, ⟨h68_, ⟨h69_, h70_⟩⟩⟩⟩⟩⟩⟩⟩⟩⟩⟩⟩⟩⟩⟩⟩⟩⟩⟩⟩⟩⟩⟩⟩⟩
  have e71_ : (if 0 < S 1021 0 then 12 else 30 * (20 - S 1023 0) + 25 : Int) = 30 * (20 - S 1023 0) + 25 := if_neg (la_expression_2 h28_)
  refine ⟨?_, ?_⟩
  · skip
    refine ⟨(la_expression_6 h4_ h45_), ?_⟩
    refine ⟨h46_, ?_⟩
    refine ⟨h6_, ?_⟩
    refine ⟨h47_, ?_⟩
    refine ⟨h8_, ?_⟩
    refine ⟨h9_, ?_⟩
    refine ⟨(la_expression_7 h10_ h49_), ?_⟩
    refine ⟨h50_, ?_⟩
    refine ⟨h51_, ?_⟩
    refine ⟨?_, ?_⟩
    · skip
      intro h72_
      obtain ⟨h73_, h74_⟩ := (h65_ h72_)
      obtain ⟨h75_, ⟨h76_, ⟨h77_, ⟨h78_, ⟨h79_, ⟨h80_, ⟨h81_, ⟨h82_, ⟨h83_, ⟨h84_, ⟨h85_, ⟨h86_, h87_⟩⟩⟩⟩⟩⟩⟩⟩⟩⟩⟩⟩ := (h53_ h72_)
      obtain ⟨h88_, ⟨h89_, ⟨h90_, h91_⟩⟩⟩ := (h69_ h72_)
      refine ⟨h75_, ?_⟩
      refine ⟨h77_, ?_⟩
      refine ⟨h78_, ?_⟩
      have h92_ := ((sm_TK_go h6_ (S 1020 0) h4_ h5_) h89_)
      have e93_ : S 1100016 (g5 1043 0) = S 1100016 (S 1043 0) := congrArg ((S 1100016)) h58_
      exact (la_expression_9 h38_ (sm_F1_at h85_ (g5 1043 0) (la_expression_8 h17_ h18_ h58_)) e93_)
    refine ⟨h55_, ?_⟩
    refine ⟨h56_, ?_⟩
    refine ⟨(la_expression_10 h16_ h58_), ?_⟩
    refine ⟨(la_expression_11 h17_ h18_ h58_ h61_ h63_), ?_⟩
    refine ⟨h63_, ?_⟩
    refine ⟨h62_, ?_⟩
    refine ⟨(la_expression_10 h20_ h57_), ?_⟩
    refine ⟨(la_expression_12 h30_ h31_ h57_), ?_⟩
    refine ⟨(la_expression_10 h22_ h59_), ?_⟩
    refine ⟨(la_expression_13 h30_ h33_ h59_), ?_⟩
    refine ⟨(la_expression_10 h24_ h60_), ?_⟩
    refine ⟨(la_expression_13 h30_ h34_ h60_), ?_⟩
    refine ⟨(la_expression_6 h26_ h64_), ?_⟩
    refine ⟨(la_expression_14 h29_ h30_ h31_ h32_ h33_ h34_ h47_ h57_ h59_ h60_ h65_), ?_⟩
    refine ⟨h45_, ?_⟩
    refine ⟨h46_, ?_⟩
    refine ⟨h47_, ?_⟩
    refine ⟨h48_, ?_⟩
    refine ⟨h49_, ?_⟩
    refine ⟨h50_, ?_⟩
    refine ⟨h51_, ?_⟩
    refine ⟨h52_, ?_⟩
    refine ⟨h53_, ?_⟩
    refine ⟨h54_, ?_⟩
    refine ⟨h55_, ?_⟩
    refine ⟨h56_, ?_⟩
    refine ⟨h57_, ?_⟩
    refine ⟨h58_, ?_⟩
    refine ⟨h59_, ?_⟩
    refine ⟨h60_, ?_⟩
    refine ⟨h61_, ?_⟩
    refine ⟨h62_, ?_⟩
    refine ⟨h63_, ?_⟩
    refine ⟨h64_, ?_⟩
    refine ⟨h65_, ?_⟩
    refine ⟨(la_expression_15 h30_ h65_ h66_ e71_), ?_⟩
    refine ⟨h67_, ?_⟩
    refine ⟨h68_, ?_⟩
    intro h94_
    obtain ⟨h95_, h96_⟩ := (h65_ h94_)
    obtain ⟨h97_, ⟨h98_, ⟨h99_, ⟨h100_, ⟨h101_, ⟨h102_, ⟨h103_, ⟨h104_, ⟨h105_, ⟨h106_, ⟨h107_, ⟨h108_, h109_⟩⟩⟩⟩⟩⟩⟩⟩⟩⟩⟩⟩ := (h53_ h94_)
    obtain ⟨h110_, ⟨h111_, ⟨h112_, h113_⟩⟩⟩ := (h69_ h94_)
    refine ⟨h110_, ?_⟩
    refine ⟨h111_, ?_⟩
    refine ⟨h112_, ?_⟩
    intro h114_
    have h115_ := (h113_ h114_)
    exact h115_
  intro l2_12
  intro h116_
  intro g11
  rintro ⟨h117_, ⟨h118_, ⟨h119_, ⟨h120_, ⟨h121_, ⟨h122_, ⟨h123_, ⟨h124_, ⟨h125_, ⟨h126_, ⟨h127_, ⟨h128_, ⟨h129_, ⟨h130_, ⟨h131_, ⟨h132_, ⟨h133_, ⟨h134_, ⟨h135_, ⟨h136_, ⟨h137_, ⟨h138_, ⟨h139_, ⟨h140_, ⟨h141_, ⟨h142_, ⟨h143_, ⟨h144_, ⟨h145_, ⟨h146_, ⟨h147_, ⟨h148_, ⟨h149_, ⟨h150_, ⟨h151_, ⟨h152_, ⟨h153_, ⟨h154_, ⟨h155_, ⟨h156_, ⟨h157_, ⟨h158_, ⟨h159_, ⟨h160_, ⟨h161_, ⟨h162_, ⟨h163_, ⟨h164_, h165_⟩⟩⟩⟩⟩⟩⟩⟩⟩⟩⟩⟩⟩⟩⟩⟩⟩⟩⟩⟩⟩⟩⟩⟩⟩⟩⟩⟩⟩⟩⟩⟩⟩⟩⟩⟩⟩⟩⟩⟩⟩⟩⟩⟩⟩⟩⟩⟩
  refine ⟨?_, ?_⟩
  · skip
    exact (la_expression_16 h118_ (sv_i01 (p := g11 1021 0 = 0)).1)
  intro h166_
  refine ⟨?_, ?_⟩
  · skip
    intro h167_
    have h168_ := (h162_ (la_expression_17 h120_ h167_))
    refine ⟨h141_, ?_⟩
    refine ⟨h118_, ?_⟩
    refine ⟨h120_, ?_⟩
    refine ⟨h144_, ?_⟩
    refine ⟨h145_, ?_⟩
    refine ⟨h124_, ?_⟩
    refine ⟨h125_, ?_⟩
    refine ⟨h148_, ?_⟩
    refine ⟨h149_, ?_⟩
    refine ⟨h150_, ?_⟩
    refine ⟨h127_, ?_⟩
    refine ⟨h128_, ?_⟩
    refine ⟨h153_, ?_⟩
    refine ⟨h154_, ?_⟩
    refine ⟨h155_, ?_⟩
    refine ⟨h156_, ?_⟩
    refine ⟨h157_, ?_⟩
    refine ⟨h132_, ?_⟩
    refine ⟨h131_, ?_⟩
    refine ⟨h160_, ?_⟩
    refine ⟨h161_, ?_⟩
    refine ⟨h162_, ?_⟩
    refine ⟨h163_, ?_⟩
    refine ⟨h164_, ?_⟩
    intro h169_
    refine ⟨?_, ?_⟩
    · skip
      exact ((la_expression_18 (la_expression_17 h120_ h167_) h169_)).elim
    refine ⟨?_, ?_⟩
    · skip
      exact ((la_expression_18 (la_expression_17 h120_ h167_) h169_)).elim
    refine ⟨?_, ?_⟩
    · skip
      exact ((la_expression_18 (la_expression_17 h120_ h167_) h169_)).elim
    intro h170_
    exact ((la_expression_18 (la_expression_17 h120_ h167_) h169_)).elim
  intro h171_
  obtain ⟨h172_, ⟨h173_, ⟨h174_, ⟨h175_, ⟨h176_, h177_⟩⟩⟩⟩⟩ := (h140_ (la_expression_19 h171_))
  obtain ⟨h178_, h179_⟩ := (h161_ (la_expression_19 h171_))
  obtain ⟨h180_, ⟨h181_, ⟨h182_, h183_⟩⟩⟩ := (h126_ (la_expression_21 h120_ h171_))
  obtain ⟨h184_, ⟨h185_, ⟨h186_, ⟨h187_, ⟨h188_, ⟨h189_, ⟨h190_, ⟨h191_, ⟨h192_, ⟨h193_, ⟨h194_, ⟨h195_, h196_⟩⟩⟩⟩⟩⟩⟩⟩⟩⟩⟩⟩ := (h149_ (la_expression_21 h120_ h171_))
  obtain ⟨h197_, ⟨h198_, ⟨h199_, h200_⟩⟩⟩ := (h165_ (la_expression_21 h120_ h171_))
  refine ⟨(la_expression_22 h4_ (sm_TK_t h6_).2 h118_ h197_), ?_⟩
  refine ⟨(la_expression_23 h30_), ?_⟩
  refine ⟨?_, ?_⟩
  · skip
    intro h201_
    refine ⟨h141_, ?_⟩
    refine ⟨h118_, ?_⟩
    refine ⟨h120_, ?_⟩
    refine ⟨h144_, ?_⟩
    refine ⟨h145_, ?_⟩
    refine ⟨h124_, ?_⟩
    refine ⟨h125_, ?_⟩
    refine ⟨h148_, ?_⟩
    refine ⟨h149_, ?_⟩
    refine ⟨h150_, ?_⟩
    refine ⟨h127_, ?_⟩
    refine ⟨h128_, ?_⟩
    refine ⟨h153_, ?_⟩
    refine ⟨h154_, ?_⟩
    refine ⟨h155_, ?_⟩
    refine ⟨h156_, ?_⟩
    refine ⟨h157_, ?_⟩
    refine ⟨h132_, ?_⟩
    refine ⟨h131_, ?_⟩
    refine ⟨h160_, ?_⟩
    refine ⟨h161_, ?_⟩
    refine ⟨h162_, ?_⟩
    refine ⟨h163_, ?_⟩
    refine ⟨h164_, ?_⟩
    intro h202_
    refine ⟨h197_, ?_⟩
    refine ⟨h198_, ?_⟩
    refine ⟨h199_, ?_⟩
    intro h203_
    have h204_ := (h200_ h203_)
    exact h204_
  rintro ⟨h205_, h206_⟩
  intro h207_
  refine ⟨(la_expression_24 (sm_TK_t h6_).2 h117_ h118_), ?_⟩
  refine ⟨?_, ?_⟩
  · skip
    refine ⟨(la_expression_25 h4_ h197_), ?_⟩
    refine ⟨?_, ?_⟩
    · skip
      have h208_ := ((sm_TK_go h6_ (g11 1020 0) h117_ h118_) (la_expression_26 h205_))
      have h209_ := ((sm_TK_go h6_ (S 1020 0) h4_ h5_) h198_)
      have h210_ := (h208_ (la_expression_27 h205_))
      have e211_ : S 1100016 (g11 1043 0) = S 1100016 (S 1043 0) := congrArg ((S 1100016)) h154_
      exact h210_
    refine ⟨h6_, ?_⟩
    refine ⟨h120_, ?_⟩
    refine ⟨h8_, ?_⟩
    refine ⟨h9_, ?_⟩
    refine ⟨h123_, ?_⟩
    refine ⟨h124_, ?_⟩
    refine ⟨h125_, ?_⟩
    refine ⟨h126_, ?_⟩
    refine ⟨h127_, ?_⟩
    refine ⟨h128_, ?_⟩
    refine ⟨h129_, ?_⟩
    refine ⟨h130_, ?_⟩
    refine ⟨h131_, ?_⟩
    refine ⟨(la_expression_28 h132_), ?_⟩
    refine ⟨h133_, ?_⟩
    refine ⟨h134_, ?_⟩
    refine ⟨h135_, ?_⟩
    refine ⟨h136_, ?_⟩
    refine ⟨h137_, ?_⟩
    refine ⟨h138_, ?_⟩
    refine ⟨h139_, ?_⟩
    intro h212_
    refine ⟨h172_, ?_⟩
    refine ⟨h173_, ?_⟩
    refine ⟨h174_, ?_⟩
    refine ⟨(la_expression_29 h175_), ?_⟩
    refine ⟨h176_, ?_⟩
    exact h177_
  refine ⟨?_, ?_⟩
  · skip
    refine ⟨?_, ?_⟩
    · skip
      have e213_ : (if 0 < g11 1021 0 then 12 else 30 * (20 - g11 1023 0) + 25 : Int) = 30 * (20 - g11 1023 0) + 25 := if_neg (la_expression_20 h171_)
      have h214_ := ((sm_TK_go h6_ (g11 1020 0) h117_ h118_) (la_expression_26 h205_))
      have h215_ := ((sm_TK_go h6_ (S 1020 0) h4_ h5_) h198_)
      have h216_ := (h214_ (la_expression_27 h205_))
      have e217_ : S 1100016 (g11 1043 0) = S 1100016 (S 1043 0) := congrArg ((S 1100016)) h154_
      exact (la_expression_3 h173_ e213_)
    have e218_ : (if 0 < g11 1021 0 then 12 else 30 * (20 - g11 1023 0) + 25 : Int) = 30 * (20 - g11 1023 0) + 25 := if_neg (la_expression_20 h171_)
    have h219_ := ((sm_TK_go h6_ (g11 1020 0) h117_ h118_) (la_expression_26 h205_))
    have h220_ := ((sm_TK_go h6_ (S 1020 0) h4_ h5_) h198_)
    have h221_ := (h219_ (la_expression_27 h205_))
    have e222_ : S 1100016 (g11 1043 0) = S 1100016 (S 1043 0) := congrArg ((S 1100016)) h154_
    exact (la_expression_30 h39_ h178_ e218_)
  refine ⟨?_, ?_⟩
  · skip
    refine ⟨?_, ?_⟩
    · skip
      have e223_ : (if 0 < g11 1021 0 then 12 else 30 * (20 - g11 1023 0) + 25 : Int) = 30 * (20 - g11 1023 0) + 25 := if_neg (la_expression_20 h171_)
      have h224_ := ((sm_TK_go h6_ (g11 1020 0) h117_ h118_) (la_expression_26 h205_))
      have h225_ := ((sm_TK_go h6_ (S 1020 0) h4_ h5_) h198_)
      have h226_ := (h224_ (la_expression_27 h205_))
      have e227_ : S 1100016 (g11 1043 0) = S 1100016 (S 1043 0) := congrArg ((S 1100016)) h154_
      exact (la_expression_3 h173_ e223_)
    have e228_ : (if 0 < g11 1021 0 then 12 else 30 * (20 - g11 1023 0) + 25 : Int) = 30 * (20 - g11 1023 0) + 25 := if_neg (la_expression_20 h171_)
    have h229_ := ((sm_TK_go h6_ (g11 1020 0) h117_ h118_) (la_expression_26 h205_))
    have h230_ := ((sm_TK_go h6_ (S 1020 0) h4_ h5_) h198_)
    have h231_ := (h229_ (la_expression_27 h205_))
    have e232_ : S 1100016 (g11 1043 0) = S 1100016 (S 1043 0) := congrArg ((S 1100016)) h154_
    exact (la_expression_31 h178_ e228_)
  intro r33
  intro h233_
  intro g29
  rintro ⟨h234_, ⟨h235_, ⟨h236_, ⟨h237_, ⟨h238_, ⟨h239_, ⟨h240_, ⟨h241_, ⟨h242_, ⟨h243_, ⟨h244_, ⟨h245_, ⟨h246_, ⟨h247_, ⟨h248_, ⟨h249_, ⟨h250_, ⟨h251_, ⟨h252_, ⟨h253_, ⟨h254_, ⟨h255_, ⟨h256_, ⟨h257_, ⟨h258_, h259_⟩⟩⟩⟩⟩⟩⟩⟩⟩⟩⟩⟩⟩⟩⟩⟩⟩⟩⟩⟩⟩⟩⟩⟩⟩
  have e260_ : (if 0 < g11 1021 0 then 12 else 30 * (20 - g11 1023 0) + 25 : Int) = 30 * (20 - g11 1023 0) + 25 := if_neg (la_expression_20 h171_)
  refine ⟨?_, ?_⟩
  · skip
    refine ⟨(la_expression_32 (sm_ex_e h199_).1 (sm_ex_e h199_).2.1 h253_), ?_⟩
    have h261_ := ((sm_TK_go h6_ (g11 1020 0) h117_ h118_) (la_expression_26 h205_))
    have h262_ := ((sm_TK_go h6_ (S 1020 0) h4_ h5_) h198_)
    have h263_ := (h261_ (la_expression_27 h205_))
    have e264_ : S 1100016 (g11 1043 0) = S 1100016 (S 1043 0) := congrArg ((S 1100016)) h154_
    exact (la_expression_33 (sm_TK_t h6_).2 h172_ h175_ h235_ h236_ h254_ h255_ e260_)
  intro r41
  intro h265_
  intro g37
  rintro ⟨h266_, ⟨h267_, ⟨h268_, ⟨h269_, ⟨h270_, ⟨h271_, ⟨h272_, ⟨h273_, ⟨h274_, ⟨h275_, ⟨h276_, ⟨h277_, ⟨h278_, ⟨h279_, ⟨h280_, ⟨h281_, h282_⟩⟩⟩⟩⟩⟩⟩⟩⟩⟩⟩⟩⟩⟩⟩⟩
  refine ⟨(la_expression_34 h29_ h30_), ?_⟩
  refine ⟨(la_expression_35 h29_ h30_), ?_⟩
  intro h283_
  intro h284_
  refine ⟨?_, ?_⟩
  · skip
    refine ⟨(la_expression_36 h4_ h197_ h234_), ?_⟩
    refine ⟨h235_, ?_⟩
    refine ⟨h6_, ?_⟩
    refine ⟨h236_, ?_⟩
    refine ⟨h8_, ?_⟩
    refine ⟨h9_, ?_⟩
    refine ⟨(la_expression_7 h123_ h238_), ?_⟩
    refine ⟨h239_, ?_⟩
    refine ⟨h240_, ?_⟩
    refine ⟨?_, ?_⟩
    · skip
      intro h285_
      obtain ⟨h286_, h287_⟩ := (h254_ h285_)
      obtain ⟨h288_, ⟨h289_, ⟨h290_, ⟨h291_, ⟨h292_, ⟨h293_, ⟨h294_, ⟨h295_, ⟨h296_, ⟨h297_, ⟨h298_, ⟨h299_, h300_⟩⟩⟩⟩⟩⟩⟩⟩⟩⟩⟩⟩ := (h242_ h285_)
      obtain ⟨h301_, ⟨h302_, ⟨h303_, h304_⟩⟩⟩ := (h258_ h285_)
      obtain ⟨h305_, h306_⟩ := (h277_ h288_)
      have h307_ := (h281_ h291_)
      have h308_ := (h282_ h290_)
      have h309_ := (h283_ h285_)
      have h310_ := (h284_ h285_)
      have h311_ := (h309_ h307_)
      have h312_ := (h310_ h305_)
      have h313_ := (h311_ h279_)
      have h314_ := (h312_ h306_)
      have h315_ := (h314_ (la_expression_37 h266_ (sm_ex_e h303_).1 (sm_ex_e h303_).2.1))
      have h316_ := (h315_ (la_expression_38 h266_ h267_))
      have h317_ := (h316_ h274_)
      have h318_ := (h317_ h268_)
      have h319_ := (h318_ (sm_ex_eq h269_ (sm_ex_N (sm_ex_w (sm_ex_px (sm_PX_le h289_ (Int.le_refl _)) h199_) (Int.le_refl _) (Int.le_refl _)) (la_expression_39 h253_ h267_))))
      have h320_ := (h319_ (la_expression_40 (sm_ex_e h199_).2.1 h253_ h266_ h269_))
      have h321_ := (h320_ (sm_ex_eq h270_ (sm_ex_N (sm_ex_w h303_ (la_expression_41 h178_) (la_expression_42 h178_)) (la_expression_43 h267_))))
      have h322_ := (h321_ (la_expression_44 h30_))
      have h323_ := (h322_ (la_expression_45 h30_))
      have h324_ := (h323_ (la_expression_46 h266_ h270_ (sm_ex_e h303_).2.1))
      refine ⟨h324_, ?_⟩
      refine ⟨h308_, ?_⟩
      refine ⟨h313_, ?_⟩
      have h325_ := (h276_ r41)
      have h326_ := ((sm_TK_go h6_ (g11 1020 0 + 1) (la_expression_25 h4_ h197_) (la_expression_48 h235_ h301_)) h302_)
      have h327_ := ((sm_TK_go h6_ (S 1020 0) h4_ h5_) h198_)
      have h328_ := ((sm_TK_go h6_ (g11 1020 0) h117_ h118_) (la_expression_26 h205_))
      have h329_ := (h328_ (la_expression_27 h205_))
      have e330_ : S 1100016 (g11 1043 0) = S 1100016 (S 1043 0) := congrArg ((S 1100016)) h154_
      have e331_ : S 1100016 (g29 1043 0) = S 1100016 (S 1043 0) := congrArg ((S 1100016)) (la_expression_50 h154_ h247_)
      have e332_ : S 1100016 (g29 1043 0) = S 1100016 (g11 1043 0) := congrArg ((S 1100016)) h247_
      have e333_ : g11 1100016 (g29 1043 0) = g11 1100016 (g11 1043 0) := congrArg ((g11 1100016)) h247_
      exact (la_expression_9 h183_ (sm_F1_at h298_ (g29 1043 0) (la_expression_8 h130_ h131_ h247_)) e333_)
    refine ⟨h244_, ?_⟩
    refine ⟨h245_, ?_⟩
    refine ⟨(la_expression_10 h129_ h247_), ?_⟩
    refine ⟨(la_expression_11 h130_ h131_ h247_ h250_ h252_), ?_⟩
    refine ⟨h252_, ?_⟩
    refine ⟨h251_, ?_⟩
    refine ⟨(la_expression_10 h133_ h246_), ?_⟩
    refine ⟨(la_expression_12 h173_ h174_ h246_), ?_⟩
    refine ⟨(la_expression_10 h135_ h248_), ?_⟩
    refine ⟨(la_expression_13 h173_ h176_ h248_), ?_⟩
    refine ⟨(la_expression_10 h137_ h249_), ?_⟩
    refine ⟨(la_expression_13 h173_ h177_ h249_), ?_⟩
    refine ⟨(la_expression_51 h139_ h253_ h267_), ?_⟩
    refine ⟨(la_expression_52 h32_ h172_ h173_ h174_ h176_ h177_ h179_ h246_ h248_ h249_ h254_ h267_), ?_⟩
    refine ⟨(la_expression_53 h197_ h234_), ?_⟩
    refine ⟨h235_, ?_⟩
    refine ⟨h236_, ?_⟩
    refine ⟨(la_expression_54 h28_), ?_⟩
    refine ⟨(la_expression_55 h145_ h238_), ?_⟩
    refine ⟨h239_, ?_⟩
    refine ⟨h240_, ?_⟩
    refine ⟨(la_expression_56 h148_ h241_), ?_⟩
    refine ⟨?_, ?_⟩
    · skip
      intro h334_
      obtain ⟨h335_, h336_⟩ := (h254_ h334_)
      obtain ⟨h337_, ⟨h338_, ⟨h339_, ⟨h340_, ⟨h341_, ⟨h342_, ⟨h343_, ⟨h344_, ⟨h345_, ⟨h346_, ⟨h347_, ⟨h348_, h349_⟩⟩⟩⟩⟩⟩⟩⟩⟩⟩⟩⟩ := (h242_ h334_)
      obtain ⟨h350_, ⟨h351_, ⟨h352_, h353_⟩⟩⟩ := (h258_ h334_)
      obtain ⟨h354_, h355_⟩ := (h277_ h337_)
      have h356_ := (h281_ h340_)
      have h357_ := (h282_ h339_)
      have h358_ := (h283_ h334_)
      have h359_ := (h284_ h334_)
      have h360_ := (h358_ h356_)
      have h361_ := (h359_ h354_)
      have h362_ := (h360_ h279_)
      have h363_ := (h361_ h355_)
      have h364_ := (h363_ (la_expression_37 h266_ (sm_ex_e h352_).1 (sm_ex_e h352_).2.1))
      have h365_ := (h364_ (la_expression_38 h266_ h267_))
      have h366_ := (h365_ h274_)
      have h367_ := (h366_ h268_)
      have h368_ := (h367_ (sm_ex_eq h269_ (sm_ex_N (sm_ex_w (sm_ex_px (sm_PX_le h338_ (Int.le_refl _)) h199_) (Int.le_refl _) (Int.le_refl _)) (la_expression_39 h253_ h267_))))
      have h369_ := (h368_ (la_expression_40 (sm_ex_e h199_).2.1 h253_ h266_ h269_))
      have h370_ := (h369_ (sm_ex_eq h270_ (sm_ex_N (sm_ex_w h352_ (la_expression_41 h178_) (la_expression_42 h178_)) (la_expression_43 h267_))))
      have h371_ := (h370_ (la_expression_44 h30_))
      have h372_ := (h371_ (la_expression_45 h30_))
      have h373_ := (h372_ (la_expression_46 h266_ h270_ (sm_ex_e h352_).2.1))
      refine ⟨h373_, ?_⟩
      refine ⟨(sm_PX_up_Ws (sm_PX_up_Lp (sm_PX_up_V (sm_PX_up_M (sm_PX_up_C (sm_PX_tr (sm_PX_tr (sm_PX_le h185_ (Int.le_refl _)) h338_ h160_) h278_ (la_expression_55 h160_ h253_)) (la_expression_57 h160_ h253_ h266_)) (la_expression_57 h160_ h253_ h266_)) (la_expression_57 h160_ h253_ h266_)) (la_expression_57 h160_ h253_ h266_)) (la_expression_57 h160_ h253_ h266_)), ?_⟩
      refine ⟨h357_, ?_⟩
      refine ⟨h362_, ?_⟩
      refine ⟨(sm_F1_tr (sm_F1_tr (sm_F1_le h188_ (Int.le_refl _)) h341_ h160_) h280_ (la_expression_55 h160_ h253_)), ?_⟩
      refine ⟨(sm_F1_tr (sm_F1_le h189_ (Int.le_refl _)) h342_ h157_), ?_⟩
      refine ⟨(sm_F1_tr (sm_F1_le h190_ (Int.le_refl _)) h343_ h157_), ?_⟩
      refine ⟨(sm_F1_tr (sm_F1_le h191_ (Int.le_refl _)) h344_ h157_), ?_⟩
      refine ⟨(sm_F1_tr (sm_F1_le h192_ (Int.le_refl _)) h345_ h157_), ?_⟩
      refine ⟨(sm_F1_tr (sm_F1_le h193_ (Int.le_refl _)) h346_ h157_), ?_⟩
      refine ⟨(sm_F1_tr (sm_F1_le h194_ (Int.le_refl _)) h347_ h157_), ?_⟩
      refine ⟨(sm_F1_tr (sm_F1_le h195_ (Int.le_refl _)) h348_ (la_expression_58 h157_)), ?_⟩
      exact (sm_FN_cat (sm_FN_F h196_ (sm_F1_le h347_ (Int.le_refl _)) (Int.le_refl _)) (sm_FN_w h349_ (Int.le_refl _) (Int.le_refl _)) (Int.le_refl _) (Int.le_refl _))
    refine ⟨(sm_KL_tr (sm_KL_le h150_ (Int.le_refl _)) (sm_KL_le h243_ (la_expression_59 h153_)) (Int.le_refl _)), ?_⟩
    refine ⟨h244_, ?_⟩
    refine ⟨h245_, ?_⟩
    refine ⟨(la_expression_50 h153_ h246_), ?_⟩
    refine ⟨(la_expression_50 h154_ h247_), ?_⟩
    refine ⟨(la_expression_50 h155_ h248_), ?_⟩
    refine ⟨(la_expression_50 h156_ h249_), ?_⟩
    refine ⟨(la_expression_55 h157_ h250_), ?_⟩
    refine ⟨h251_, ?_⟩
    refine ⟨h252_, ?_⟩
    refine ⟨(la_expression_60 h160_ h253_ h267_), ?_⟩
    refine ⟨(la_expression_61 h178_ h179_ h254_ h267_), ?_⟩
    refine ⟨(la_expression_62 h30_ h178_ h179_ h254_ h255_ e260_ h267_), ?_⟩
    refine ⟨(la_expression_63 h139_ h253_ h266_), ?_⟩
    refine ⟨?_, ?_⟩
    · skip
      have h374_ := (h276_ r41)
      have h375_ := ((sm_TK_go h6_ (g11 1020 0) h117_ h118_) (la_expression_26 h205_))
      have h376_ := ((sm_TK_go h6_ (S 1020 0) h4_ h5_) h198_)
      have h377_ := (h375_ (la_expression_27 h205_))
      have e378_ : S 1100016 (g11 1043 0) = S 1100016 (S 1043 0) := congrArg ((S 1100016)) h154_
      exact (la_expression_64 (sm_TK_t h6_).2 h172_ h175_ h235_ h236_ h254_ h255_ e260_ h266_)
    intro h379_
    obtain ⟨h380_, h381_⟩ := (h254_ h379_)
    obtain ⟨h382_, ⟨h383_, ⟨h384_, ⟨h385_, ⟨h386_, ⟨h387_, ⟨h388_, ⟨h389_, ⟨h390_, ⟨h391_, ⟨h392_, ⟨h393_, h394_⟩⟩⟩⟩⟩⟩⟩⟩⟩⟩⟩⟩ := (h242_ h379_)
    obtain ⟨h395_, ⟨h396_, ⟨h397_, h398_⟩⟩⟩ := (h258_ h379_)
    obtain ⟨h399_, h400_⟩ := (h277_ h382_)
    have h401_ := (h281_ h385_)
    have h402_ := (h282_ h384_)
    have h403_ := (h283_ h379_)
    have h404_ := (h284_ h379_)
    have h405_ := (h403_ h401_)
    have h406_ := (h404_ h399_)
    have h407_ := (h405_ h279_)
    have h408_ := (h406_ h400_)
    have h409_ := (h408_ (la_expression_37 h266_ (sm_ex_e h397_).1 (sm_ex_e h397_).2.1))
    have h410_ := (h409_ (la_expression_38 h266_ h267_))
    have h411_ := (h410_ h274_)
    have h412_ := (h411_ h268_)
    have h413_ := (h412_ (sm_ex_eq h269_ (sm_ex_N (sm_ex_w (sm_ex_px (sm_PX_le h383_ (Int.le_refl _)) h199_) (Int.le_refl _) (Int.le_refl _)) (la_expression_39 h253_ h267_))))
    have h414_ := (h413_ (la_expression_40 (sm_ex_e h199_).2.1 h253_ h266_ h269_))
    have h415_ := (h414_ (sm_ex_eq h270_ (sm_ex_N (sm_ex_w h397_ (la_expression_41 h178_) (la_expression_42 h178_)) (la_expression_43 h267_))))
    have h416_ := (h415_ (la_expression_44 h30_))
    have h417_ := (h416_ (la_expression_45 h30_))
    have h418_ := (h417_ (la_expression_46 h266_ h270_ (sm_ex_e h397_).2.1))
    refine ⟨(la_expression_65 h197_ h395_), ?_⟩
    refine ⟨h198_, ?_⟩
    refine ⟨(sm_ex_if (la_expression_37 h266_ (sm_ex_e h397_).1 (sm_ex_e h397_).2.1) (la_expression_38 h266_ h267_) la_expression_66 la_expression_67 la_expression_68), ?_⟩
    intro h419_
    have h420_ := (h419_.resolve_left (la_expression_69 h268_))
    have h421_ := (h276_ r41)
    have e422_ : (if r41 = r41 then 17 * (20 - S 1023 0) + 17 else g29 1100002 r41 : Int) = 17 * (20 - S 1023 0) + 17 := if_pos la_expression_74
    have h423_ := ((sm_TK_go h6_ (g11 1020 0 + 1) (la_expression_25 h4_ h197_) (la_expression_48 h235_ h395_)) h396_)
    have h424_ := ((sm_TK_go h6_ (S 1020 0) h4_ h5_) h198_)
    have h425_ := ((sm_TK_go h6_ (g11 1020 0) h117_ h118_) (la_expression_26 h205_))
    have h426_ := (h425_ (la_expression_27 h205_))
    have e427_ : S 1100016 (g11 1043 0) = S 1100016 (S 1043 0) := congrArg ((S 1100016)) h154_
    have e428_ : g11 11 l2_12 = g11 11 (g37 12 (5 * r41)) := congrArg ((g11 11)) (la_expression_75 h269_)
    have e429_ : g11 1100001 l2_12 = g11 1100001 (g37 12 (5 * r41)) := congrArg ((g11 1100001)) (la_expression_75 h269_)
    have e430_ : g11 1100002 l2_12 = g11 1100002 (g37 12 (5 * r41)) := congrArg ((g11 1100002)) (la_expression_75 h269_)
    have e431_ : g11 1100003 l2_12 = g11 1100003 (g37 12 (5 * r41)) := congrArg ((g11 1100003)) (la_expression_75 h269_)
    have e432_ : g11 1100004 l2_12 = g11 1100004 (g37 12 (5 * r41)) := congrArg ((g11 1100004)) (la_expression_75 h269_)
    have e433_ : g11 1100005 l2_12 = g11 1100005 (g37 12 (5 * r41)) := congrArg ((g11 1100005)) (la_expression_75 h269_)
    have e434_ : g11 12 (5 * l2_12) = g11 12 (5 * g37 12 (5 * r41)) := congrArg ((g11 12)) (la_expression_76 h269_)
    have e435_ : g11 12 (5 * l2_12 + 1) = g11 12 (5 * g37 12 (5 * r41) + 1) := congrArg ((g11 12)) (la_expression_77 h269_)
    have e436_ : g11 12 (5 * l2_12 + 2) = g11 12 (5 * g37 12 (5 * r41) + 2) := congrArg ((g11 12)) (la_expression_78 h269_)
    have e437_ : g11 12 (5 * l2_12 + 3) = g11 12 (5 * g37 12 (5 * r41) + 3) := congrArg ((g11 12)) (la_expression_79 h269_)
    have e438_ : g11 12 (5 * l2_12 + 4) = g11 12 (5 * g37 12 (5 * r41) + 4) := congrArg ((g11 12)) (la_expression_80 h269_)
    have e439_ : g11 13 l2_12 = g11 13 (g37 12 (5 * r41)) := congrArg ((g11 13)) (la_expression_75 h269_)
    have e440_ : g29 11 l2_12 = g29 11 (g37 12 (5 * r41)) := congrArg ((g29 11)) (la_expression_75 h269_)
    have e441_ : g29 1100001 l2_12 = g29 1100001 (g37 12 (5 * r41)) := congrArg ((g29 1100001)) (la_expression_75 h269_)
    have e442_ : g29 1100002 l2_12 = g29 1100002 (g37 12 (5 * r41)) := congrArg ((g29 1100002)) (la_expression_75 h269_)
    have e443_ : g29 1100003 l2_12 = g29 1100003 (g37 12 (5 * r41)) := congrArg ((g29 1100003)) (la_expression_75 h269_)
    have e444_ : g29 1100004 l2_12 = g29 1100004 (g37 12 (5 * r41)) := congrArg ((g29 1100004)) (la_expression_75 h269_)
    have e445_ : g29 1100005 l2_12 = g29 1100005 (g37 12 (5 * r41)) := congrArg ((g29 1100005)) (la_expression_75 h269_)
    have e446_ : g29 12 (5 * l2_12) = g29 12 (5 * g37 12 (5 * r41)) := congrArg ((g29 12)) (la_expression_76 h269_)
    have e447_ : g29 12 (5 * l2_12 + 1) = g29 12 (5 * g37 12 (5 * r41) + 1) := congrArg ((g29 12)) (la_expression_77 h269_)
    have e448_ : g29 12 (5 * l2_12 + 2) = g29 12 (5 * g37 12 (5 * r41) + 2) := congrArg ((g29 12)) (la_expression_78 h269_)
    have e449_ : g29 12 (5 * l2_12 + 3) = g29 12 (5 * g37 12 (5 * r41) + 3) := congrArg ((g29 12)) (la_expression_79 h269_)
    have e450_ : g29 12 (5 * l2_12 + 4) = g29 12 (5 * g37 12 (5 * r41) + 4) := congrArg ((g29 12)) (la_expression_80 h269_)
    have e451_ : g29 13 l2_12 = g29 13 (g37 12 (5 * r41)) := congrArg ((g29 13)) (la_expression_75 h269_)
    have e452_ : g37 11 l2_12 = g37 11 (g37 12 (5 * r41)) := congrArg ((g37 11)) (la_expression_75 h269_)
    have e453_ : g37 13 l2_12 = g37 13 (g37 12 (5 * r41)) := congrArg ((g37 13)) (la_expression_75 h269_)
    exact ((la_expression_81 h268_ h420_)).elim
  have h454_ := (h276_ r41)
  have e455_ : (if g11 1021 0 = 0 then 1 else 0 : Int) = 1 := if_pos (la_expression_21 h120_ h171_)
  have h456_ := ((sm_TK_go h6_ (g11 1020 0) h117_ h118_) (la_expression_26 h205_))
  have h457_ := ((sm_TK_go h6_ (S 1020 0) h4_ h5_) h198_)
  have h458_ := (h456_ (la_expression_27 h205_))
  have e459_ : S 1100016 (g11 1043 0) = S 1100016 (S 1043 0) := congrArg ((S 1100016)) h154_
  exact (la_expression_82 h234_ (sv_i01 (p := g29 1021 0 = 0)).2 e455_)
set_option maxRecDepth 8000 in
set_option maxHeartbeats 2000000 in
theorem s_expression (d : Int) (h0 : 0 ≤ d) (IH : ∀ d' : Int, 0 ≤ d' → d' < d → P_P d') : T_expression d := by
  intro p1 S hok hp1 hpre hd
  have h := f_expression d p1 S hok hp1 hpre hd
  have hM := sm_h43
  show sv_T sm_XS sm_cs sm_L sm_sh (30 * (20 - (S 1023 0)) + 26).toNat (q_expression p1 S) 43 0 [(0, .ref 0), (1, sv_I p1)] [] S
  refine sv_aload_n hM dX12_expression_0 rfl rfl ?_
  refine sv_iload_n hM dX12_expression_1 rfl rfl ?_
  obtain ⟨o1, h⟩ := h
  obtain ⟨o2, h⟩ := h
  obtain ⟨o3, h⟩ := h
  obtain ⟨o4, h⟩ := h
  refine sv_callV hM dX12_expression_2 sm_iv_442 (by decide) (sm_a0 _) rfl rfl (Nat.le_of_ble_eq_true rfl) sm_h47 (Nat.le_of_ble_eq_true rfl) (Nat.le_of_ble_eq_true rfl) (F' := (((if 0 < (S 1021 0) then 12 else 30 * (20 - (S 1023 0)) + 25))).toNat) (sv_Fe o4) rfl ((IH ((if 0 < (S 1021 0) then 12 else 30 * (20 - (S 1023 0)) + 25)) o3.1 o3.2).2.2.1 p1 S hok o1 o2 rfl) (fun v S1 hq => ?_)
  obtain ⟨r9, rfl, hr9, ok6, md7, hpo8⟩ := hq
  obtain ⟨g5, rfl⟩ : ∃ g, S1 = sv_sts S [1020, 1021, 1022, 1023, 5, 1011, 3, 4, 1007, 1009, 11, 12, 13, 14, 1024, 15, 16, 1031, 1032, 17, 18, 19, 20, 21, 22, 23, 24, 25, 1042, 1043, 1044, 1045, 1100001, 1100002, 1100005, 1100003, 1100004, 1100018, 1100019, 1100016] g := ⟨_, md7.eq⟩
  show sv_T sm_XS sm_cs sm_L sm_sh (30 * (20 - (S 1023 0)) + 26).toNat (q_expression p1 S) 43 5 [(0, .ref 0), (1, sv_I p1)] [sv_I r9] (sv_sts S [1020, 1021, 1022, 1023, 5, 1011, 3, 4, 1007, 1009, 11, 12, 13, 14, 1024, 15, 16, 1031, 1032, 17, 18, 19, 20, 21, 22, 23, 24, 25, 1042, 1043, 1044, 1045, 1100001, 1100002, 1100005, 1100003, 1100004, 1100018, 1100019, 1100016] g5)
  have md10 : sv_mod [1020, 1021, 1022, 1023, 5, 1011, 3, 4, 1007, 1009, 11, 12, 13, 14, 1024, 15, 16, 1031, 1032, 17, 18, 19, 20, 21, 22, 23, 24, 25, 1042, 1043, 1044, 1045, 1100001, 1100002, 1100005, 1100003, 1100004, 1100018, 1100019, 1100016] S (sv_sts S [1020, 1021, 1022, 1023, 5, 1011, 3, 4, 1007, 1009, 11, 12, 13, 14, 1024, 15, 16, 1031, 1032, 17, 18, 19, 20, 21, 22, 23, 24, 25, 1042, 1043, 1044, 1045, 1100001, 1100002, 1100005, 1100003, 1100004, 1100018, 1100019, 1100016] g5) := sv_mod.sts sv_mod.rf (by decide)
  have h := h r9 hr9 g5 hpo8
  refine sv_istore_n hM dX12_expression_5 (by decide) rfl ?_
  show sv_T sm_XS sm_cs sm_L sm_sh (30 * (20 - (S 1023 0)) + 26).toNat (q_expression p1 S) 43 6 [(0, .ref 0), (1, sv_I p1), (2, sv_I r9)] [] (sv_sts S [1020, 1021, 1022, 1023, 5, 1011, 3, 4, 1007, 1009, 11, 12, 13, 14, 1024, 15, 16, 1031, 1032, 17, 18, 19, 20, 21, 22, 23, 24, 25, 1042, 1043, 1044, 1045, 1100001, 1100002, 1100005, 1100003, 1100004, 1100018, 1100019, 1100016] g5)
  obtain ⟨hin14, h⟩ := h
  have hJ : ∀ a : Int × sv_S, (sv_R a.1 ∧ sm_ok (sv_sts (sv_sts S [1020, 1021, 1022, 1023, 5, 1011, 3, 4, 1007, 1009, 11, 12, 13, 14, 1024, 15, 16, 1031, 1032, 17, 18, 19, 20, 21, 22, 23, 24, 25, 1042, 1043, 1044, 1045, 1100001, 1100002, 1100005, 1100003, 1100004, 1100018, 1100019, 1100016] g5) [1020, 1021, 1022, 1023, 5, 1011, 3, 4, 1007, 1009, 11, 12, 13, 14, 1024, 15, 16, 1031, 1032, 17, 18, 19, 20, 21, 22, 23, 24, 25, 1042, 1043, 1044, 1045, 1100001, 1100002, 1100005, 1100003, 1100004, 1100018, 1100019, 1100016] a.2) ∧ (0 ≤ (a.2 1020 0) ∧ (a.2 1020 0) < (S 1012 0) ∧ sm_TK (S 6) (S 8) (S 9) (S 10) (S 1012 0) ∧ 0 ≤ (a.2 1021 0) ∧ 0 ≤ (S 1004 0) ∧ (S 1004 0) ≤ 4000 ∧ 1 ≤ (a.2 1007 0) ∧ (a.2 1007 0) ≤ 90 ∧ sm_LN (a.2 4) 400 (a.2 1007 0) ∧ ((a.2 1021 0) = 0 → sm_WF (a.2 11) (a.2 12) (a.2 13) (a.2 1100001) (a.2 1100002) (a.2 1100005) (a.2 1100003) (a.2 1100004) (a.2 1024 0) (a.2 1007 0) (a.2 1009 0) (sm_fn (a.2 1032 0) (a.2 21) (a.2 1043 0)) ∧ sm_FT (a.2 11) (a.2 12) (a.2 13) (a.2 1100019) (a.2 17) (a.2 18) (a.2 21) (a.2 19) (a.2 20) (a.2 22) (a.2 1100016) (a.2 1024 0) (a.2 1007 0) (a.2 1009 0) (a.2 1032 0) (a.2 1032 0) ∧ sm_WG (a.2 1100001) (a.2 1100019) (a.2 1043 0) ∧ (a.2 1100016 (a.2 1043 0)) = 0) ∧ sm_HD (a.2 23) (a.2 24) (a.2 1100018 0) (a.2 1007 0) ∧ sm_HD (a.2 25) (fun _ : Int => (a.2 1042 0)) 1 (a.2 1007 0) ∧ 0 ≤ (a.2 1043 0) ∧ (a.2 1043 0) < (a.2 1100018 0) ∧ (a.2 1100018 0) = (a.2 1032 0) ∧ (a.2 1032 0) ≤ 1 + (a.2 1020 0) ∧ 0 ≤ (a.2 1031 0) ∧ (a.2 1031 0) ≤ 100 ∧ 0 ≤ (a.2 1044 0) ∧ (a.2 1044 0) ≤ 30 ∧ 0 ≤ (a.2 1045 0) ∧ (a.2 1045 0) ≤ 30 ∧ 0 ≤ (a.2 1024 0) ∧ ((a.2 1021 0) = 0 → 0 ≤ (a.2 1023 0) ∧ (a.2 1023 0) ≤ 20 ∧ (a.2 1031 0) ≤ 3 * (a.2 1023 0) + 5 ∧ (a.2 1024 0) ≤ 2 * (a.2 1020 0) ∧ (a.2 1044 0) ≤ (a.2 1023 0) ∧ (a.2 1045 0) ≤ (a.2 1023 0)) ∧ (S 1020 0) ≤ (a.2 1020 0) ∧ (a.2 1020 0) < (S 1012 0) ∧ 0 ≤ (a.2 1021 0) ∧ (0 < (S 1021 0) → 0 < (a.2 1021 0)) ∧ (S 1007 0) ≤ (a.2 1007 0) ∧ (a.2 1007 0) ≤ 90 ∧ sm_LN (a.2 4) 400 (a.2 1007 0) ∧ ((S 1009 0) = 1 → (a.2 1009 0) = 1) ∧ ((a.2 1021 0) = 0 → sm_WF (a.2 11) (a.2 12) (a.2 13) (a.2 1100001) (a.2 1100002) (a.2 1100005) (a.2 1100003) (a.2 1100004) (a.2 1024 0) (a.2 1007 0) (a.2 1009 0) (sm_fn (a.2 1032 0) (a.2 21) (a.2 1043 0)) ∧ sm_PX (S 11) (S 12) (S 13) (S 1100001) (S 1100002) (S 1100005) (S 1100003) (S 1100004) (a.2 11) (a.2 12) (a.2 13) (a.2 1100001) (a.2 1100002) (a.2 1100005) (a.2 1100003) (a.2 1100004) (S 1024 0) ∧ sm_FT (a.2 11) (a.2 12) (a.2 13) (a.2 1100019) (a.2 17) (a.2 18) (a.2 21) (a.2 19) (a.2 20) (a.2 22) (a.2 1100016) (a.2 1024 0) (a.2 1007 0) (a.2 1009 0) (a.2 1032 0) (a.2 1032 0) ∧ sm_WG (a.2 1100001) (a.2 1100019) (a.2 1043 0) ∧ sm_F1 (S 1100019) (a.2 1100019) (S 1024 0) ∧ sm_F1 (S 17) (a.2 17) (S 1032 0) ∧ sm_F1 (S 18) (a.2 18) (S 1032 0) ∧ sm_F1 (S 21) (a.2 21) (S 1032 0) ∧ sm_F1 (S 20) (a.2 20) (S 1032 0) ∧ sm_F1 (S 22) (a.2 22) (S 1032 0) ∧ sm_F1 (S 1100016) (a.2 1100016) (S 1032 0) ∧ sm_F1 (S 19) (a.2 19) (8 * (S 1032 0)) ∧ sm_FN (a.2 1100016) (S 1032 0) (a.2 1032 0)) ∧ sm_KL (S 15) (S 16) (a.2 15) (a.2 16) (S 1031 0) ∧ sm_HD (a.2 23) (a.2 24) (a.2 1100018 0) (a.2 1007 0) ∧ sm_HD (a.2 25) (fun _ : Int => (a.2 1042 0)) 1 (a.2 1007 0) ∧ (a.2 1031 0) = (S 1031 0) ∧ (a.2 1043 0) = (S 1043 0) ∧ (a.2 1044 0) = (S 1044 0) ∧ (a.2 1045 0) = (S 1045 0) ∧ (S 1032 0) ≤ (a.2 1032 0) ∧ (a.2 1032 0) ≤ 1 + (a.2 1020 0) ∧ (a.2 1100018 0) = (a.2 1032 0) ∧ (S 1024 0) ≤ (a.2 1024 0) ∧ ((a.2 1021 0) = 0 → (a.2 1023 0) = (S 1023 0) ∧ (a.2 1024 0) + 1 ≤ (S 1024 0) + 2 * ((a.2 1020 0) - (S 1020 0))) ∧ (0 < (a.2 1021 0) → (a.2 1024 0) ≤ (S 1024 0) + 2 * ((a.2 1020 0) - (S 1020 0)) + 2 * (30 * (20 - (S 1023 0)) + 26)) ∧ -1 ≤ a.1 ∧ a.1 < 12000 ∧ ((a.2 1021 0) = 0 → (S 1020 0) < (a.2 1020 0) ∧ 1 ≤ (S 6 (S 1020 0)) ∧ sm_ex (a.2 1100001) (a.2 1100002) (a.2 1100005) (a.2 1024 0) 1 a.1 (17 * (20 - (S 1023 0)) + 17) (20 - (S 1023 0)) ∧ ((a.2 11 a.1) = 2 ∨ (a.2 11 a.1) = 7 → (a.2 1100002 a.1) ≤ 17 * (20 - (S 1023 0)) + 2)))) → sv_T sm_XS sm_cs sm_L sm_sh (30 * (20 - (S 1023 0)) + 26).toNat (q_expression p1 S) 43 6 [(0, .ref 0), (1, sv_I p1), (2, sv_I a.1)] [] (sv_sts (sv_sts S [1020, 1021, 1022, 1023, 5, 1011, 3, 4, 1007, 1009, 11, 12, 13, 14, 1024, 15, 16, 1031, 1032, 17, 18, 19, 20, 21, 22, 23, 24, 25, 1042, 1043, 1044, 1045, 1100001, 1100002, 1100005, 1100003, 1100004, 1100018, 1100019, 1100016] g5) [1020, 1021, 1022, 1023, 5, 1011, 3, 4, 1007, 1009, 11, 12, 13, 14, 1024, 15, 16, 1031, 1032, 17, 18, 19, 20, 21, 22, 23, 24, 25, 1042, 1043, 1044, 1045, 1100001, 1100002, 1100005, 1100003, 1100004, 1100018, 1100019, 1100016] a.2) := by
    refine sv_loop (α := Int × sv_S) (fun a => sv_R a.1 ∧ sm_ok (sv_sts (sv_sts S [1020, 1021, 1022, 1023, 5, 1011, 3, 4, 1007, 1009, 11, 12, 13, 14, 1024, 15, 16, 1031, 1032, 17, 18, 19, 20, 21, 22, 23, 24, 25, 1042, 1043, 1044, 1045, 1100001, 1100002, 1100005, 1100003, 1100004, 1100018, 1100019, 1100016] g5) [1020, 1021, 1022, 1023, 5, 1011, 3, 4, 1007, 1009, 11, 12, 13, 14, 1024, 15, 16, 1031, 1032, 17, 18, 19, 20, 21, 22, 23, 24, 25, 1042, 1043, 1044, 1045, 1100001, 1100002, 1100005, 1100003, 1100004, 1100018, 1100019, 1100016] a.2) ∧ (0 ≤ (a.2 1020 0) ∧ (a.2 1020 0) < (S 1012 0) ∧ sm_TK (S 6) (S 8) (S 9) (S 10) (S 1012 0) ∧ 0 ≤ (a.2 1021 0) ∧ 0 ≤ (S 1004 0) ∧ (S 1004 0) ≤ 4000 ∧ 1 ≤ (a.2 1007 0) ∧ (a.2 1007 0) ≤ 90 ∧ sm_LN (a.2 4) 400 (a.2 1007 0) ∧ ((a.2 1021 0) = 0 → sm_WF (a.2 11) (a.2 12) (a.2 13) (a.2 1100001) (a.2 1100002) (a.2 1100005) (a.2 1100003) (a.2 1100004) (a.2 1024 0) (a.2 1007 0) (a.2 1009 0) (sm_fn (a.2 1032 0) (a.2 21) (a.2 1043 0)) ∧ sm_FT (a.2 11) (a.2 12) (a.2 13) (a.2 1100019) (a.2 17) (a.2 18) (a.2 21) (a.2 19) (a.2 20) (a.2 22) (a.2 1100016) (a.2 1024 0) (a.2 1007 0) (a.2 1009 0) (a.2 1032 0) (a.2 1032 0) ∧ sm_WG (a.2 1100001) (a.2 1100019) (a.2 1043 0) ∧ (a.2 1100016 (a.2 1043 0)) = 0) ∧ sm_HD (a.2 23) (a.2 24) (a.2 1100018 0) (a.2 1007 0) ∧ sm_HD (a.2 25) (fun _ : Int => (a.2 1042 0)) 1 (a.2 1007 0) ∧ 0 ≤ (a.2 1043 0) ∧ (a.2 1043 0) < (a.2 1100018 0) ∧ (a.2 1100018 0) = (a.2 1032 0) ∧ (a.2 1032 0) ≤ 1 + (a.2 1020 0) ∧ 0 ≤ (a.2 1031 0) ∧ (a.2 1031 0) ≤ 100 ∧ 0 ≤ (a.2 1044 0) ∧ (a.2 1044 0) ≤ 30 ∧ 0 ≤ (a.2 1045 0) ∧ (a.2 1045 0) ≤ 30 ∧ 0 ≤ (a.2 1024 0) ∧ ((a.2 1021 0) = 0 → 0 ≤ (a.2 1023 0) ∧ (a.2 1023 0) ≤ 20 ∧ (a.2 1031 0) ≤ 3 * (a.2 1023 0) + 5 ∧ (a.2 1024 0) ≤ 2 * (a.2 1020 0) ∧ (a.2 1044 0) ≤ (a.2 1023 0) ∧ (a.2 1045 0) ≤ (a.2 1023 0)) ∧ (S 1020 0) ≤ (a.2 1020 0) ∧ (a.2 1020 0) < (S 1012 0) ∧ 0 ≤ (a.2 1021 0) ∧ (0 < (S 1021 0) → 0 < (a.2 1021 0)) ∧ (S 1007 0) ≤ (a.2 1007 0) ∧ (a.2 1007 0) ≤ 90 ∧ sm_LN (a.2 4) 400 (a.2 1007 0) ∧ ((S 1009 0) = 1 → (a.2 1009 0) = 1) ∧ ((a.2 1021 0) = 0 → sm_WF (a.2 11) (a.2 12) (a.2 13) (a.2 1100001) (a.2 1100002) (a.2 1100005) (a.2 1100003) (a.2 1100004) (a.2 1024 0) (a.2 1007 0) (a.2 1009 0) (sm_fn (a.2 1032 0) (a.2 21) (a.2 1043 0)) ∧ sm_PX (S 11) (S 12) (S 13) (S 1100001) (S 1100002) (S 1100005) (S 1100003) (S 1100004) (a.2 11) (a.2 12) (a.2 13) (a.2 1100001) (a.2 1100002) (a.2 1100005) (a.2 1100003) (a.2 1100004) (S 1024 0) ∧ sm_FT (a.2 11) (a.2 12) (a.2 13) (a.2 1100019) (a.2 17) (a.2 18) (a.2 21) (a.2 19) (a.2 20) (a.2 22) (a.2 1100016) (a.2 1024 0) (a.2 1007 0) (a.2 1009 0) (a.2 1032 0) (a.2 1032 0) ∧ sm_WG (a.2 1100001) (a.2 1100019) (a.2 1043 0) ∧ sm_F1 (S 1100019) (a.2 1100019) (S 1024 0) ∧ sm_F1 (S 17) (a.2 17) (S 1032 0) ∧ sm_F1 (S 18) (a.2 18) (S 1032 0) ∧ sm_F1 (S 21) (a.2 21) (S 1032 0) ∧ sm_F1 (S 20) (a.2 20) (S 1032 0) ∧ sm_F1 (S 22) (a.2 22) (S 1032 0) ∧ sm_F1 (S 1100016) (a.2 1100016) (S 1032 0) ∧ sm_F1 (S 19) (a.2 19) (8 * (S 1032 0)) ∧ sm_FN (a.2 1100016) (S 1032 0) (a.2 1032 0)) ∧ sm_KL (S 15) (S 16) (a.2 15) (a.2 16) (S 1031 0) ∧ sm_HD (a.2 23) (a.2 24) (a.2 1100018 0) (a.2 1007 0) ∧ sm_HD (a.2 25) (fun _ : Int => (a.2 1042 0)) 1 (a.2 1007 0) ∧ (a.2 1031 0) = (S 1031 0) ∧ (a.2 1043 0) = (S 1043 0) ∧ (a.2 1044 0) = (S 1044 0) ∧ (a.2 1045 0) = (S 1045 0) ∧ (S 1032 0) ≤ (a.2 1032 0) ∧ (a.2 1032 0) ≤ 1 + (a.2 1020 0) ∧ (a.2 1100018 0) = (a.2 1032 0) ∧ (S 1024 0) ≤ (a.2 1024 0) ∧ ((a.2 1021 0) = 0 → (a.2 1023 0) = (S 1023 0) ∧ (a.2 1024 0) + 1 ≤ (S 1024 0) + 2 * ((a.2 1020 0) - (S 1020 0))) ∧ (0 < (a.2 1021 0) → (a.2 1024 0) ≤ (S 1024 0) + 2 * ((a.2 1020 0) - (S 1020 0)) + 2 * (30 * (20 - (S 1023 0)) + 26)) ∧ -1 ≤ a.1 ∧ a.1 < 12000 ∧ ((a.2 1021 0) = 0 → (S 1020 0) < (a.2 1020 0) ∧ 1 ≤ (S 6 (S 1020 0)) ∧ sm_ex (a.2 1100001) (a.2 1100002) (a.2 1100005) (a.2 1024 0) 1 a.1 (17 * (20 - (S 1023 0)) + 17) (20 - (S 1023 0)) ∧ ((a.2 11 a.1) = 2 ∨ (a.2 11 a.1) = 7 → (a.2 1100002 a.1) ≤ 17 * (20 - (S 1023 0)) + 2)))) (fun a => 2 * ((S 1012 0) - (a.2 1020 0)) + (if (a.2 1021 0) = 0 then 1 else 0)) (fun a => sv_T sm_XS sm_cs sm_L sm_sh (30 * (20 - (S 1023 0)) + 26).toNat (q_expression p1 S) 43 6 [(0, .ref 0), (1, sv_I p1), (2, sv_I a.1)] [] (sv_sts (sv_sts S [1020, 1021, 1022, 1023, 5, 1011, 3, 4, 1007, 1009, 11, 12, 13, 14, 1024, 15, 16, 1031, 1032, 17, 18, 19, 20, 21, 22, 23, 24, 25, 1042, 1043, 1044, 1045, 1100001, 1100002, 1100005, 1100003, 1100004, 1100018, 1100019, 1100016] g5) [1020, 1021, 1022, 1023, 5, 1011, 3, 4, 1007, 1009, 11, 12, 13, 14, 1024, 15, 16, 1031, 1032, 17, 18, 19, 20, 21, 22, 23, 24, 25, 1042, 1043, 1044, 1045, 1100001, 1100002, 1100005, 1100003, 1100004, 1100018, 1100019, 1100016] a.2)) (fun a q => (h a.1 q.1 a.2 q.2.2).1) (fun a q ih13 => ?_)
    obtain ⟨l2_12, g11⟩ := a
    obtain ⟨hl2_12, ok15, hin14i⟩ := q
    have h := (h l2_12 hl2_12 g11 hin14i).2
    show sv_T sm_XS sm_cs sm_L sm_sh (30 * (20 - (S 1023 0)) + 26).toNat (q_expression p1 S) 43 6 [(0, .ref 0), (1, sv_I p1), (2, sv_I l2_12)] [] (sv_sts (sv_sts S [1020, 1021, 1022, 1023, 5, 1011, 3, 4, 1007, 1009, 11, 12, 13, 14, 1024, 15, 16, 1031, 1032, 17, 18, 19, 20, 21, 22, 23, 24, 25, 1042, 1043, 1044, 1045, 1100001, 1100002, 1100005, 1100003, 1100004, 1100018, 1100019, 1100016] g5) [1020, 1021, 1022, 1023, 5, 1011, 3, 4, 1007, 1009, 11, 12, 13, 14, 1024, 15, 16, 1031, 1032, 17, 18, 19, 20, 21, 22, 23, 24, 25, 1042, 1043, 1044, 1045, 1100001, 1100002, 1100005, 1100003, 1100004, 1100018, 1100019, 1100016] g11)
    have md16 : sv_mod [1020, 1021, 1022, 1023, 5, 1011, 3, 4, 1007, 1009, 11, 12, 13, 14, 1024, 15, 16, 1031, 1032, 17, 18, 19, 20, 21, 22, 23, 24, 25, 1042, 1043, 1044, 1045, 1100001, 1100002, 1100005, 1100003, 1100004, 1100018, 1100019, 1100016] S (sv_sts (sv_sts S [1020, 1021, 1022, 1023, 5, 1011, 3, 4, 1007, 1009, 11, 12, 13, 14, 1024, 15, 16, 1031, 1032, 17, 18, 19, 20, 21, 22, 23, 24, 25, 1042, 1043, 1044, 1045, 1100001, 1100002, 1100005, 1100003, 1100004, 1100018, 1100019, 1100016] g5) [1020, 1021, 1022, 1023, 5, 1011, 3, 4, 1007, 1009, 11, 12, 13, 14, 1024, 15, 16, 1031, 1032, 17, 18, 19, 20, 21, 22, 23, 24, 25, 1042, 1043, 1044, 1045, 1100001, 1100002, 1100005, 1100003, 1100004, 1100018, 1100019, 1100016] g11) := sv_mod.sts md10 (by decide)
    have md17 : sv_mod [1020, 1021, 1022, 1023, 5, 1011, 3, 4, 1007, 1009, 11, 12, 13, 14, 1024, 15, 16, 1031, 1032, 17, 18, 19, 20, 21, 22, 23, 24, 25, 1042, 1043, 1044, 1045, 1100001, 1100002, 1100005, 1100003, 1100004, 1100018, 1100019, 1100016] (sv_sts S [1020, 1021, 1022, 1023, 5, 1011, 3, 4, 1007, 1009, 11, 12, 13, 14, 1024, 15, 16, 1031, 1032, 17, 18, 19, 20, 21, 22, 23, 24, 25, 1042, 1043, 1044, 1045, 1100001, 1100002, 1100005, 1100003, 1100004, 1100018, 1100019, 1100016] g5) (sv_sts (sv_sts S [1020, 1021, 1022, 1023, 5, 1011, 3, 4, 1007, 1009, 11, 12, 13, 14, 1024, 15, 16, 1031, 1032, 17, 18, 19, 20, 21, 22, 23, 24, 25, 1042, 1043, 1044, 1045, 1100001, 1100002, 1100005, 1100003, 1100004, 1100018, 1100019, 1100016] g5) [1020, 1021, 1022, 1023, 5, 1011, 3, 4, 1007, 1009, 11, 12, 13, 14, 1024, 15, 16, 1031, 1032, 17, 18, 19, 20, 21, 22, 23, 24, 25, 1042, 1043, 1044, 1045, 1100001, 1100002, 1100005, 1100003, 1100004, 1100018, 1100019, 1100016] g11) := sv_mod.sts sv_mod.rf (by decide)
    refine sv_aload_n hM dX12_expression_6 rfl rfl ?_
    have k18 : sv_R (g11 1021 0) := sm_okI ok15 sm_r1021 0
    have h := h k18
    refine sv_getI hM dX12_expression_7 sm_fl_389 (sm_a0 _) sm_k21 rfl (x := (g11 1021 0)) rfl ?_
    refine sv_cond_ne hM dX12_expression_10 k18 (t := 48) rfl rfl (fun hc => ?_) (fun hc => ?_)
    · have h := h.1 (hc)
      refine sv_iload_n hM dX12_expression_48 rfl rfl ?_
      exact sv_iret hM dX12_expression_49 rfl rfl ⟨l2_12, rfl, hl2_12, ok15, md16, h⟩
    · have h := h.2 (hc)
      refine sv_aload_n hM dX12_expression_13 rfl rfl ?_
      refine sv_bipush (d := (32 : Int)) hM dX12_expression_14 rfl rfl ?_
      obtain ⟨o19, h⟩ := h
      obtain ⟨o20, h⟩ := h
      refine sv_callV hM dX12_expression_16 sm_iv_398 (by decide) (sm_a0 _) rfl rfl (Nat.le_of_ble_eq_true rfl) sm_h24 (Nat.le_of_ble_eq_true rfl) (Nat.le_of_ble_eq_true rfl) (F' := 0) (sv_Fn (n := 0) o20) rfl (t_isSign (32 : Int) (sv_sts (sv_sts S [1020, 1021, 1022, 1023, 5, 1011, 3, 4, 1007, 1009, 11, 12, 13, 14, 1024, 15, 16, 1031, 1032, 17, 18, 19, 20, 21, 22, 23, 24, 25, 1042, 1043, 1044, 1045, 1100001, 1100002, 1100005, 1100003, 1100004, 1100018, 1100019, 1100016] g5) [1020, 1021, 1022, 1023, 5, 1011, 3, 4, 1007, 1009, 11, 12, 13, 14, 1024, 15, 16, 1031, 1032, 17, 18, 19, 20, 21, 22, 23, 24, 25, 1042, 1043, 1044, 1045, 1100001, 1100002, 1100005, 1100003, 1100004, 1100018, 1100019, 1100016] g11) ok15 (⟨by decide, by decide⟩ : sv_R (32 : Int)) o19) (fun v S1 hq => ?_)
      obtain ⟨rfl, hS1⟩ := hq
      obtain rfl : (sv_sts (sv_sts S [1020, 1021, 1022, 1023, 5, 1011, 3, 4, 1007, 1009, 11, 12, 13, 14, 1024, 15, 16, 1031, 1032, 17, 18, 19, 20, 21, 22, 23, 24, 25, 1042, 1043, 1044, 1045, 1100001, 1100002, 1100005, 1100003, 1100004, 1100018, 1100019, 1100016] g5) [1020, 1021, 1022, 1023, 5, 1011, 3, 4, 1007, 1009, 11, 12, 13, 14, 1024, 15, 16, 1031, 1032, 17, 18, 19, 20, 21, 22, 23, 24, 25, 1042, 1043, 1044, 1045, 1100001, 1100002, 1100005, 1100003, 1100004, 1100018, 1100019, 1100016] g11) = S1 := hS1.symm
      show sv_T sm_XS sm_cs sm_L sm_sh (30 * (20 - (S 1023 0)) + 26).toNat (q_expression p1 S) 43 19 [(0, .ref 0), (1, sv_I p1), (2, sv_I l2_12)] [sv_I (if (S 6 (g11 1020 0)) = 5 ∧ (S 7 (g11 1020 0)) = (32 : Int) then 1 else 0)] (sv_sts (sv_sts S [1020, 1021, 1022, 1023, 5, 1011, 3, 4, 1007, 1009, 11, 12, 13, 14, 1024, 15, 16, 1031, 1032, 17, 18, 19, 20, 21, 22, 23, 24, 25, 1042, 1043, 1044, 1045, 1100001, 1100002, 1100005, 1100003, 1100004, 1100018, 1100019, 1100016] g5) [1020, 1021, 1022, 1023, 5, 1011, 3, 4, 1007, 1009, 11, 12, 13, 14, 1024, 15, 16, 1031, 1032, 17, 18, 19, 20, 21, 22, 23, 24, 25, 1042, 1043, 1044, 1045, 1100001, 1100002, 1100005, 1100003, 1100004, 1100018, 1100019, 1100016] g11)
      refine sv_cond_eq hM dX12_expression_19 (sv_Rite : sv_R (if (S 6 (g11 1020 0)) = 5 ∧ (S 7 (g11 1020 0)) = (32 : Int) then 1 else 0)) (t := 48) rfl rfl (fun hc => ?_) (fun hc => ?_)
      · have h := h.1 (sv_iten hc)
        refine sv_iload_n hM dX12_expression_48 rfl rfl ?_
        exact sv_iret hM dX12_expression_49 rfl rfl ⟨l2_12, rfl, hl2_12, ok15, md16, h⟩
      · have h := h.2 (sv_itep hc)
        refine sv_aload_n hM dX12_expression_22 rfl rfl ?_
        refine sv_dupA hM dX12_expression_23 rfl ?_
        have k21 : sv_R (g11 1020 0) := sm_okI ok15 sm_r1020 0
        have h := h k21
        refine sv_getI hM dX12_expression_24 sm_fl_392 (sm_a0 _) sm_k20 rfl (x := (g11 1020 0)) rfl ?_
        refine sv_iconst (d := (1 : Int)) hM dX12_expression_27 rfl rfl ?_
        refine sv_iadd hM dX12_expression_28 rfl ?_
        obtain ⟨o22, h⟩ := h
        refine sv_putI sm_X hM dX12_expression_29 sm_fp_392 (sm_a0 _) sm_q20 (Or.inl rfl) rfl rfl rfl rfl ?_
        have ok23 : sm_ok (sv_up (sv_sts (sv_sts S [1020, 1021, 1022, 1023, 5, 1011, 3, 4, 1007, 1009, 11, 12, 13, 14, 1024, 15, 16, 1031, 1032, 17, 18, 19, 20, 21, 22, 23, 24, 25, 1042, 1043, 1044, 1045, 1100001, 1100002, 1100005, 1100003, 1100004, 1100018, 1100019, 1100016] g5) [1020, 1021, 1022, 1023, 5, 1011, 3, 4, 1007, 1009, 11, 12, 13, 14, 1024, 15, 16, 1031, 1032, 17, 18, 19, 20, 21, 22, 23, 24, 25, 1042, 1043, 1044, 1045, 1100001, 1100002, 1100005, 1100003, 1100004, 1100018, 1100019, 1100016] g11) 1020 0 ((g11 1020 0) + (1 : Int))) := sm_upI ok15 sm_r1020 o22
        have md24 : sv_mod [1020, 1021, 1022, 1023, 5, 1011, 3, 4, 1007, 1009, 11, 12, 13, 14, 1024, 15, 16, 1031, 1032, 17, 18, 19, 20, 21, 22, 23, 24, 25, 1042, 1043, 1044, 1045, 1100001, 1100002, 1100005, 1100003, 1100004, 1100018, 1100019, 1100016] S (sv_up (sv_sts (sv_sts S [1020, 1021, 1022, 1023, 5, 1011, 3, 4, 1007, 1009, 11, 12, 13, 14, 1024, 15, 16, 1031, 1032, 17, 18, 19, 20, 21, 22, 23, 24, 25, 1042, 1043, 1044, 1045, 1100001, 1100002, 1100005, 1100003, 1100004, 1100018, 1100019, 1100016] g5) [1020, 1021, 1022, 1023, 5, 1011, 3, 4, 1007, 1009, 11, 12, 13, 14, 1024, 15, 16, 1031, 1032, 17, 18, 19, 20, 21, 22, 23, 24, 25, 1042, 1043, 1044, 1045, 1100001, 1100002, 1100005, 1100003, 1100004, 1100018, 1100019, 1100016] g11) 1020 0 ((g11 1020 0) + (1 : Int))) := sv_mod.up md16 (by decide)
        have md25 : sv_mod [1020, 1021, 1022, 1023, 5, 1011, 3, 4, 1007, 1009, 11, 12, 13, 14, 1024, 15, 16, 1031, 1032, 17, 18, 19, 20, 21, 22, 23, 24, 25, 1042, 1043, 1044, 1045, 1100001, 1100002, 1100005, 1100003, 1100004, 1100018, 1100019, 1100016] (sv_sts S [1020, 1021, 1022, 1023, 5, 1011, 3, 4, 1007, 1009, 11, 12, 13, 14, 1024, 15, 16, 1031, 1032, 17, 18, 19, 20, 21, 22, 23, 24, 25, 1042, 1043, 1044, 1045, 1100001, 1100002, 1100005, 1100003, 1100004, 1100018, 1100019, 1100016] g5) (sv_up (sv_sts (sv_sts S [1020, 1021, 1022, 1023, 5, 1011, 3, 4, 1007, 1009, 11, 12, 13, 14, 1024, 15, 16, 1031, 1032, 17, 18, 19, 20, 21, 22, 23, 24, 25, 1042, 1043, 1044, 1045, 1100001, 1100002, 1100005, 1100003, 1100004, 1100018, 1100019, 1100016] g5) [1020, 1021, 1022, 1023, 5, 1011, 3, 4, 1007, 1009, 11, 12, 13, 14, 1024, 15, 16, 1031, 1032, 17, 18, 19, 20, 21, 22, 23, 24, 25, 1042, 1043, 1044, 1045, 1100001, 1100002, 1100005, 1100003, 1100004, 1100018, 1100019, 1100016] g11) 1020 0 ((g11 1020 0) + (1 : Int))) := sv_mod.up md17 (by decide)
        refine sv_aload_n hM dX12_expression_32 rfl rfl ?_
        refine sv_iconst (d := (3 : Int)) hM dX12_expression_33 rfl rfl ?_
        refine sv_iload_n hM dX12_expression_34 rfl rfl ?_
        refine sv_aload_n hM dX12_expression_35 rfl rfl ?_
        refine sv_iload_n hM dX12_expression_36 rfl rfl ?_
        obtain ⟨o26, h⟩ := h
        obtain ⟨o27, h⟩ := h
        obtain ⟨o28, h⟩ := h
        refine sv_callV hM dX12_expression_37 sm_iv_442 (by decide) (sm_a0 _) rfl rfl (Nat.le_of_ble_eq_true rfl) sm_h47 (Nat.le_of_ble_eq_true rfl) (Nat.le_of_ble_eq_true rfl) (F' := (((if 0 < (g11 1021 0) then 12 else 30 * (20 - (g11 1023 0)) + 25))).toNat) (sv_Fe o28) rfl ((IH ((if 0 < (g11 1021 0) then 12 else 30 * (20 - (g11 1023 0)) + 25)) o27.1 o27.2).2.2.1 p1 (sv_up (sv_sts (sv_sts S [1020, 1021, 1022, 1023, 5, 1011, 3, 4, 1007, 1009, 11, 12, 13, 14, 1024, 15, 16, 1031, 1032, 17, 18, 19, 20, 21, 22, 23, 24, 25, 1042, 1043, 1044, 1045, 1100001, 1100002, 1100005, 1100003, 1100004, 1100018, 1100019, 1100016] g5) [1020, 1021, 1022, 1023, 5, 1011, 3, 4, 1007, 1009, 11, 12, 13, 14, 1024, 15, 16, 1031, 1032, 17, 18, 19, 20, 21, 22, 23, 24, 25, 1042, 1043, 1044, 1045, 1100001, 1100002, 1100005, 1100003, 1100004, 1100018, 1100019, 1100016] g11) 1020 0 ((g11 1020 0) + (1 : Int))) ok23 o1 o26 rfl) (fun v S1 hq => ?_)
        obtain ⟨r33, rfl, hr33, ok30, md31, hpo32⟩ := hq
        obtain ⟨g29, rfl⟩ : ∃ g, S1 = sv_sts (sv_up (sv_sts (sv_sts S [1020, 1021, 1022, 1023, 5, 1011, 3, 4, 1007, 1009, 11, 12, 13, 14, 1024, 15, 16, 1031, 1032, 17, 18, 19, 20, 21, 22, 23, 24, 25, 1042, 1043, 1044, 1045, 1100001, 1100002, 1100005, 1100003, 1100004, 1100018, 1100019, 1100016] g5) [1020, 1021, 1022, 1023, 5, 1011, 3, 4, 1007, 1009, 11, 12, 13, 14, 1024, 15, 16, 1031, 1032, 17, 18, 19, 20, 21, 22, 23, 24, 25, 1042, 1043, 1044, 1045, 1100001, 1100002, 1100005, 1100003, 1100004, 1100018, 1100019, 1100016] g11) 1020 0 ((g11 1020 0) + (1 : Int))) [1020, 1021, 1022, 1023, 5, 1011, 3, 4, 1007, 1009, 11, 12, 13, 14, 1024, 15, 16, 1031, 1032, 17, 18, 19, 20, 21, 22, 23, 24, 25, 1042, 1043, 1044, 1045, 1100001, 1100002, 1100005, 1100003, 1100004, 1100018, 1100019, 1100016] g := ⟨_, md31.eq⟩
        show sv_T sm_XS sm_cs sm_L sm_sh (30 * (20 - (S 1023 0)) + 26).toNat (q_expression p1 S) 43 40 [(0, .ref 0), (1, sv_I p1), (2, sv_I l2_12)] [sv_I r33, sv_I l2_12, sv_I (3 : Int), .ref 0] (sv_sts (sv_up (sv_sts (sv_sts S [1020, 1021, 1022, 1023, 5, 1011, 3, 4, 1007, 1009, 11, 12, 13, 14, 1024, 15, 16, 1031, 1032, 17, 18, 19, 20, 21, 22, 23, 24, 25, 1042, 1043, 1044, 1045, 1100001, 1100002, 1100005, 1100003, 1100004, 1100018, 1100019, 1100016] g5) [1020, 1021, 1022, 1023, 5, 1011, 3, 4, 1007, 1009, 11, 12, 13, 14, 1024, 15, 16, 1031, 1032, 17, 18, 19, 20, 21, 22, 23, 24, 25, 1042, 1043, 1044, 1045, 1100001, 1100002, 1100005, 1100003, 1100004, 1100018, 1100019, 1100016] g11) 1020 0 ((g11 1020 0) + (1 : Int))) [1020, 1021, 1022, 1023, 5, 1011, 3, 4, 1007, 1009, 11, 12, 13, 14, 1024, 15, 16, 1031, 1032, 17, 18, 19, 20, 21, 22, 23, 24, 25, 1042, 1043, 1044, 1045, 1100001, 1100002, 1100005, 1100003, 1100004, 1100018, 1100019, 1100016] g29)
        have md34 : sv_mod [1020, 1021, 1022, 1023, 5, 1011, 3, 4, 1007, 1009, 11, 12, 13, 14, 1024, 15, 16, 1031, 1032, 17, 18, 19, 20, 21, 22, 23, 24, 25, 1042, 1043, 1044, 1045, 1100001, 1100002, 1100005, 1100003, 1100004, 1100018, 1100019, 1100016] S (sv_sts (sv_up (sv_sts (sv_sts S [1020, 1021, 1022, 1023, 5, 1011, 3, 4, 1007, 1009, 11, 12, 13, 14, 1024, 15, 16, 1031, 1032, 17, 18, 19, 20, 21, 22, 23, 24, 25, 1042, 1043, 1044, 1045, 1100001, 1100002, 1100005, 1100003, 1100004, 1100018, 1100019, 1100016] g5) [1020, 1021, 1022, 1023, 5, 1011, 3, 4, 1007, 1009, 11, 12, 13, 14, 1024, 15, 16, 1031, 1032, 17, 18, 19, 20, 21, 22, 23, 24, 25, 1042, 1043, 1044, 1045, 1100001, 1100002, 1100005, 1100003, 1100004, 1100018, 1100019, 1100016] g11) 1020 0 ((g11 1020 0) + (1 : Int))) [1020, 1021, 1022, 1023, 5, 1011, 3, 4, 1007, 1009, 11, 12, 13, 14, 1024, 15, 16, 1031, 1032, 17, 18, 19, 20, 21, 22, 23, 24, 25, 1042, 1043, 1044, 1045, 1100001, 1100002, 1100005, 1100003, 1100004, 1100018, 1100019, 1100016] g29) := sv_mod.sts md24 (by decide)
        have md35 : sv_mod [1020, 1021, 1022, 1023, 5, 1011, 3, 4, 1007, 1009, 11, 12, 13, 14, 1024, 15, 16, 1031, 1032, 17, 18, 19, 20, 21, 22, 23, 24, 25, 1042, 1043, 1044, 1045, 1100001, 1100002, 1100005, 1100003, 1100004, 1100018, 1100019, 1100016] (sv_sts S [1020, 1021, 1022, 1023, 5, 1011, 3, 4, 1007, 1009, 11, 12, 13, 14, 1024, 15, 16, 1031, 1032, 17, 18, 19, 20, 21, 22, 23, 24, 25, 1042, 1043, 1044, 1045, 1100001, 1100002, 1100005, 1100003, 1100004, 1100018, 1100019, 1100016] g5) (sv_sts (sv_up (sv_sts (sv_sts S [1020, 1021, 1022, 1023, 5, 1011, 3, 4, 1007, 1009, 11, 12, 13, 14, 1024, 15, 16, 1031, 1032, 17, 18, 19, 20, 21, 22, 23, 24, 25, 1042, 1043, 1044, 1045, 1100001, 1100002, 1100005, 1100003, 1100004, 1100018, 1100019, 1100016] g5) [1020, 1021, 1022, 1023, 5, 1011, 3, 4, 1007, 1009, 11, 12, 13, 14, 1024, 15, 16, 1031, 1032, 17, 18, 19, 20, 21, 22, 23, 24, 25, 1042, 1043, 1044, 1045, 1100001, 1100002, 1100005, 1100003, 1100004, 1100018, 1100019, 1100016] g11) 1020 0 ((g11 1020 0) + (1 : Int))) [1020, 1021, 1022, 1023, 5, 1011, 3, 4, 1007, 1009, 11, 12, 13, 14, 1024, 15, 16, 1031, 1032, 17, 18, 19, 20, 21, 22, 23, 24, 25, 1042, 1043, 1044, 1045, 1100001, 1100002, 1100005, 1100003, 1100004, 1100018, 1100019, 1100016] g29) := sv_mod.sts md25 (by decide)
        have h := h r33 hr33 g29 hpo32
        refine sv_iconst (d := (0 : Int)) hM dX12_expression_40 rfl rfl ?_
        obtain ⟨o36, h⟩ := h
        refine sv_callV hM dX12_expression_41 sm_iv_446 (by decide) (sm_a0 _) rfl rfl (Nat.le_of_ble_eq_true rfl) sm_h33 (Nat.le_of_ble_eq_true rfl) (Nat.le_of_ble_eq_true rfl) (F' := 0) (sv_Fn (n := 0) o20) rfl (t_node (3 : Int) l2_12 r33 (0 : Int) (sv_sts (sv_up (sv_sts (sv_sts S [1020, 1021, 1022, 1023, 5, 1011, 3, 4, 1007, 1009, 11, 12, 13, 14, 1024, 15, 16, 1031, 1032, 17, 18, 19, 20, 21, 22, 23, 24, 25, 1042, 1043, 1044, 1045, 1100001, 1100002, 1100005, 1100003, 1100004, 1100018, 1100019, 1100016] g5) [1020, 1021, 1022, 1023, 5, 1011, 3, 4, 1007, 1009, 11, 12, 13, 14, 1024, 15, 16, 1031, 1032, 17, 18, 19, 20, 21, 22, 23, 24, 25, 1042, 1043, 1044, 1045, 1100001, 1100002, 1100005, 1100003, 1100004, 1100018, 1100019, 1100016] g11) 1020 0 ((g11 1020 0) + (1 : Int))) [1020, 1021, 1022, 1023, 5, 1011, 3, 4, 1007, 1009, 11, 12, 13, 14, 1024, 15, 16, 1031, 1032, 17, 18, 19, 20, 21, 22, 23, 24, 25, 1042, 1043, 1044, 1045, 1100001, 1100002, 1100005, 1100003, 1100004, 1100018, 1100019, 1100016] g29) ok30 (⟨by decide, by decide⟩ : sv_R (3 : Int)) hl2_12 hr33 (⟨by decide, by decide⟩ : sv_R (0 : Int)) o36) (fun v S1 hq => ?_)
        obtain ⟨r41, rfl, hr41, ok38, md39, hpo40⟩ := hq
        obtain ⟨g37, rfl⟩ : ∃ g, S1 = sv_sts (sv_sts (sv_up (sv_sts (sv_sts S [1020, 1021, 1022, 1023, 5, 1011, 3, 4, 1007, 1009, 11, 12, 13, 14, 1024, 15, 16, 1031, 1032, 17, 18, 19, 20, 21, 22, 23, 24, 25, 1042, 1043, 1044, 1045, 1100001, 1100002, 1100005, 1100003, 1100004, 1100018, 1100019, 1100016] g5) [1020, 1021, 1022, 1023, 5, 1011, 3, 4, 1007, 1009, 11, 12, 13, 14, 1024, 15, 16, 1031, 1032, 17, 18, 19, 20, 21, 22, 23, 24, 25, 1042, 1043, 1044, 1045, 1100001, 1100002, 1100005, 1100003, 1100004, 1100018, 1100019, 1100016] g11) 1020 0 ((g11 1020 0) + (1 : Int))) [1020, 1021, 1022, 1023, 5, 1011, 3, 4, 1007, 1009, 11, 12, 13, 14, 1024, 15, 16, 1031, 1032, 17, 18, 19, 20, 21, 22, 23, 24, 25, 1042, 1043, 1044, 1045, 1100001, 1100002, 1100005, 1100003, 1100004, 1100018, 1100019, 1100016] g29) [1024, 11, 12, 13, 14, 1100019] g := ⟨_, md39.eq⟩
        show sv_T sm_XS sm_cs sm_L sm_sh (30 * (20 - (S 1023 0)) + 26).toNat (q_expression p1 S) 43 44 [(0, .ref 0), (1, sv_I p1), (2, sv_I l2_12)] [sv_I r41] (sv_sts (sv_sts (sv_up (sv_sts (sv_sts S [1020, 1021, 1022, 1023, 5, 1011, 3, 4, 1007, 1009, 11, 12, 13, 14, 1024, 15, 16, 1031, 1032, 17, 18, 19, 20, 21, 22, 23, 24, 25, 1042, 1043, 1044, 1045, 1100001, 1100002, 1100005, 1100003, 1100004, 1100018, 1100019, 1100016] g5) [1020, 1021, 1022, 1023, 5, 1011, 3, 4, 1007, 1009, 11, 12, 13, 14, 1024, 15, 16, 1031, 1032, 17, 18, 19, 20, 21, 22, 23, 24, 25, 1042, 1043, 1044, 1045, 1100001, 1100002, 1100005, 1100003, 1100004, 1100018, 1100019, 1100016] g11) 1020 0 ((g11 1020 0) + (1 : Int))) [1020, 1021, 1022, 1023, 5, 1011, 3, 4, 1007, 1009, 11, 12, 13, 14, 1024, 15, 16, 1031, 1032, 17, 18, 19, 20, 21, 22, 23, 24, 25, 1042, 1043, 1044, 1045, 1100001, 1100002, 1100005, 1100003, 1100004, 1100018, 1100019, 1100016] g29) [1024, 11, 12, 13, 14, 1100019] g37)
        have md42 : sv_mod [1020, 1021, 1022, 1023, 5, 1011, 3, 4, 1007, 1009, 11, 12, 13, 14, 1024, 15, 16, 1031, 1032, 17, 18, 19, 20, 21, 22, 23, 24, 25, 1042, 1043, 1044, 1045, 1100001, 1100002, 1100005, 1100003, 1100004, 1100018, 1100019, 1100016] S (sv_sts (sv_sts (sv_up (sv_sts (sv_sts S [1020, 1021, 1022, 1023, 5, 1011, 3, 4, 1007, 1009, 11, 12, 13, 14, 1024, 15, 16, 1031, 1032, 17, 18, 19, 20, 21, 22, 23, 24, 25, 1042, 1043, 1044, 1045, 1100001, 1100002, 1100005, 1100003, 1100004, 1100018, 1100019, 1100016] g5) [1020, 1021, 1022, 1023, 5, 1011, 3, 4, 1007, 1009, 11, 12, 13, 14, 1024, 15, 16, 1031, 1032, 17, 18, 19, 20, 21, 22, 23, 24, 25, 1042, 1043, 1044, 1045, 1100001, 1100002, 1100005, 1100003, 1100004, 1100018, 1100019, 1100016] g11) 1020 0 ((g11 1020 0) + (1 : Int))) [1020, 1021, 1022, 1023, 5, 1011, 3, 4, 1007, 1009, 11, 12, 13, 14, 1024, 15, 16, 1031, 1032, 17, 18, 19, 20, 21, 22, 23, 24, 25, 1042, 1043, 1044, 1045, 1100001, 1100002, 1100005, 1100003, 1100004, 1100018, 1100019, 1100016] g29) [1024, 11, 12, 13, 14, 1100019] g37) := sv_mod.sts md34 (by decide)
        have md43 : sv_mod [1020, 1021, 1022, 1023, 5, 1011, 3, 4, 1007, 1009, 11, 12, 13, 14, 1024, 15, 16, 1031, 1032, 17, 18, 19, 20, 21, 22, 23, 24, 25, 1042, 1043, 1044, 1045, 1100001, 1100002, 1100005, 1100003, 1100004, 1100018, 1100019, 1100016] (sv_sts S [1020, 1021, 1022, 1023, 5, 1011, 3, 4, 1007, 1009, 11, 12, 13, 14, 1024, 15, 16, 1031, 1032, 17, 18, 19, 20, 21, 22, 23, 24, 25, 1042, 1043, 1044, 1045, 1100001, 1100002, 1100005, 1100003, 1100004, 1100018, 1100019, 1100016] g5) (sv_sts (sv_sts (sv_up (sv_sts (sv_sts S [1020, 1021, 1022, 1023, 5, 1011, 3, 4, 1007, 1009, 11, 12, 13, 14, 1024, 15, 16, 1031, 1032, 17, 18, 19, 20, 21, 22, 23, 24, 25, 1042, 1043, 1044, 1045, 1100001, 1100002, 1100005, 1100003, 1100004, 1100018, 1100019, 1100016] g5) [1020, 1021, 1022, 1023, 5, 1011, 3, 4, 1007, 1009, 11, 12, 13, 14, 1024, 15, 16, 1031, 1032, 17, 18, 19, 20, 21, 22, 23, 24, 25, 1042, 1043, 1044, 1045, 1100001, 1100002, 1100005, 1100003, 1100004, 1100018, 1100019, 1100016] g11) 1020 0 ((g11 1020 0) + (1 : Int))) [1020, 1021, 1022, 1023, 5, 1011, 3, 4, 1007, 1009, 11, 12, 13, 14, 1024, 15, 16, 1031, 1032, 17, 18, 19, 20, 21, 22, 23, 24, 25, 1042, 1043, 1044, 1045, 1100001, 1100002, 1100005, 1100003, 1100004, 1100018, 1100019, 1100016] g29) [1024, 11, 12, 13, 14, 1100019] g37) := sv_mod.sts md35 (by decide)
        have h := h r41 hr41 g37 hpo40
        refine sv_ghost sm_X 1100001 r41 (1 : Int) (by decide) ?_
        have ok44 : sm_ok (sv_up (sv_sts (sv_sts (sv_up (sv_sts (sv_sts S [1020, 1021, 1022, 1023, 5, 1011, 3, 4, 1007, 1009, 11, 12, 13, 14, 1024, 15, 16, 1031, 1032, 17, 18, 19, 20, 21, 22, 23, 24, 25, 1042, 1043, 1044, 1045, 1100001, 1100002, 1100005, 1100003, 1100004, 1100018, 1100019, 1100016] g5) [1020, 1021, 1022, 1023, 5, 1011, 3, 4, 1007, 1009, 11, 12, 13, 14, 1024, 15, 16, 1031, 1032, 17, 18, 19, 20, 21, 22, 23, 24, 25, 1042, 1043, 1044, 1045, 1100001, 1100002, 1100005, 1100003, 1100004, 1100018, 1100019, 1100016] g11) 1020 0 ((g11 1020 0) + (1 : Int))) [1020, 1021, 1022, 1023, 5, 1011, 3, 4, 1007, 1009, 11, 12, 13, 14, 1024, 15, 16, 1031, 1032, 17, 18, 19, 20, 21, 22, 23, 24, 25, 1042, 1043, 1044, 1045, 1100001, 1100002, 1100005, 1100003, 1100004, 1100018, 1100019, 1100016] g29) [1024, 11, 12, 13, 14, 1100019] g37) 1100001 r41 (1 : Int)) := sm_upI ok38 sm_r1100001 (⟨by decide, by decide⟩ : sv_R (1 : Int))
        have md45 : sv_mod [1020, 1021, 1022, 1023, 5, 1011, 3, 4, 1007, 1009, 11, 12, 13, 14, 1024, 15, 16, 1031, 1032, 17, 18, 19, 20, 21, 22, 23, 24, 25, 1042, 1043, 1044, 1045, 1100001, 1100002, 1100005, 1100003, 1100004, 1100018, 1100019, 1100016] S (sv_up (sv_sts (sv_sts (sv_up (sv_sts (sv_sts S [1020, 1021, 1022, 1023, 5, 1011, 3, 4, 1007, 1009, 11, 12, 13, 14, 1024, 15, 16, 1031, 1032, 17, 18, 19, 20, 21, 22, 23, 24, 25, 1042, 1043, 1044, 1045, 1100001, 1100002, 1100005, 1100003, 1100004, 1100018, 1100019, 1100016] g5) [1020, 1021, 1022, 1023, 5, 1011, 3, 4, 1007, 1009, 11, 12, 13, 14, 1024, 15, 16, 1031, 1032, 17, 18, 19, 20, 21, 22, 23, 24, 25, 1042, 1043, 1044, 1045, 1100001, 1100002, 1100005, 1100003, 1100004, 1100018, 1100019, 1100016] g11) 1020 0 ((g11 1020 0) + (1 : Int))) [1020, 1021, 1022, 1023, 5, 1011, 3, 4, 1007, 1009, 11, 12, 13, 14, 1024, 15, 16, 1031, 1032, 17, 18, 19, 20, 21, 22, 23, 24, 25, 1042, 1043, 1044, 1045, 1100001, 1100002, 1100005, 1100003, 1100004, 1100018, 1100019, 1100016] g29) [1024, 11, 12, 13, 14, 1100019] g37) 1100001 r41 (1 : Int)) := sv_mod.up md42 (by decide)
        have md46 : sv_mod [1020, 1021, 1022, 1023, 5, 1011, 3, 4, 1007, 1009, 11, 12, 13, 14, 1024, 15, 16, 1031, 1032, 17, 18, 19, 20, 21, 22, 23, 24, 25, 1042, 1043, 1044, 1045, 1100001, 1100002, 1100005, 1100003, 1100004, 1100018, 1100019, 1100016] (sv_sts S [1020, 1021, 1022, 1023, 5, 1011, 3, 4, 1007, 1009, 11, 12, 13, 14, 1024, 15, 16, 1031, 1032, 17, 18, 19, 20, 21, 22, 23, 24, 25, 1042, 1043, 1044, 1045, 1100001, 1100002, 1100005, 1100003, 1100004, 1100018, 1100019, 1100016] g5) (sv_up (sv_sts (sv_sts (sv_up (sv_sts (sv_sts S [1020, 1021, 1022, 1023, 5, 1011, 3, 4, 1007, 1009, 11, 12, 13, 14, 1024, 15, 16, 1031, 1032, 17, 18, 19, 20, 21, 22, 23, 24, 25, 1042, 1043, 1044, 1045, 1100001, 1100002, 1100005, 1100003, 1100004, 1100018, 1100019, 1100016] g5) [1020, 1021, 1022, 1023, 5, 1011, 3, 4, 1007, 1009, 11, 12, 13, 14, 1024, 15, 16, 1031, 1032, 17, 18, 19, 20, 21, 22, 23, 24, 25, 1042, 1043, 1044, 1045, 1100001, 1100002, 1100005, 1100003, 1100004, 1100018, 1100019, 1100016] g11) 1020 0 ((g11 1020 0) + (1 : Int))) [1020, 1021, 1022, 1023, 5, 1011, 3, 4, 1007, 1009, 11, 12, 13, 14, 1024, 15, 16, 1031, 1032, 17, 18, 19, 20, 21, 22, 23, 24, 25, 1042, 1043, 1044, 1045, 1100001, 1100002, 1100005, 1100003, 1100004, 1100018, 1100019, 1100016] g29) [1024, 11, 12, 13, 14, 1100019] g37) 1100001 r41 (1 : Int)) := sv_mod.up md43 (by decide)
        obtain ⟨o47, h⟩ := h
        refine sv_ghost sm_X 1100002 r41 ((17 * (20 - (S 1023 0)) + 17)) (by decide) ?_
        have ok48 : sm_ok (sv_up (sv_up (sv_sts (sv_sts (sv_up (sv_sts (sv_sts S [1020, 1021, 1022, 1023, 5, 1011, 3, 4, 1007, 1009, 11, 12, 13, 14, 1024, 15, 16, 1031, 1032, 17, 18, 19, 20, 21, 22, 23, 24, 25, 1042, 1043, 1044, 1045, 1100001, 1100002, 1100005, 1100003, 1100004, 1100018, 1100019, 1100016] g5) [1020, 1021, 1022, 1023, 5, 1011, 3, 4, 1007, 1009, 11, 12, 13, 14, 1024, 15, 16, 1031, 1032, 17, 18, 19, 20, 21, 22, 23, 24, 25, 1042, 1043, 1044, 1045, 1100001, 1100002, 1100005, 1100003, 1100004, 1100018, 1100019, 1100016] g11) 1020 0 ((g11 1020 0) + (1 : Int))) [1020, 1021, 1022, 1023, 5, 1011, 3, 4, 1007, 1009, 11, 12, 13, 14, 1024, 15, 16, 1031, 1032, 17, 18, 19, 20, 21, 22, 23, 24, 25, 1042, 1043, 1044, 1045, 1100001, 1100002, 1100005, 1100003, 1100004, 1100018, 1100019, 1100016] g29) [1024, 11, 12, 13, 14, 1100019] g37) 1100001 r41 (1 : Int)) 1100002 r41 ((17 * (20 - (S 1023 0)) + 17))) := sm_upI ok44 sm_r1100002 o47
        have md49 : sv_mod [1020, 1021, 1022, 1023, 5, 1011, 3, 4, 1007, 1009, 11, 12, 13, 14, 1024, 15, 16, 1031, 1032, 17, 18, 19, 20, 21, 22, 23, 24, 25, 1042, 1043, 1044, 1045, 1100001, 1100002, 1100005, 1100003, 1100004, 1100018, 1100019, 1100016] S (sv_up (sv_up (sv_sts (sv_sts (sv_up (sv_sts (sv_sts S [1020, 1021, 1022, 1023, 5, 1011, 3, 4, 1007, 1009, 11, 12, 13, 14, 1024, 15, 16, 1031, 1032, 17, 18, 19, 20, 21, 22, 23, 24, 25, 1042, 1043, 1044, 1045, 1100001, 1100002, 1100005, 1100003, 1100004, 1100018, 1100019, 1100016] g5) [1020, 1021, 1022, 1023, 5, 1011, 3, 4, 1007, 1009, 11, 12, 13, 14, 1024, 15, 16, 1031, 1032, 17, 18, 19, 20, 21, 22, 23, 24, 25, 1042, 1043, 1044, 1045, 1100001, 1100002, 1100005, 1100003, 1100004, 1100018, 1100019, 1100016] g11) 1020 0 ((g11 1020 0) + (1 : Int))) [1020, 1021, 1022, 1023, 5, 1011, 3, 4, 1007, 1009, 11, 12, 13, 14, 1024, 15, 16, 1031, 1032, 17, 18, 19, 20, 21, 22, 23, 24, 25, 1042, 1043, 1044, 1045, 1100001, 1100002, 1100005, 1100003, 1100004, 1100018, 1100019, 1100016] g29) [1024, 11, 12, 13, 14, 1100019] g37) 1100001 r41 (1 : Int)) 1100002 r41 ((17 * (20 - (S 1023 0)) + 17))) := sv_mod.up md45 (by decide)
        have md50 : sv_mod [1020, 1021, 1022, 1023, 5, 1011, 3, 4, 1007, 1009, 11, 12, 13, 14, 1024, 15, 16, 1031, 1032, 17, 18, 19, 20, 21, 22, 23, 24, 25, 1042, 1043, 1044, 1045, 1100001, 1100002, 1100005, 1100003, 1100004, 1100018, 1100019, 1100016] (sv_sts S [1020, 1021, 1022, 1023, 5, 1011, 3, 4, 1007, 1009, 11, 12, 13, 14, 1024, 15, 16, 1031, 1032, 17, 18, 19, 20, 21, 22, 23, 24, 25, 1042, 1043, 1044, 1045, 1100001, 1100002, 1100005, 1100003, 1100004, 1100018, 1100019, 1100016] g5) (sv_up (sv_up (sv_sts (sv_sts (sv_up (sv_sts (sv_sts S [1020, 1021, 1022, 1023, 5, 1011, 3, 4, 1007, 1009, 11, 12, 13, 14, 1024, 15, 16, 1031, 1032, 17, 18, 19, 20, 21, 22, 23, 24, 25, 1042, 1043, 1044, 1045, 1100001, 1100002, 1100005, 1100003, 1100004, 1100018, 1100019, 1100016] g5) [1020, 1021, 1022, 1023, 5, 1011, 3, 4, 1007, 1009, 11, 12, 13, 14, 1024, 15, 16, 1031, 1032, 17, 18, 19, 20, 21, 22, 23, 24, 25, 1042, 1043, 1044, 1045, 1100001, 1100002, 1100005, 1100003, 1100004, 1100018, 1100019, 1100016] g11) 1020 0 ((g11 1020 0) + (1 : Int))) [1020, 1021, 1022, 1023, 5, 1011, 3, 4, 1007, 1009, 11, 12, 13, 14, 1024, 15, 16, 1031, 1032, 17, 18, 19, 20, 21, 22, 23, 24, 25, 1042, 1043, 1044, 1045, 1100001, 1100002, 1100005, 1100003, 1100004, 1100018, 1100019, 1100016] g29) [1024, 11, 12, 13, 14, 1100019] g37) 1100001 r41 (1 : Int)) 1100002 r41 ((17 * (20 - (S 1023 0)) + 17))) := sv_mod.up md46 (by decide)
        obtain ⟨o51, h⟩ := h
        refine sv_ghost sm_X 1100005 r41 ((20 - (S 1023 0))) (by decide) ?_
        have ok52 : sm_ok (sv_up (sv_up (sv_up (sv_sts (sv_sts (sv_up (sv_sts (sv_sts S [1020, 1021, 1022, 1023, 5, 1011, 3, 4, 1007, 1009, 11, 12, 13, 14, 1024, 15, 16, 1031, 1032, 17, 18, 19, 20, 21, 22, 23, 24, 25, 1042, 1043, 1044, 1045, 1100001, 1100002, 1100005, 1100003, 1100004, 1100018, 1100019, 1100016] g5) [1020, 1021, 1022, 1023, 5, 1011, 3, 4, 1007, 1009, 11, 12, 13, 14, 1024, 15, 16, 1031, 1032, 17, 18, 19, 20, 21, 22, 23, 24, 25, 1042, 1043, 1044, 1045, 1100001, 1100002, 1100005, 1100003, 1100004, 1100018, 1100019, 1100016] g11) 1020 0 ((g11 1020 0) + (1 : Int))) [1020, 1021, 1022, 1023, 5, 1011, 3, 4, 1007, 1009, 11, 12, 13, 14, 1024, 15, 16, 1031, 1032, 17, 18, 19, 20, 21, 22, 23, 24, 25, 1042, 1043, 1044, 1045, 1100001, 1100002, 1100005, 1100003, 1100004, 1100018, 1100019, 1100016] g29) [1024, 11, 12, 13, 14, 1100019] g37) 1100001 r41 (1 : Int)) 1100002 r41 ((17 * (20 - (S 1023 0)) + 17))) 1100005 r41 ((20 - (S 1023 0)))) := sm_upI ok48 sm_r1100005 o51
        have md53 : sv_mod [1020, 1021, 1022, 1023, 5, 1011, 3, 4, 1007, 1009, 11, 12, 13, 14, 1024, 15, 16, 1031, 1032, 17, 18, 19, 20, 21, 22, 23, 24, 25, 1042, 1043, 1044, 1045, 1100001, 1100002, 1100005, 1100003, 1100004, 1100018, 1100019, 1100016] S (sv_up (sv_up (sv_up (sv_sts (sv_sts (sv_up (sv_sts (sv_sts S [1020, 1021, 1022, 1023, 5, 1011, 3, 4, 1007, 1009, 11, 12, 13, 14, 1024, 15, 16, 1031, 1032, 17, 18, 19, 20, 21, 22, 23, 24, 25, 1042, 1043, 1044, 1045, 1100001, 1100002, 1100005, 1100003, 1100004, 1100018, 1100019, 1100016] g5) [1020, 1021, 1022, 1023, 5, 1011, 3, 4, 1007, 1009, 11, 12, 13, 14, 1024, 15, 16, 1031, 1032, 17, 18, 19, 20, 21, 22, 23, 24, 25, 1042, 1043, 1044, 1045, 1100001, 1100002, 1100005, 1100003, 1100004, 1100018, 1100019, 1100016] g11) 1020 0 ((g11 1020 0) + (1 : Int))) [1020, 1021, 1022, 1023, 5, 1011, 3, 4, 1007, 1009, 11, 12, 13, 14, 1024, 15, 16, 1031, 1032, 17, 18, 19, 20, 21, 22, 23, 24, 25, 1042, 1043, 1044, 1045, 1100001, 1100002, 1100005, 1100003, 1100004, 1100018, 1100019, 1100016] g29) [1024, 11, 12, 13, 14, 1100019] g37) 1100001 r41 (1 : Int)) 1100002 r41 ((17 * (20 - (S 1023 0)) + 17))) 1100005 r41 ((20 - (S 1023 0)))) := sv_mod.up md49 (by decide)
        have md54 : sv_mod [1020, 1021, 1022, 1023, 5, 1011, 3, 4, 1007, 1009, 11, 12, 13, 14, 1024, 15, 16, 1031, 1032, 17, 18, 19, 20, 21, 22, 23, 24, 25, 1042, 1043, 1044, 1045, 1100001, 1100002, 1100005, 1100003, 1100004, 1100018, 1100019, 1100016] (sv_sts S [1020, 1021, 1022, 1023, 5, 1011, 3, 4, 1007, 1009, 11, 12, 13, 14, 1024, 15, 16, 1031, 1032, 17, 18, 19, 20, 21, 22, 23, 24, 25, 1042, 1043, 1044, 1045, 1100001, 1100002, 1100005, 1100003, 1100004, 1100018, 1100019, 1100016] g5) (sv_up (sv_up (sv_up (sv_sts (sv_sts (sv_up (sv_sts (sv_sts S [1020, 1021, 1022, 1023, 5, 1011, 3, 4, 1007, 1009, 11, 12, 13, 14, 1024, 15, 16, 1031, 1032, 17, 18, 19, 20, 21, 22, 23, 24, 25, 1042, 1043, 1044, 1045, 1100001, 1100002, 1100005, 1100003, 1100004, 1100018, 1100019, 1100016] g5) [1020, 1021, 1022, 1023, 5, 1011, 3, 4, 1007, 1009, 11, 12, 13, 14, 1024, 15, 16, 1031, 1032, 17, 18, 19, 20, 21, 22, 23, 24, 25, 1042, 1043, 1044, 1045, 1100001, 1100002, 1100005, 1100003, 1100004, 1100018, 1100019, 1100016] g11) 1020 0 ((g11 1020 0) + (1 : Int))) [1020, 1021, 1022, 1023, 5, 1011, 3, 4, 1007, 1009, 11, 12, 13, 14, 1024, 15, 16, 1031, 1032, 17, 18, 19, 20, 21, 22, 23, 24, 25, 1042, 1043, 1044, 1045, 1100001, 1100002, 1100005, 1100003, 1100004, 1100018, 1100019, 1100016] g29) [1024, 11, 12, 13, 14, 1100019] g37) 1100001 r41 (1 : Int)) 1100002 r41 ((17 * (20 - (S 1023 0)) + 17))) 1100005 r41 ((20 - (S 1023 0)))) := sv_mod.up md50 (by decide)
        refine sv_ghost sm_X 1100003 r41 (0 : Int) (by decide) ?_
        have ok55 : sm_ok (sv_up (sv_up (sv_up (sv_up (sv_sts (sv_sts (sv_up (sv_sts (sv_sts S [1020, 1021, 1022, 1023, 5, 1011, 3, 4, 1007, 1009, 11, 12, 13, 14, 1024, 15, 16, 1031, 1032, 17, 18, 19, 20, 21, 22, 23, 24, 25, 1042, 1043, 1044, 1045, 1100001, 1100002, 1100005, 1100003, 1100004, 1100018, 1100019, 1100016] g5) [1020, 1021, 1022, 1023, 5, 1011, 3, 4, 1007, 1009, 11, 12, 13, 14, 1024, 15, 16, 1031, 1032, 17, 18, 19, 20, 21, 22, 23, 24, 25, 1042, 1043, 1044, 1045, 1100001, 1100002, 1100005, 1100003, 1100004, 1100018, 1100019, 1100016] g11) 1020 0 ((g11 1020 0) + (1 : Int))) [1020, 1021, 1022, 1023, 5, 1011, 3, 4, 1007, 1009, 11, 12, 13, 14, 1024, 15, 16, 1031, 1032, 17, 18, 19, 20, 21, 22, 23, 24, 25, 1042, 1043, 1044, 1045, 1100001, 1100002, 1100005, 1100003, 1100004, 1100018, 1100019, 1100016] g29) [1024, 11, 12, 13, 14, 1100019] g37) 1100001 r41 (1 : Int)) 1100002 r41 ((17 * (20 - (S 1023 0)) + 17))) 1100005 r41 ((20 - (S 1023 0)))) 1100003 r41 (0 : Int)) := sm_upI ok52 sm_r1100003 (⟨by decide, by decide⟩ : sv_R (0 : Int))
        have md56 : sv_mod [1020, 1021, 1022, 1023, 5, 1011, 3, 4, 1007, 1009, 11, 12, 13, 14, 1024, 15, 16, 1031, 1032, 17, 18, 19, 20, 21, 22, 23, 24, 25, 1042, 1043, 1044, 1045, 1100001, 1100002, 1100005, 1100003, 1100004, 1100018, 1100019, 1100016] S (sv_up (sv_up (sv_up (sv_up (sv_sts (sv_sts (sv_up (sv_sts (sv_sts S [1020, 1021, 1022, 1023, 5, 1011, 3, 4, 1007, 1009, 11, 12, 13, 14, 1024, 15, 16, 1031, 1032, 17, 18, 19, 20, 21, 22, 23, 24, 25, 1042, 1043, 1044, 1045, 1100001, 1100002, 1100005, 1100003, 1100004, 1100018, 1100019, 1100016] g5) [1020, 1021, 1022, 1023, 5, 1011, 3, 4, 1007, 1009, 11, 12, 13, 14, 1024, 15, 16, 1031, 1032, 17, 18, 19, 20, 21, 22, 23, 24, 25, 1042, 1043, 1044, 1045, 1100001, 1100002, 1100005, 1100003, 1100004, 1100018, 1100019, 1100016] g11) 1020 0 ((g11 1020 0) + (1 : Int))) [1020, 1021, 1022, 1023, 5, 1011, 3, 4, 1007, 1009, 11, 12, 13, 14, 1024, 15, 16, 1031, 1032, 17, 18, 19, 20, 21, 22, 23, 24, 25, 1042, 1043, 1044, 1045, 1100001, 1100002, 1100005, 1100003, 1100004, 1100018, 1100019, 1100016] g29) [1024, 11, 12, 13, 14, 1100019] g37) 1100001 r41 (1 : Int)) 1100002 r41 ((17 * (20 - (S 1023 0)) + 17))) 1100005 r41 ((20 - (S 1023 0)))) 1100003 r41 (0 : Int)) := sv_mod.up md53 (by decide)
        have md57 : sv_mod [1020, 1021, 1022, 1023, 5, 1011, 3, 4, 1007, 1009, 11, 12, 13, 14, 1024, 15, 16, 1031, 1032, 17, 18, 19, 20, 21, 22, 23, 24, 25, 1042, 1043, 1044, 1045, 1100001, 1100002, 1100005, 1100003, 1100004, 1100018, 1100019, 1100016] (sv_sts S [1020, 1021, 1022, 1023, 5, 1011, 3, 4, 1007, 1009, 11, 12, 13, 14, 1024, 15, 16, 1031, 1032, 17, 18, 19, 20, 21, 22, 23, 24, 25, 1042, 1043, 1044, 1045, 1100001, 1100002, 1100005, 1100003, 1100004, 1100018, 1100019, 1100016] g5) (sv_up (sv_up (sv_up (sv_up (sv_sts (sv_sts (sv_up (sv_sts (sv_sts S [1020, 1021, 1022, 1023, 5, 1011, 3, 4, 1007, 1009, 11, 12, 13, 14, 1024, 15, 16, 1031, 1032, 17, 18, 19, 20, 21, 22, 23, 24, 25, 1042, 1043, 1044, 1045, 1100001, 1100002, 1100005, 1100003, 1100004, 1100018, 1100019, 1100016] g5) [1020, 1021, 1022, 1023, 5, 1011, 3, 4, 1007, 1009, 11, 12, 13, 14, 1024, 15, 16, 1031, 1032, 17, 18, 19, 20, 21, 22, 23, 24, 25, 1042, 1043, 1044, 1045, 1100001, 1100002, 1100005, 1100003, 1100004, 1100018, 1100019, 1100016] g11) 1020 0 ((g11 1020 0) + (1 : Int))) [1020, 1021, 1022, 1023, 5, 1011, 3, 4, 1007, 1009, 11, 12, 13, 14, 1024, 15, 16, 1031, 1032, 17, 18, 19, 20, 21, 22, 23, 24, 25, 1042, 1043, 1044, 1045, 1100001, 1100002, 1100005, 1100003, 1100004, 1100018, 1100019, 1100016] g29) [1024, 11, 12, 13, 14, 1100019] g37) 1100001 r41 (1 : Int)) 1100002 r41 ((17 * (20 - (S 1023 0)) + 17))) 1100005 r41 ((20 - (S 1023 0)))) 1100003 r41 (0 : Int)) := sv_mod.up md54 (by decide)
        refine sv_ghost sm_X 1100004 r41 (0 : Int) (by decide) ?_
        have ok58 : sm_ok (sv_up (sv_up (sv_up (sv_up (sv_up (sv_sts (sv_sts (sv_up (sv_sts (sv_sts S [1020, 1021, 1022, 1023, 5, 1011, 3, 4, 1007, 1009, 11, 12, 13, 14, 1024, 15, 16, 1031, 1032, 17, 18, 19, 20, 21, 22, 23, 24, 25, 1042, 1043, 1044, 1045, 1100001, 1100002, 1100005, 1100003, 1100004, 1100018, 1100019, 1100016] g5) [1020, 1021, 1022, 1023, 5, 1011, 3, 4, 1007, 1009, 11, 12, 13, 14, 1024, 15, 16, 1031, 1032, 17, 18, 19, 20, 21, 22, 23, 24, 25, 1042, 1043, 1044, 1045, 1100001, 1100002, 1100005, 1100003, 1100004, 1100018, 1100019, 1100016] g11) 1020 0 ((g11 1020 0) + (1 : Int))) [1020, 1021, 1022, 1023, 5, 1011, 3, 4, 1007, 1009, 11, 12, 13, 14, 1024, 15, 16, 1031, 1032, 17, 18, 19, 20, 21, 22, 23, 24, 25, 1042, 1043, 1044, 1045, 1100001, 1100002, 1100005, 1100003, 1100004, 1100018, 1100019, 1100016] g29) [1024, 11, 12, 13, 14, 1100019] g37) 1100001 r41 (1 : Int)) 1100002 r41 ((17 * (20 - (S 1023 0)) + 17))) 1100005 r41 ((20 - (S 1023 0)))) 1100003 r41 (0 : Int)) 1100004 r41 (0 : Int)) := sm_upI ok55 sm_r1100004 (⟨by decide, by decide⟩ : sv_R (0 : Int))
        have md59 : sv_mod [1020, 1021, 1022, 1023, 5, 1011, 3, 4, 1007, 1009, 11, 12, 13, 14, 1024, 15, 16, 1031, 1032, 17, 18, 19, 20, 21, 22, 23, 24, 25, 1042, 1043, 1044, 1045, 1100001, 1100002, 1100005, 1100003, 1100004, 1100018, 1100019, 1100016] S (sv_up (sv_up (sv_up (sv_up (sv_up (sv_sts (sv_sts (sv_up (sv_sts (sv_sts S [1020, 1021, 1022, 1023, 5, 1011, 3, 4, 1007, 1009, 11, 12, 13, 14, 1024, 15, 16, 1031, 1032, 17, 18, 19, 20, 21, 22, 23, 24, 25, 1042, 1043, 1044, 1045, 1100001, 1100002, 1100005, 1100003, 1100004, 1100018, 1100019, 1100016] g5) [1020, 1021, 1022, 1023, 5, 1011, 3, 4, 1007, 1009, 11, 12, 13, 14, 1024, 15, 16, 1031, 1032, 17, 18, 19, 20, 21, 22, 23, 24, 25, 1042, 1043, 1044, 1045, 1100001, 1100002, 1100005, 1100003, 1100004, 1100018, 1100019, 1100016] g11) 1020 0 ((g11 1020 0) + (1 : Int))) [1020, 1021, 1022, 1023, 5, 1011, 3, 4, 1007, 1009, 11, 12, 13, 14, 1024, 15, 16, 1031, 1032, 17, 18, 19, 20, 21, 22, 23, 24, 25, 1042, 1043, 1044, 1045, 1100001, 1100002, 1100005, 1100003, 1100004, 1100018, 1100019, 1100016] g29) [1024, 11, 12, 13, 14, 1100019] g37) 1100001 r41 (1 : Int)) 1100002 r41 ((17 * (20 - (S 1023 0)) + 17))) 1100005 r41 ((20 - (S 1023 0)))) 1100003 r41 (0 : Int)) 1100004 r41 (0 : Int)) := sv_mod.up md56 (by decide)
        have md60 : sv_mod [1020, 1021, 1022, 1023, 5, 1011, 3, 4, 1007, 1009, 11, 12, 13, 14, 1024, 15, 16, 1031, 1032, 17, 18, 19, 20, 21, 22, 23, 24, 25, 1042, 1043, 1044, 1045, 1100001, 1100002, 1100005, 1100003, 1100004, 1100018, 1100019, 1100016] (sv_sts S [1020, 1021, 1022, 1023, 5, 1011, 3, 4, 1007, 1009, 11, 12, 13, 14, 1024, 15, 16, 1031, 1032, 17, 18, 19, 20, 21, 22, 23, 24, 25, 1042, 1043, 1044, 1045, 1100001, 1100002, 1100005, 1100003, 1100004, 1100018, 1100019, 1100016] g5) (sv_up (sv_up (sv_up (sv_up (sv_up (sv_sts (sv_sts (sv_up (sv_sts (sv_sts S [1020, 1021, 1022, 1023, 5, 1011, 3, 4, 1007, 1009, 11, 12, 13, 14, 1024, 15, 16, 1031, 1032, 17, 18, 19, 20, 21, 22, 23, 24, 25, 1042, 1043, 1044, 1045, 1100001, 1100002, 1100005, 1100003, 1100004, 1100018, 1100019, 1100016] g5) [1020, 1021, 1022, 1023, 5, 1011, 3, 4, 1007, 1009, 11, 12, 13, 14, 1024, 15, 16, 1031, 1032, 17, 18, 19, 20, 21, 22, 23, 24, 25, 1042, 1043, 1044, 1045, 1100001, 1100002, 1100005, 1100003, 1100004, 1100018, 1100019, 1100016] g11) 1020 0 ((g11 1020 0) + (1 : Int))) [1020, 1021, 1022, 1023, 5, 1011, 3, 4, 1007, 1009, 11, 12, 13, 14, 1024, 15, 16, 1031, 1032, 17, 18, 19, 20, 21, 22, 23, 24, 25, 1042, 1043, 1044, 1045, 1100001, 1100002, 1100005, 1100003, 1100004, 1100018, 1100019, 1100016] g29) [1024, 11, 12, 13, 14, 1100019] g37) 1100001 r41 (1 : Int)) 1100002 r41 ((17 * (20 - (S 1023 0)) + 17))) 1100005 r41 ((20 - (S 1023 0)))) 1100003 r41 (0 : Int)) 1100004 r41 (0 : Int)) := sv_mod.up md57 (by decide)
        have k61 : ((g29 1021 0) = 0 → sm_WG (g29 1100001) (g37 1100019) (g29 1043 0) → (g37 1100019 r41) = (g29 1043 0) → sm_WG (fun i' : Int => if i' = r41 then (1 : Int) else (g29 1100001) i') (g37 1100019) (g29 1043 0)) := fun _ a b => sm_WG_C a b
        have h := h k61
        have k62 : ((g29 1021 0) = 0 → sm_WF (g37 11) (g37 12) (g37 13) (g29 1100001) (g29 1100002) (g29 1100005) (g29 1100003) (g29 1100004) (g37 1024 0) (g29 1007 0) (g29 1009 0) (sm_fn (g29 1032 0) (g29 21) (g29 1043 0)) → (g29 1100001 r41) = 0 → 0 ≤ r41 → r41 < (g37 1024 0) → (g37 13 r41) = -1 → (g37 11 r41) = 3 → (sm_ex (g29 1100001) (g29 1100002) (g29 1100005) (g37 1024 0) 1 (g37 12 (5 * r41)) (17 * (20 - (S 1023 0)) + 17) (20 - (S 1023 0))) → ((g37 12 (5 * r41)) < r41) → (sm_ex (g29 1100001) (g29 1100002) (g29 1100005) (g37 1024 0) 1 (g37 12 (5 * r41 + 1)) (17 * (20 - (S 1023 0)) + 17) (20 - (S 1023 0))) → (0 ≤ (17 * (20 - (S 1023 0)) + 17)) → (0 ≤ (20 - (S 1023 0))) → ((g37 12 (5 * r41 + 1)) < r41) → sm_WF (g37 11) (g37 12) (g37 13) (fun i' : Int => if i' = r41 then (1 : Int) else (g29 1100001) i') (fun i' : Int => if i' = r41 then ((17 * (20 - (S 1023 0)) + 17)) else (g29 1100002) i') (fun i' : Int => if i' = r41 then ((20 - (S 1023 0))) else (g29 1100005) i') (fun i' : Int => if i' = r41 then (0 : Int) else (g29 1100003) i') (fun i' : Int => if i' = r41 then (0 : Int) else (g29 1100004) i') (g37 1024 0) (g29 1007 0) (g29 1009 0) (sm_fn (g29 1032 0) (g29 21) (g29 1043 0))) := fun a0 aW a1 a2 a3 a4 aS c1 c2 c3 c4 c5 c6 => (sm_mk1 aW a1 a2 a3 a4 (Or.inr ⟨rfl, sm_c1_3 aS c1 c2 c3⟩) ⟨c4, fun _ => c6, fun q => absurd q (by omega), c5⟩).1
        have h := h k62
        refine sv_istore_n hM dX12_expression_44 (by decide) rfl ?_
        show sv_T sm_XS sm_cs sm_L sm_sh (30 * (20 - (S 1023 0)) + 26).toNat (q_expression p1 S) 43 45 [(0, .ref 0), (1, sv_I p1), (2, sv_I r41)] [] (sv_up (sv_up (sv_up (sv_up (sv_up (sv_sts (sv_sts (sv_up (sv_sts (sv_sts S [1020, 1021, 1022, 1023, 5, 1011, 3, 4, 1007, 1009, 11, 12, 13, 14, 1024, 15, 16, 1031, 1032, 17, 18, 19, 20, 21, 22, 23, 24, 25, 1042, 1043, 1044, 1045, 1100001, 1100002, 1100005, 1100003, 1100004, 1100018, 1100019, 1100016] g5) [1020, 1021, 1022, 1023, 5, 1011, 3, 4, 1007, 1009, 11, 12, 13, 14, 1024, 15, 16, 1031, 1032, 17, 18, 19, 20, 21, 22, 23, 24, 25, 1042, 1043, 1044, 1045, 1100001, 1100002, 1100005, 1100003, 1100004, 1100018, 1100019, 1100016] g11) 1020 0 ((g11 1020 0) + (1 : Int))) [1020, 1021, 1022, 1023, 5, 1011, 3, 4, 1007, 1009, 11, 12, 13, 14, 1024, 15, 16, 1031, 1032, 17, 18, 19, 20, 21, 22, 23, 24, 25, 1042, 1043, 1044, 1045, 1100001, 1100002, 1100005, 1100003, 1100004, 1100018, 1100019, 1100016] g29) [1024, 11, 12, 13, 14, 1100019] g37) 1100001 r41 (1 : Int)) 1100002 r41 ((17 * (20 - (S 1023 0)) + 17))) 1100005 r41 ((20 - (S 1023 0)))) 1100003 r41 (0 : Int)) 1100004 r41 (0 : Int))
        refine sv_goto hM dX12_expression_45 (pc' := 6) rfl ?_
        have eS := sv_mod.eq md60
        have hb := ih13 (r41, (sv_up (sv_up (sv_up (sv_up (sv_up (sv_sts (sv_sts (sv_up (sv_sts (sv_sts S [1020, 1021, 1022, 1023, 5, 1011, 3, 4, 1007, 1009, 11, 12, 13, 14, 1024, 15, 16, 1031, 1032, 17, 18, 19, 20, 21, 22, 23, 24, 25, 1042, 1043, 1044, 1045, 1100001, 1100002, 1100005, 1100003, 1100004, 1100018, 1100019, 1100016] g5) [1020, 1021, 1022, 1023, 5, 1011, 3, 4, 1007, 1009, 11, 12, 13, 14, 1024, 15, 16, 1031, 1032, 17, 18, 19, 20, 21, 22, 23, 24, 25, 1042, 1043, 1044, 1045, 1100001, 1100002, 1100005, 1100003, 1100004, 1100018, 1100019, 1100016] g11) 1020 0 ((g11 1020 0) + (1 : Int))) [1020, 1021, 1022, 1023, 5, 1011, 3, 4, 1007, 1009, 11, 12, 13, 14, 1024, 15, 16, 1031, 1032, 17, 18, 19, 20, 21, 22, 23, 24, 25, 1042, 1043, 1044, 1045, 1100001, 1100002, 1100005, 1100003, 1100004, 1100018, 1100019, 1100016] g29) [1024, 11, 12, 13, 14, 1100019] g37) 1100001 r41 (1 : Int)) 1100002 r41 ((17 * (20 - (S 1023 0)) + 17))) 1100005 r41 ((20 - (S 1023 0)))) 1100003 r41 (0 : Int)) 1100004 r41 (0 : Int))) ⟨hr41, (by rw [← eS]; exact ok58), h.1⟩ h.2
        have hb : sv_T sm_XS sm_cs sm_L sm_sh (30 * (20 - (S 1023 0)) + 26).toNat (q_expression p1 S) 43 6 [(0, .ref 0), (1, sv_I p1), (2, sv_I r41)] [] (sv_up (sv_up (sv_up (sv_up (sv_up (sv_sts (sv_sts (sv_up (sv_sts (sv_sts S [1020, 1021, 1022, 1023, 5, 1011, 3, 4, 1007, 1009, 11, 12, 13, 14, 1024, 15, 16, 1031, 1032, 17, 18, 19, 20, 21, 22, 23, 24, 25, 1042, 1043, 1044, 1045, 1100001, 1100002, 1100005, 1100003, 1100004, 1100018, 1100019, 1100016] g5) [1020, 1021, 1022, 1023, 5, 1011, 3, 4, 1007, 1009, 11, 12, 13, 14, 1024, 15, 16, 1031, 1032, 17, 18, 19, 20, 21, 22, 23, 24, 25, 1042, 1043, 1044, 1045, 1100001, 1100002, 1100005, 1100003, 1100004, 1100018, 1100019, 1100016] g11) 1020 0 ((g11 1020 0) + (1 : Int))) [1020, 1021, 1022, 1023, 5, 1011, 3, 4, 1007, 1009, 11, 12, 13, 14, 1024, 15, 16, 1031, 1032, 17, 18, 19, 20, 21, 22, 23, 24, 25, 1042, 1043, 1044, 1045, 1100001, 1100002, 1100005, 1100003, 1100004, 1100018, 1100019, 1100016] g29) [1024, 11, 12, 13, 14, 1100019] g37) 1100001 r41 (1 : Int)) 1100002 r41 ((17 * (20 - (S 1023 0)) + 17))) 1100005 r41 ((20 - (S 1023 0)))) 1100003 r41 (0 : Int)) 1100004 r41 (0 : Int)) := Eq.mpr (congrArg (fun Z => sv_T sm_XS sm_cs sm_L sm_sh (30 * (20 - (S 1023 0)) + 26).toNat (q_expression p1 S) 43 6 [(0, .ref 0), (1, sv_I p1), (2, sv_I r41)] [] Z) eS) hb
        exact sv_less (lv := [(0, .ref 0), (1, sv_I p1), (2, sv_I r41)]) (sv_Sub_cons rfl (sv_Sub_cons rfl (sv_Sub_cons rfl sv_Sub_nil))) hb
  have eS := sv_mod.eq (sv_mod.rf (l := [1020, 1021, 1022, 1023, 5, 1011, 3, 4, 1007, 1009, 11, 12, 13, 14, 1024, 15, 16, 1031, 1032, 17, 18, 19, 20, 21, 22, 23, 24, 25, 1042, 1043, 1044, 1045, 1100001, 1100002, 1100005, 1100003, 1100004, 1100018, 1100019, 1100016]) (S := (sv_sts S [1020, 1021, 1022, 1023, 5, 1011, 3, 4, 1007, 1009, 11, 12, 13, 14, 1024, 15, 16, 1031, 1032, 17, 18, 19, 20, 21, 22, 23, 24, 25, 1042, 1043, 1044, 1045, 1100001, 1100002, 1100005, 1100003, 1100004, 1100018, 1100019, 1100016] g5)))
  have hb := hJ (r9, (sv_sts S [1020, 1021, 1022, 1023, 5, 1011, 3, 4, 1007, 1009, 11, 12, 13, 14, 1024, 15, 16, 1031, 1032, 17, 18, 19, 20, 21, 22, 23, 24, 25, 1042, 1043, 1044, 1045, 1100001, 1100002, 1100005, 1100003, 1100004, 1100018, 1100019, 1100016] g5)) ⟨hr9, (by rw [← eS]; exact ok6), hin14⟩
  have hb : sv_T sm_XS sm_cs sm_L sm_sh (30 * (20 - (S 1023 0)) + 26).toNat (q_expression p1 S) 43 6 [(0, .ref 0), (1, sv_I p1), (2, sv_I r9)] [] (sv_sts S [1020, 1021, 1022, 1023, 5, 1011, 3, 4, 1007, 1009, 11, 12, 13, 14, 1024, 15, 16, 1031, 1032, 17, 18, 19, 20, 21, 22, 23, 24, 25, 1042, 1043, 1044, 1045, 1100001, 1100002, 1100005, 1100003, 1100004, 1100018, 1100019, 1100016] g5) := Eq.mpr (congrArg (fun Z => sv_T sm_XS sm_cs sm_L sm_sh (30 * (20 - (S 1023 0)) + 26).toNat (q_expression p1 S) 43 6 [(0, .ref 0), (1, sv_I p1), (2, sv_I r9)] [] Z) eS) hb
  exact hb
theorem la_opened_0 {x0 x1 : Int} (h0 : 0 ≤ x0) (h1 : x0 < x1) (h2 : x1 ≤ 4001) : 0 ≤ x0 ∧ x0 ≤ 4000 := by omega
theorem la_opened_1 {x0 : Int} (h0 : x0 ≤ 20) : 2 + 1 ≤ 30 * (20 - x0) + 14 := by omega
theorem la_opened_2 {x0 : Int} (h0 : x0 = 0 ∨ x0 = 1) : 0 ≤ x0 := by omega
theorem la_opened_3 {x0 : Int} (h0 : x0 = 0 ∨ x0 = 1) : x0 ≤ 1 := by omega
theorem la_opened_4 {x0 x1 x2 x3 : Int} (h0 : 0 ≤ x0) (h1 : x0 < x1) (h2 : x1 ≤ 4001) (h3 : 0 ≤ x2) (h4 : 0 ≤ x3) (h5 : x3 ≤ 20) : 0 ≤ x0 ∧ x0 ≤ 4000 ∧ 0 ≤ x2 ∧ (x2 = 0 → 0 ≤ x3 ∧ x3 ≤ 20) := by omega
theorem la_opened_5 {x0 : Int} (h0 : x0 ≤ 20) : 1 + 1 ≤ 30 * (20 - x0) + 14 := by omega
theorem la_opened_6 {x0 : Int} (h0 : x0 = 0) : ¬ 0 < x0 := by omega
theorem la_opened_7 {x0 : Int} (h0 : 0 ≤ x0) (h1 : x0 ≤ 1) : 0 ≤ x0 ∧ x0 ≤ 1 := by omega
theorem la_opened_8 {x0 : Int} (h0 : x0 = 1) : ¬ x0 = 0 := by omega
theorem la_opened_9 {x0 x1 : Int} (h0 : 0 ≤ x0) (h1 : x1 = x0 + 1) : 0 ≤ x1 := by omega
theorem la_opened_10 {x0 x1 : Int} (h0 : x0 = x1 + 1) (h1 : x1 < 20) : x0 ≤ 20 := by omega
theorem la_opened_11 {x0 x1 x2 : Int} (h0 : x0 ≤ 3 * x1 + 5) (h1 : x2 = x1 + 1) : x0 ≤ 3 * x2 + 5 := by omega
theorem la_opened_12 {x0 x1 x2 : Int} (h0 : x0 ≤ x1) (h1 : x2 = x1 + 1) : x0 ≤ x2 := by omega
theorem la_opened_13 {x0 : Int} (h0 : 0 < x0) : ¬ x0 = 0 := by omega
theorem la_opened_14 {x0 : Int} (h0 : x0 = 12) : 0 ≤ x0 := by omega
theorem la_opened_15 {x0 : Int} (h0 : 0 ≤ x0) (h1 : ¬ 0 < x0) : x0 = 0 := by omega
theorem la_opened_16 {x0 x1 x2 : Int} (h0 : x0 = 30 * (20 - x1) + 25) (h1 : x1 = x2 + 1) (h2 : x2 < 20) : 0 ≤ x0 := by omega
theorem la_opened_17 {x0 x1 x2 : Int} (h0 : x0 ≤ 20) (h1 : 30 * (20 - x0) + 14 = x1) (h2 : x2 = 12) : x2 < x1 := by omega
theorem la_opened_18 {x0 x1 x2 x3 : Int} (h0 : 30 * (20 - x0) + 14 = x1) (h1 : x2 = 30 * (20 - x3) + 25) (h2 : x3 = x0 + 1) : x2 < x1 := by omega
theorem la_opened_19 {x0 x1 : Int} (h0 : x0 ≤ 20) (h1 : x1 = 12) : x1 + 1 ≤ 30 * (20 - x0) + 14 := by omega
theorem la_opened_20 {x0 x1 x2 : Int} (h0 : x0 = 30 * (20 - x1) + 25) (h1 : x1 = x2 + 1) : x0 + 1 ≤ 30 * (20 - x2) + 14 := by omega
theorem la_opened_21 {x0 : Int} (h0 : x0 ≤ 20) : 0 + 1 ≤ 30 * (20 - x0) + 14 := by omega
theorem la_opened_22 {x0 x1 : Int} (h0 : x0 = 0) : 0 < x0 → 0 < x1 := by omega
theorem la_opened_23 {x0 x1 x2 x3 x4 x5 x6 x7 x8 x9 x10 x11 : Int} (h0 : 0 ≤ x0) (h1 : 0 ≤ x1) (h2 : x1 = 0 → x2 = 0 ∧ x3 = x0 + 1 ∧ x0 < 20 ∧ x4 = 1) (h3 : 0 ≤ x5) (h4 : 0 < x1 → 0 < x5) (h5 : x5 = 0 → x6 = x3 ∧ x7 + 1 ≤ x8 + 2 * (x9 - x10)) (h6 : sv_R (x6 - 1) → x11 = x6 - 1) : x5 = 0 → x11 = x0 ∧ x7 + 1 ≤ x8 + 2 * (x9 - x10) := by omega
theorem la_opened_24 {x0 x1 x2 x3 x4 : Int} (h0 : x0 ≤ 20) (h1 : x1 ≤ x2) (h2 : x3 = x4) : x3 ≤ x4 + 2 * (x2 - x1) + 2 * (30 * (20 - x0) + 14) := by omega
theorem la_opened_25 {x0 x1 x2 x3 x4 x5 x6 : Int} (h0 : x0 ≤ x1 + 2 * (x2 - x3) + 2 * x4) (h1 : x4 = 30 * (20 - x5) + 25) (h2 : x5 = x6 + 1) : x0 ≤ x1 + 2 * (x2 - x3) + 2 * (30 * (20 - x6) + 14) := by omega
theorem la_opened_26 {x0 x1 x2 : Int} (h0 : 0 ≤ x0) (h1 : x1 = x2) (h2 : x2 = x0 + 1) (h3 : x0 < 20) : sv_R (x1 - 1) := by omega
theorem la_opened_27 {x0 x1 : Int} (h0 : x0 = x1 + 1) : 17 * (20 - x0) + 17 ≤ 17 * (20 - x1) := by omega
theorem la_opened_28 {x0 x1 : Int} (h0 : x0 = x1 + 1) : 20 - x0 ≤ 19 - x1 := by omega
set_option maxHeartbeats 8000000 in
theorem f_opened : ∀ (d : Int) (p1 : Int) (S : sv_S), sm_ok S → (0 ≤ p1 ∧ p1 ≤ 1) → (0 ≤ (S 1020 0) ∧ (S 1020 0) < (S 1012 0) ∧ sm_TK (S 6) (S 8) (S 9) (S 10) (S 1012 0) ∧ 0 ≤ (S 1021 0) ∧ 0 ≤ (S 1004 0) ∧ (S 1004 0) ≤ 4000 ∧ 1 ≤ (S 1007 0) ∧ (S 1007 0) ≤ 90 ∧ sm_LN (S 4) 400 (S 1007 0) ∧ ((S 1021 0) = 0 → sm_WF (S 11) (S 12) (S 13) (S 1100001) (S 1100002) (S 1100005) (S 1100003) (S 1100004) (S 1024 0) (S 1007 0) (S 1009 0) (sm_fn (S 1032 0) (S 21) (S 1043 0)) ∧ sm_FT (S 11) (S 12) (S 13) (S 1100019) (S 17) (S 18) (S 21) (S 19) (S 20) (S 22) (S 1100016) (S 1024 0) (S 1007 0) (S 1009 0) (S 1032 0) (S 1032 0) ∧ sm_WG (S 1100001) (S 1100019) (S 1043 0) ∧ (S 1100016 (S 1043 0)) = 0) ∧ sm_HD (S 23) (S 24) (S 1100018 0) (S 1007 0) ∧ sm_HD (S 25) (fun _ : Int => (S 1042 0)) 1 (S 1007 0) ∧ 0 ≤ (S 1043 0) ∧ (S 1043 0) < (S 1100018 0) ∧ (S 1100018 0) = (S 1032 0) ∧ (S 1032 0) ≤ 1 + (S 1020 0) ∧ 0 ≤ (S 1031 0) ∧ (S 1031 0) ≤ 100 ∧ 0 ≤ (S 1044 0) ∧ (S 1044 0) ≤ 30 ∧ 0 ≤ (S 1045 0) ∧ (S 1045 0) ≤ 30 ∧ 0 ≤ (S 1024 0) ∧ ((S 1021 0) = 0 → 0 ≤ (S 1023 0) ∧ (S 1023 0) ≤ 20 ∧ (S 1031 0) ≤ 3 * (S 1023 0) + 5 ∧ (S 1024 0) ≤ 2 * (S 1020 0) ∧ (S 1044 0) ≤ (S 1023 0) ∧ (S 1045 0) ≤ (S 1023 0)) ∧ (S 1021 0) = 0) → (30 * (20 - (S 1023 0)) + 14) = d → (0 ≤ (S 1020 0) ∧ (S 1020 0) ≤ 4000) ∧ (2 + 1 ≤ (30 * (20 - (S 1023 0)) + 14)) ∧ (∀ r7 : Int, sv_R r7 → ((r7 = 0 ∨ r7 = 1) ∧ (r7 = 1 → 1 ≤ (S 6 (S 1020 0)) ∧ (S 6 (S 1020 0)) ≤ 5)) → (0 ≤ r7 ∧ r7 ≤ 1) ∧ (0 ≤ (S 1020 0) ∧ (S 1020 0) ≤ 4000 ∧ 0 ≤ (S 1021 0) ∧ ((S 1021 0) = 0 → 0 ≤ (S 1023 0) ∧ (S 1023 0) ≤ 20)) ∧ (1 + 1 ≤ (30 * (20 - (S 1023 0)) + 14)) ∧ (∀ g11 : sv_S, (0 ≤ (g11 1021 0) ∧ (0 < (S 1021 0) → 0 < (g11 1021 0)) ∧ ((g11 1021 0) = 0 → (S 1021 0) = 0 ∧ (g11 1023 0) = (S 1023 0) + 1 ∧ (S 1023 0) < 20 ∧ r7 = 1)) → (0 ≤ p1 ∧ p1 ≤ 1) ∧ (0 ≤ (S 1020 0) ∧ (S 1020 0) < (S 1012 0) ∧ sm_TK (S 6) (S 8) (S 9) (S 10) (S 1012 0) ∧ 0 ≤ (g11 1021 0) ∧ 0 ≤ (S 1004 0) ∧ (S 1004 0) ≤ 4000 ∧ 1 ≤ (S 1007 0) ∧ (S 1007 0) ≤ 90 ∧ sm_LN (S 4) 400 (S 1007 0) ∧ ((g11 1021 0) = 0 → sm_WF (S 11) (S 12) (S 13) (S 1100001) (S 1100002) (S 1100005) (S 1100003) (S 1100004) (S 1024 0) (S 1007 0) (S 1009 0) (sm_fn (S 1032 0) (S 21) (S 1043 0)) ∧ sm_FT (S 11) (S 12) (S 13) (S 1100019) (S 17) (S 18) (S 21) (S 19) (S 20) (S 22) (S 1100016) (S 1024 0) (S 1007 0) (S 1009 0) (S 1032 0) (S 1032 0) ∧ sm_WG (S 1100001) (S 1100019) (S 1043 0) ∧ (S 1100016 (S 1043 0)) = 0) ∧ sm_HD (S 23) (S 24) (S 1100018 0) (S 1007 0) ∧ sm_HD (S 25) (fun _ : Int => (S 1042 0)) 1 (S 1007 0) ∧ 0 ≤ (S 1043 0) ∧ (S 1043 0) < (S 1100018 0) ∧ (S 1100018 0) = (S 1032 0) ∧ (S 1032 0) ≤ 1 + (S 1020 0) ∧ 0 ≤ (S 1031 0) ∧ (S 1031 0) ≤ 100 ∧ 0 ≤ (S 1044 0) ∧ (S 1044 0) ≤ 30 ∧ 0 ≤ (S 1045 0) ∧ (S 1045 0) ≤ 30 ∧ 0 ≤ (S 1024 0) ∧ ((g11 1021 0) = 0 → 0 ≤ (g11 1023 0) ∧ (g11 1023 0) ≤ 20 ∧ (S 1031 0) ≤ 3 * (g11 1023 0) + 5 ∧ (S 1024 0) ≤ 2 * (S 1020 0) ∧ (S 1044 0) ≤ (g11 1023 0) ∧ (S 1045 0) ≤ (g11 1023 0))) ∧ (0 ≤ ((if 0 < (g11 1021 0) then 12 else 30 * (20 - (g11 1023 0)) + 25)) ∧ ((if 0 < (g11 1021 0) then 12 else 30 * (20 - (g11 1023 0)) + 25)) < d) ∧ (0 ≤ ((if 0 < (g11 1021 0) then 12 else 30 * (20 - (g11 1023 0)) + 25)) ∧ ((if 0 < (g11 1021 0) then 12 else 30 * (20 - (g11 1023 0)) + 25)) + 1 ≤ (30 * (20 - (S 1023 0)) + 14)) ∧ (∀ r24 : Int, sv_R r24 → ∀ g20 : sv_S, ((S 1020 0) ≤ (g20 1020 0) ∧ (g20 1020 0) < (S 1012 0) ∧ 0 ≤ (g20 1021 0) ∧ (0 < (g11 1021 0) → 0 < (g20 1021 0)) ∧ (S 1007 0) ≤ (g20 1007 0) ∧ (g20 1007 0) ≤ 90 ∧ sm_LN (g20 4) 400 (g20 1007 0) ∧ ((S 1009 0) = 1 → (g20 1009 0) = 1) ∧ ((g20 1021 0) = 0 → sm_WF (g20 11) (g20 12) (g20 13) (g20 1100001) (g20 1100002) (g20 1100005) (g20 1100003) (g20 1100004) (g20 1024 0) (g20 1007 0) (g20 1009 0) (sm_fn (g20 1032 0) (g20 21) (g20 1043 0)) ∧ sm_PX (S 11) (S 12) (S 13) (S 1100001) (S 1100002) (S 1100005) (S 1100003) (S 1100004) (g20 11) (g20 12) (g20 13) (g20 1100001) (g20 1100002) (g20 1100005) (g20 1100003) (g20 1100004) (S 1024 0) ∧ sm_FT (g20 11) (g20 12) (g20 13) (g20 1100019) (g20 17) (g20 18) (g20 21) (g20 19) (g20 20) (g20 22) (g20 1100016) (g20 1024 0) (g20 1007 0) (g20 1009 0) (g20 1032 0) (g20 1032 0) ∧ sm_WG (g20 1100001) (g20 1100019) (g20 1043 0) ∧ sm_F1 (S 1100019) (g20 1100019) (S 1024 0) ∧ sm_F1 (S 17) (g20 17) (S 1032 0) ∧ sm_F1 (S 18) (g20 18) (S 1032 0) ∧ sm_F1 (S 21) (g20 21) (S 1032 0) ∧ sm_F1 (S 20) (g20 20) (S 1032 0) ∧ sm_F1 (S 22) (g20 22) (S 1032 0) ∧ sm_F1 (S 1100016) (g20 1100016) (S 1032 0) ∧ sm_F1 (S 19) (g20 19) (8 * (S 1032 0)) ∧ sm_FN (g20 1100016) (S 1032 0) (g20 1032 0)) ∧ sm_KL (S 15) (S 16) (g20 15) (g20 16) (S 1031 0) ∧ sm_HD (g20 23) (g20 24) (g20 1100018 0) (g20 1007 0) ∧ sm_HD (g20 25) (fun _ : Int => (g20 1042 0)) 1 (g20 1007 0) ∧ (g20 1031 0) = (S 1031 0) ∧ (g20 1043 0) = (S 1043 0) ∧ (g20 1044 0) = (S 1044 0) ∧ (g20 1045 0) = (S 1045 0) ∧ (S 1032 0) ≤ (g20 1032 0) ∧ (g20 1032 0) ≤ 1 + (g20 1020 0) ∧ (g20 1100018 0) = (g20 1032 0) ∧ (S 1024 0) ≤ (g20 1024 0) ∧ ((g20 1021 0) = 0 → (g20 1023 0) = (g11 1023 0) ∧ (g20 1024 0) + 1 ≤ (S 1024 0) + 2 * ((g20 1020 0) - (S 1020 0))) ∧ (0 < (g20 1021 0) → (g20 1024 0) ≤ (S 1024 0) + 2 * ((g20 1020 0) - (S 1020 0)) + 2 * ((if 0 < (g11 1021 0) then 12 else 30 * (20 - (g11 1023 0)) + 25))) ∧ -1 ≤ r24 ∧ r24 < 12000 ∧ ((g20 1021 0) = 0 → (S 1020 0) < (g20 1020 0) ∧ 1 ≤ (S 6 (S 1020 0)) ∧ sm_ex (g20 1100001) (g20 1100002) (g20 1100005) (g20 1024 0) 1 r24 (17 * (20 - (g11 1023 0)) + 17) (20 - (g11 1023 0)) ∧ ((g20 11 r24) = 2 ∨ (g20 11 r24) = 7 → (g20 1100002 r24) ≤ 17 * (20 - (g11 1023 0)) + 2)) ∧ (0 < (g11 1021 0) → (g20 1020 0) = (S 1020 0) ∧ (g20 1024 0) = (S 1024 0))) → (0 + 1 ≤ (30 * (20 - (S 1023 0)) + 14)) ∧ (∀ g27 : sv_S, ((sv_R ((g20 1023 0) - 1) → (g27 1023 0) = (g20 1023 0) - 1)) → ((S 1020 0) ≤ (g20 1020 0) ∧ (g20 1020 0) < (S 1012 0) ∧ 0 ≤ (g20 1021 0) ∧ (0 < (S 1021 0) → 0 < (g20 1021 0)) ∧ (S 1007 0) ≤ (g20 1007 0) ∧ (g20 1007 0) ≤ 90 ∧ sm_LN (g20 4) 400 (g20 1007 0) ∧ ((S 1009 0) = 1 → (g20 1009 0) = 1) ∧ ((g20 1021 0) = 0 → sm_WF (g20 11) (g20 12) (g20 13) (g20 1100001) (g20 1100002) (g20 1100005) (g20 1100003) (g20 1100004) (g20 1024 0) (g20 1007 0) (g20 1009 0) (sm_fn (g20 1032 0) (g20 21) (g20 1043 0)) ∧ sm_PX (S 11) (S 12) (S 13) (S 1100001) (S 1100002) (S 1100005) (S 1100003) (S 1100004) (g20 11) (g20 12) (g20 13) (g20 1100001) (g20 1100002) (g20 1100005) (g20 1100003) (g20 1100004) (S 1024 0) ∧ sm_FT (g20 11) (g20 12) (g20 13) (g20 1100019) (g20 17) (g20 18) (g20 21) (g20 19) (g20 20) (g20 22) (g20 1100016) (g20 1024 0) (g20 1007 0) (g20 1009 0) (g20 1032 0) (g20 1032 0) ∧ sm_WG (g20 1100001) (g20 1100019) (g20 1043 0) ∧ sm_F1 (S 1100019) (g20 1100019) (S 1024 0) ∧ sm_F1 (S 17) (g20 17) (S 1032 0) ∧ sm_F1 (S 18) (g20 18) (S 1032 0) ∧ sm_F1 (S 21) (g20 21) (S 1032 0) ∧ sm_F1 (S 20) (g20 20) (S 1032 0) ∧ sm_F1 (S 22) (g20 22) (S 1032 0) ∧ sm_F1 (S 1100016) (g20 1100016) (S 1032 0) ∧ sm_F1 (S 19) (g20 19) (8 * (S 1032 0)) ∧ sm_FN (g20 1100016) (S 1032 0) (g20 1032 0)) ∧ sm_KL (S 15) (S 16) (g20 15) (g20 16) (S 1031 0) ∧ sm_HD (g20 23) (g20 24) (g20 1100018 0) (g20 1007 0) ∧ sm_HD (g20 25) (fun _ : Int => (g20 1042 0)) 1 (g20 1007 0) ∧ (g20 1031 0) = (S 1031 0) ∧ (g20 1043 0) = (S 1043 0) ∧ (g20 1044 0) = (S 1044 0) ∧ (g20 1045 0) = (S 1045 0) ∧ (S 1032 0) ≤ (g20 1032 0) ∧ (g20 1032 0) ≤ 1 + (g20 1020 0) ∧ (g20 1100018 0) = (g20 1032 0) ∧ (S 1024 0) ≤ (g20 1024 0) ∧ ((g20 1021 0) = 0 → (g27 1023 0) = (S 1023 0) ∧ (g20 1024 0) + 1 ≤ (S 1024 0) + 2 * ((g20 1020 0) - (S 1020 0))) ∧ (0 < (g20 1021 0) → (g20 1024 0) ≤ (S 1024 0) + 2 * ((g20 1020 0) - (S 1020 0)) + 2 * (30 * (20 - (S 1023 0)) + 14)) ∧ -1 ≤ r24 ∧ r24 < 12000 ∧ ((g20 1021 0) = 0 → sm_ex (g20 1100001) (g20 1100002) (g20 1100005) (g20 1024 0) 1 r24 (17 * (20 - (S 1023 0))) (19 - (S 1023 0)) ∧ (S 1020 0) < (g20 1020 0))))))) := by
  intro d
  intro p1
  intro S
  intro h1_
  rintro ⟨h2_, h3_⟩
  rintro ⟨h4_, ⟨h5_, ⟨h6_, ⟨h7_, ⟨h8_, ⟨h9_, ⟨h10_, ⟨h11_, ⟨h12_, ⟨h13_, ⟨h14_, ⟨h15_, ⟨h16_, ⟨h17_, ⟨h18_, ⟨h19_, ⟨h20_, ⟨h21_, ⟨h22_, ⟨h23_, ⟨h24_, ⟨h25_, ⟨h26_, ⟨h27_, h28_⟩⟩⟩⟩⟩⟩⟩⟩⟩⟩⟩⟩⟩⟩⟩⟩⟩⟩⟩⟩⟩⟩⟩⟩
  obtain ⟨h29_, ⟨h30_, ⟨h31_, ⟨h32_, ⟨h33_, h34_⟩⟩⟩⟩⟩ := (h27_ h28_)
  obtain ⟨h35_, ⟨h36_, ⟨h37_, h38_⟩⟩⟩ := (h13_ h28_)
  intro h39_
  refine ⟨(la_opened_0 h4_ h5_ (sm_TK_t h6_).2), ?_⟩
  refine ⟨(la_opened_1 h30_), ?_⟩
  intro r7
  intro h40_
  rintro ⟨h41_, h42_⟩
  refine ⟨?_, ?_⟩
  · skip
    refine ⟨?_, ?_⟩
    · skip
      exact (la_opened_2 h41_)
    exact (la_opened_3 h41_)
  refine ⟨(la_opened_4 h4_ h5_ (sm_TK_t h6_).2 h7_ h29_ h30_), ?_⟩
  refine ⟨(la_opened_5 h30_), ?_⟩
  intro g11
  rintro ⟨h43_, ⟨h44_, h45_⟩⟩
  refine ⟨(la_opened_7 h2_ h3_), ?_⟩
  refine ⟨?_, ?_⟩
  · skip
    refine ⟨h4_, ?_⟩
    refine ⟨h5_, ?_⟩
    refine ⟨h6_, ?_⟩
    refine ⟨h43_, ?_⟩
    refine ⟨h8_, ?_⟩
    refine ⟨h9_, ?_⟩
    refine ⟨h10_, ?_⟩
    refine ⟨h11_, ?_⟩
    refine ⟨h12_, ?_⟩
    refine ⟨?_, ?_⟩
    · skip
      intro h46_
      obtain ⟨h47_, ⟨h48_, ⟨h49_, h50_⟩⟩⟩ := (h45_ h46_)
      have h51_ := (h41_.resolve_left (la_opened_8 h50_))
      obtain ⟨h52_, h53_⟩ := (h42_ h50_)
      refine ⟨h35_, ?_⟩
      refine ⟨h36_, ?_⟩
      refine ⟨h37_, ?_⟩
      exact h38_
    refine ⟨h14_, ?_⟩
    refine ⟨h15_, ?_⟩
    refine ⟨h16_, ?_⟩
    refine ⟨h17_, ?_⟩
    refine ⟨h18_, ?_⟩
    refine ⟨h19_, ?_⟩
    refine ⟨h20_, ?_⟩
    refine ⟨h21_, ?_⟩
    refine ⟨h22_, ?_⟩
    refine ⟨h23_, ?_⟩
    refine ⟨h24_, ?_⟩
    refine ⟨h25_, ?_⟩
    refine ⟨h26_, ?_⟩
    intro h54_
    obtain ⟨h55_, ⟨h56_, ⟨h57_, h58_⟩⟩⟩ := (h45_ h54_)
    have h59_ := (h41_.resolve_left (la_opened_8 h58_))
    obtain ⟨h60_, h61_⟩ := (h42_ h58_)
    refine ⟨(la_opened_9 h29_ h56_), ?_⟩
    refine ⟨(la_opened_10 h56_ h57_), ?_⟩
    refine ⟨(la_opened_11 h31_ h56_), ?_⟩
    refine ⟨h32_, ?_⟩
    refine ⟨(la_opened_12 h33_ h56_), ?_⟩
    exact (la_opened_12 h34_ h56_)
  refine ⟨?_, ?_⟩
  · skip
    refine ⟨?_, ?_⟩
    · skip
      by_cases c62_ : 0 < g11 1021 0
      · skip
        have e63_ : (if 0 < g11 1021 0 then 12 else 30 * (20 - g11 1023 0) + 25 : Int) = 12 := if_pos c62_
        exact (la_opened_14 e63_)
      · skip
        have e64_ : (if 0 < g11 1021 0 then 12 else 30 * (20 - g11 1023 0) + 25 : Int) = 30 * (20 - g11 1023 0) + 25 := if_neg c62_
        obtain ⟨h65_, ⟨h66_, ⟨h67_, h68_⟩⟩⟩ := (h45_ (la_opened_15 h43_ c62_))
        have h69_ := (h41_.resolve_left (la_opened_8 h68_))
        obtain ⟨h70_, h71_⟩ := (h42_ h68_)
        have h72_ := ((sm_TK_go h6_ (S 1020 0) h4_ h5_) h70_)
        have h73_ := (h72_ h71_)
        exact (la_opened_16 e64_ h66_ h67_)
    by_cases c74_ : 0 < g11 1021 0
    · skip
      have e75_ : (if 0 < g11 1021 0 then 12 else 30 * (20 - g11 1023 0) + 25 : Int) = 12 := if_pos c74_
      exact (la_opened_17 h30_ h39_ e75_)
    · skip
      have e76_ : (if 0 < g11 1021 0 then 12 else 30 * (20 - g11 1023 0) + 25 : Int) = 30 * (20 - g11 1023 0) + 25 := if_neg c74_
      obtain ⟨h77_, ⟨h78_, ⟨h79_, h80_⟩⟩⟩ := (h45_ (la_opened_15 h43_ c74_))
      have h81_ := (h41_.resolve_left (la_opened_8 h80_))
      obtain ⟨h82_, h83_⟩ := (h42_ h80_)
      have h84_ := ((sm_TK_go h6_ (S 1020 0) h4_ h5_) h82_)
      have h85_ := (h84_ h83_)
      exact (la_opened_18 h39_ e76_ h78_)
  refine ⟨?_, ?_⟩
  · skip
    refine ⟨?_, ?_⟩
    · skip
      by_cases c86_ : 0 < g11 1021 0
      · skip
        have e87_ : (if 0 < g11 1021 0 then 12 else 30 * (20 - g11 1023 0) + 25 : Int) = 12 := if_pos c86_
        exact (la_opened_14 e87_)
      · skip
        have e88_ : (if 0 < g11 1021 0 then 12 else 30 * (20 - g11 1023 0) + 25 : Int) = 30 * (20 - g11 1023 0) + 25 := if_neg c86_
        obtain ⟨h89_, ⟨h90_, ⟨h91_, h92_⟩⟩⟩ := (h45_ (la_opened_15 h43_ c86_))
        have h93_ := (h41_.resolve_left (la_opened_8 h92_))
        obtain ⟨h94_, h95_⟩ := (h42_ h92_)
        have h96_ := ((sm_TK_go h6_ (S 1020 0) h4_ h5_) h94_)
        have h97_ := (h96_ h95_)
        exact (la_opened_16 e88_ h90_ h91_)
    by_cases c98_ : 0 < g11 1021 0
    · skip
      have e99_ : (if 0 < g11 1021 0 then 12 else 30 * (20 - g11 1023 0) + 25 : Int) = 12 := if_pos c98_
      exact (la_opened_19 h30_ e99_)
    · skip
      have e100_ : (if 0 < g11 1021 0 then 12 else 30 * (20 - g11 1023 0) + 25 : Int) = 30 * (20 - g11 1023 0) + 25 := if_neg c98_
      obtain ⟨h101_, ⟨h102_, ⟨h103_, h104_⟩⟩⟩ := (h45_ (la_opened_15 h43_ c98_))
      have h105_ := (h41_.resolve_left (la_opened_8 h104_))
      obtain ⟨h106_, h107_⟩ := (h42_ h104_)
      have h108_ := ((sm_TK_go h6_ (S 1020 0) h4_ h5_) h106_)
      have h109_ := (h108_ h107_)
      exact (la_opened_20 e100_ h102_)
  intro r24
  intro h110_
  intro g20
  rintro ⟨h111_, ⟨h112_, ⟨h113_, ⟨h114_, ⟨h115_, ⟨h116_, ⟨h117_, ⟨h118_, ⟨h119_, ⟨h120_, ⟨h121_, ⟨h122_, ⟨h123_, ⟨h124_, ⟨h125_, ⟨h126_, ⟨h127_, ⟨h128_, ⟨h129_, ⟨h130_, ⟨h131_, ⟨h132_, ⟨h133_, ⟨h134_, ⟨h135_, h136_⟩⟩⟩⟩⟩⟩⟩⟩⟩⟩⟩⟩⟩⟩⟩⟩⟩⟩⟩⟩⟩⟩⟩⟩⟩
  refine ⟨(la_opened_21 h30_), ?_⟩
  intro g27
  intro h137_
  refine ⟨h111_, ?_⟩
  refine ⟨h112_, ?_⟩
  refine ⟨h113_, ?_⟩
  refine ⟨(la_opened_22 h28_), ?_⟩
  refine ⟨h115_, ?_⟩
  refine ⟨h116_, ?_⟩
  refine ⟨h117_, ?_⟩
  refine ⟨h118_, ?_⟩
  refine ⟨h119_, ?_⟩
  refine ⟨h120_, ?_⟩
  refine ⟨h121_, ?_⟩
  refine ⟨h122_, ?_⟩
  refine ⟨h123_, ?_⟩
  refine ⟨h124_, ?_⟩
  refine ⟨h125_, ?_⟩
  refine ⟨h126_, ?_⟩
  refine ⟨h127_, ?_⟩
  refine ⟨h128_, ?_⟩
  refine ⟨h129_, ?_⟩
  refine ⟨h130_, ?_⟩
  refine ⟨(la_opened_23 h29_ h43_ h45_ h113_ h114_ h131_ h137_), ?_⟩
  refine ⟨?_, ?_⟩
  · skip
    intro h138_
    have h139_ := (h132_ h138_)
    by_cases c140_ : 0 < g11 1021 0
    · skip
      have e141_ : (if 0 < g11 1021 0 then 12 else 30 * (20 - g11 1023 0) + 25 : Int) = 12 := if_pos c140_
      have h142_ := (h114_ c140_)
      obtain ⟨h143_, h144_⟩ := (h136_ c140_)
      exact (la_opened_24 h30_ h111_ h144_)
    · skip
      have e145_ : (if 0 < g11 1021 0 then 12 else 30 * (20 - g11 1023 0) + 25 : Int) = 30 * (20 - g11 1023 0) + 25 := if_neg c140_
      obtain ⟨h146_, ⟨h147_, ⟨h148_, h149_⟩⟩⟩ := (h45_ (la_opened_15 h43_ c140_))
      have h150_ := (h41_.resolve_left (la_opened_8 h149_))
      obtain ⟨h151_, h152_⟩ := (h42_ h149_)
      have h153_ := ((sm_TK_go h6_ (S 1020 0) h4_ h5_) h151_)
      have h154_ := (h153_ h152_)
      exact (la_opened_25 h139_ e145_ h147_)
  refine ⟨h133_, ?_⟩
  refine ⟨h134_, ?_⟩
  intro h155_
  have h156_ : ¬ (0 < g11 1021 0) := fun q_ => (la_opened_6 h155_) (h114_ q_)
  obtain ⟨h157_, h158_⟩ := (h131_ h155_)
  obtain ⟨h159_, ⟨h160_, ⟨h161_, ⟨h162_, ⟨h163_, ⟨h164_, ⟨h165_, ⟨h166_, ⟨h167_, ⟨h168_, ⟨h169_, ⟨h170_, h171_⟩⟩⟩⟩⟩⟩⟩⟩⟩⟩⟩⟩ := (h119_ h155_)
  obtain ⟨h172_, ⟨h173_, ⟨h174_, h175_⟩⟩⟩ := (h135_ h155_)
  have e176_ : (if 0 < g11 1021 0 then 12 else 30 * (20 - g11 1023 0) + 25 : Int) = 30 * (20 - g11 1023 0) + 25 := if_neg h156_
  obtain ⟨h177_, ⟨h178_, ⟨h179_, h180_⟩⟩⟩ := (h45_ (la_opened_15 h43_ h156_))
  have h181_ := (h137_ (la_opened_26 h29_ h157_ h178_ h179_))
  have h182_ := (h41_.resolve_left (la_opened_8 h180_))
  obtain ⟨h183_, h184_⟩ := (h42_ h180_)
  refine ⟨(sm_ex_N (sm_ex_w h174_ (la_opened_27 h178_) (la_opened_28 h178_)) (Int.le_refl _)), ?_⟩
  exact h172_
set_option maxRecDepth 8000 in
set_option maxHeartbeats 2000000 in
theorem s_opened (d : Int) (h0 : 0 ≤ d) (IH : ∀ d' : Int, 0 ≤ d' → d' < d → P_P d') : T_opened d := by
  intro p1 S hok hp1 hpre hd
  have h := f_opened d p1 S hok hp1 hpre hd
  have hM := sm_h46
  show sv_T sm_XS sm_cs sm_L sm_sh (30 * (20 - (S 1023 0)) + 14).toNat (q_opened p1 S) 46 0 [(0, .ref 0), (1, sv_I p1)] [] S
  refine sv_aload_n hM dX12_opened_0 rfl rfl ?_
  refine sv_aload_n hM dX12_opened_1 rfl rfl ?_
  obtain ⟨o1, h⟩ := h
  obtain ⟨o2, h⟩ := h
  refine sv_callV hM dX12_opened_2 sm_iv_439 (by decide) (sm_a0 _) rfl rfl (Nat.le_of_ble_eq_true rfl) sm_h39 (Nat.le_of_ble_eq_true rfl) (Nat.le_of_ble_eq_true rfl) (F' := 2) (sv_Fn (n := 2) o2) rfl (t_beginsExpression  S hok o1) (fun v S1 hq => ?_)
  obtain ⟨r7, rfl, hr7, ok4, md5, hpo6⟩ := hq
  obtain rfl : S = S1 := (funext fun j => md5 j (by intro q; cases q)).symm
  show sv_T sm_XS sm_cs sm_L sm_sh (30 * (20 - (S 1023 0)) + 14).toNat (q_opened p1 S) 46 5 [(0, .ref 0), (1, sv_I p1)] [sv_I r7, .ref 0] S
  have h := h r7 hr7 hpo6
  obtain ⟨o8, h⟩ := h
  obtain ⟨o9, h⟩ := h
  obtain ⟨o10, h⟩ := h
  refine sv_callV hM dX12_opened_5 sm_iv_450 (by decide) (sm_a0 _) rfl rfl (Nat.le_of_ble_eq_true rfl) sm_h28 (Nat.le_of_ble_eq_true rfl) (Nat.le_of_ble_eq_true rfl) (F' := 1) (sv_Fn (n := 1) o10) rfl (t_open r7 S ok4 o8 o9) (fun v S1 hq => ?_)
  obtain ⟨rfl, ok12, md13, hpo14⟩ := hq
  obtain ⟨g11, rfl⟩ : ∃ g, S1 = sv_sts S [1021, 1022, 1023] g := ⟨_, md13.eq⟩
  show sv_T sm_XS sm_cs sm_L sm_sh (30 * (20 - (S 1023 0)) + 14).toNat (q_opened p1 S) 46 8 [(0, .ref 0), (1, sv_I p1)] [] (sv_sts S [1021, 1022, 1023] g11)
  have md15 : sv_mod [1020, 1021, 1022, 1023, 5, 1011, 3, 4, 1007, 1009, 11, 12, 13, 14, 1024, 15, 16, 1031, 1032, 17, 18, 19, 20, 21, 22, 23, 24, 25, 1042, 1043, 1044, 1045, 1100001, 1100002, 1100005, 1100003, 1100004, 1100018, 1100019, 1100016] S (sv_sts S [1021, 1022, 1023] g11) := sv_mod.sts sv_mod.rf (by decide)
  have h := h g11 hpo14
  refine sv_aload_n hM dX12_opened_8 rfl rfl ?_
  refine sv_iload_n hM dX12_opened_9 rfl rfl ?_
  obtain ⟨o16, h⟩ := h
  obtain ⟨o17, h⟩ := h
  obtain ⟨o18, h⟩ := h
  obtain ⟨o19, h⟩ := h
  refine sv_callV hM dX12_opened_10 sm_iv_442 (by decide) (sm_a0 _) rfl rfl (Nat.le_of_ble_eq_true rfl) sm_h47 (Nat.le_of_ble_eq_true rfl) (Nat.le_of_ble_eq_true rfl) (F' := (((if 0 < (g11 1021 0) then 12 else 30 * (20 - (g11 1023 0)) + 25))).toNat) (sv_Fe o19) rfl ((IH ((if 0 < (g11 1021 0) then 12 else 30 * (20 - (g11 1023 0)) + 25)) o18.1 o18.2).2.2.1 p1 (sv_sts S [1021, 1022, 1023] g11) ok12 o16 o17 rfl) (fun v S1 hq => ?_)
  obtain ⟨r24, rfl, hr24, ok21, md22, hpo23⟩ := hq
  obtain ⟨g20, rfl⟩ : ∃ g, S1 = sv_sts (sv_sts S [1021, 1022, 1023] g11) [1020, 1021, 1022, 1023, 5, 1011, 3, 4, 1007, 1009, 11, 12, 13, 14, 1024, 15, 16, 1031, 1032, 17, 18, 19, 20, 21, 22, 23, 24, 25, 1042, 1043, 1044, 1045, 1100001, 1100002, 1100005, 1100003, 1100004, 1100018, 1100019, 1100016] g := ⟨_, md22.eq⟩
  show sv_T sm_XS sm_cs sm_L sm_sh (30 * (20 - (S 1023 0)) + 14).toNat (q_opened p1 S) 46 13 [(0, .ref 0), (1, sv_I p1)] [sv_I r24] (sv_sts (sv_sts S [1021, 1022, 1023] g11) [1020, 1021, 1022, 1023, 5, 1011, 3, 4, 1007, 1009, 11, 12, 13, 14, 1024, 15, 16, 1031, 1032, 17, 18, 19, 20, 21, 22, 23, 24, 25, 1042, 1043, 1044, 1045, 1100001, 1100002, 1100005, 1100003, 1100004, 1100018, 1100019, 1100016] g20)
  have md25 : sv_mod [1020, 1021, 1022, 1023, 5, 1011, 3, 4, 1007, 1009, 11, 12, 13, 14, 1024, 15, 16, 1031, 1032, 17, 18, 19, 20, 21, 22, 23, 24, 25, 1042, 1043, 1044, 1045, 1100001, 1100002, 1100005, 1100003, 1100004, 1100018, 1100019, 1100016] S (sv_sts (sv_sts S [1021, 1022, 1023] g11) [1020, 1021, 1022, 1023, 5, 1011, 3, 4, 1007, 1009, 11, 12, 13, 14, 1024, 15, 16, 1031, 1032, 17, 18, 19, 20, 21, 22, 23, 24, 25, 1042, 1043, 1044, 1045, 1100001, 1100002, 1100005, 1100003, 1100004, 1100018, 1100019, 1100016] g20) := sv_mod.sts md15 (by decide)
  have h := h r24 hr24 g20 hpo23
  refine sv_istore_n hM dX12_opened_13 (by decide) rfl ?_
  show sv_T sm_XS sm_cs sm_L sm_sh (30 * (20 - (S 1023 0)) + 14).toNat (q_opened p1 S) 46 14 [(0, .ref 0), (1, sv_I p1), (2, sv_I r24)] [] (sv_sts (sv_sts S [1021, 1022, 1023] g11) [1020, 1021, 1022, 1023, 5, 1011, 3, 4, 1007, 1009, 11, 12, 13, 14, 1024, 15, 16, 1031, 1032, 17, 18, 19, 20, 21, 22, 23, 24, 25, 1042, 1043, 1044, 1045, 1100001, 1100002, 1100005, 1100003, 1100004, 1100018, 1100019, 1100016] g20)
  refine sv_aload_n hM dX12_opened_14 rfl rfl ?_
  obtain ⟨o26, h⟩ := h
  refine sv_callV hM dX12_opened_15 sm_iv_454 (by decide) (sm_a0 _) rfl rfl (Nat.le_of_ble_eq_true rfl) sm_h29 (Nat.le_of_ble_eq_true rfl) (Nat.le_of_ble_eq_true rfl) (F' := 0) (sv_Fn (n := 0) o26) rfl (t_close  (sv_sts (sv_sts S [1021, 1022, 1023] g11) [1020, 1021, 1022, 1023, 5, 1011, 3, 4, 1007, 1009, 11, 12, 13, 14, 1024, 15, 16, 1031, 1032, 17, 18, 19, 20, 21, 22, 23, 24, 25, 1042, 1043, 1044, 1045, 1100001, 1100002, 1100005, 1100003, 1100004, 1100018, 1100019, 1100016] g20) ok21) (fun v S1 hq => ?_)
  obtain ⟨rfl, ok28, md29, hpo30⟩ := hq
  obtain ⟨g27, rfl⟩ : ∃ g, S1 = sv_sts (sv_sts (sv_sts S [1021, 1022, 1023] g11) [1020, 1021, 1022, 1023, 5, 1011, 3, 4, 1007, 1009, 11, 12, 13, 14, 1024, 15, 16, 1031, 1032, 17, 18, 19, 20, 21, 22, 23, 24, 25, 1042, 1043, 1044, 1045, 1100001, 1100002, 1100005, 1100003, 1100004, 1100018, 1100019, 1100016] g20) [1023] g := ⟨_, md29.eq⟩
  show sv_T sm_XS sm_cs sm_L sm_sh (30 * (20 - (S 1023 0)) + 14).toNat (q_opened p1 S) 46 18 [(0, .ref 0), (1, sv_I p1), (2, sv_I r24)] [] (sv_sts (sv_sts (sv_sts S [1021, 1022, 1023] g11) [1020, 1021, 1022, 1023, 5, 1011, 3, 4, 1007, 1009, 11, 12, 13, 14, 1024, 15, 16, 1031, 1032, 17, 18, 19, 20, 21, 22, 23, 24, 25, 1042, 1043, 1044, 1045, 1100001, 1100002, 1100005, 1100003, 1100004, 1100018, 1100019, 1100016] g20) [1023] g27)
  have md31 : sv_mod [1020, 1021, 1022, 1023, 5, 1011, 3, 4, 1007, 1009, 11, 12, 13, 14, 1024, 15, 16, 1031, 1032, 17, 18, 19, 20, 21, 22, 23, 24, 25, 1042, 1043, 1044, 1045, 1100001, 1100002, 1100005, 1100003, 1100004, 1100018, 1100019, 1100016] S (sv_sts (sv_sts (sv_sts S [1021, 1022, 1023] g11) [1020, 1021, 1022, 1023, 5, 1011, 3, 4, 1007, 1009, 11, 12, 13, 14, 1024, 15, 16, 1031, 1032, 17, 18, 19, 20, 21, 22, 23, 24, 25, 1042, 1043, 1044, 1045, 1100001, 1100002, 1100005, 1100003, 1100004, 1100018, 1100019, 1100016] g20) [1023] g27) := sv_mod.sts md25 (by decide)
  have h := h g27 hpo30
  refine sv_iload_n hM dX12_opened_18 rfl rfl ?_
  exact sv_iret hM dX12_opened_19 rfl rfl ⟨r24, rfl, hr24, ok28, md31, h⟩
theorem la_assigned_0 {x0 : Int} (h0 : 0 ≤ x0) (h1 : x0 ≤ 1) : 0 ≤ x0 ∧ x0 ≤ 1 := by omega
theorem la_assigned_1 {x0 : Int} (h0 : 0 < x0) : ¬ x0 = 0 := by omega
theorem la_assigned_2 {x0 : Int} (h0 : x0 = 11) : 0 ≤ x0 := by omega
theorem la_assigned_3 {x0 : Int} (h0 : 0 ≤ x0) (h1 : ¬ 0 < x0) : x0 = 0 := by omega
theorem la_assigned_4 {x0 x1 : Int} (h0 : x0 = 30 * (20 - x1) + 24) (h1 : x1 ≤ 20) : 0 ≤ x0 := by omega
theorem la_assigned_5 {x0 x1 x2 : Int} (h0 : x0 = x1) (h1 : x0 = 12) (h2 : x2 = 11) : x2 < x1 := by omega
theorem la_assigned_6 {x0 x1 x2 x3 : Int} (h0 : x0 = x1) (h1 : x0 = 30 * (20 - x2) + 25) (h2 : x3 = 30 * (20 - x2) + 24) : x3 < x1 := by omega
theorem la_assigned_7 {x0 x1 : Int} (h0 : x0 = 12) (h1 : x1 = 11) : x1 + 1 ≤ x0 := by omega
theorem la_assigned_8 {x0 x1 x2 : Int} (h0 : x0 = 30 * (20 - x1) + 25) (h1 : x2 = 30 * (20 - x1) + 24) : x2 + 1 ≤ x0 := by omega
theorem la_assigned_9 {x0 : Int} (h0 : x0 ≤ 0) : ¬ 0 < x0 := by omega
theorem la_assigned_10 {x0 : Int} (h0 : 0 ≤ x0) (h1 : x0 ≤ 0) : x0 = 0 := by omega
theorem la_assigned_11 {x0 x1 x2 : Int} (h0 : 0 ≤ x0) (h1 : x1 ≤ 4001) (h2 : x2 < x1) (h3 : x0 < x2) : 0 ≤ x2 ∧ x2 ≤ 4000 := by omega
theorem la_assigned_12 {x0 x1 : Int} (h0 : x0 = 30 * (20 - x1) + 25) (h1 : x1 ≤ 20) : 0 + 1 ≤ x0 := by omega
theorem la_assigned_13 {x0 : Int} (h0 : (-1) ≤ x0) (h1 : ¬ x0 = (-1)) : (-1) < x0 := by omega
theorem la_assigned_14 {x0 : Int} (h0 : x0 < 12000) (h1 : 0 ≤ x0) : (-1) ≤ x0 ∧ x0 < 12000 := by omega
theorem la_assigned_15 {x0 : Int} (h0 : x0 = 1) : 0 ≤ x0 := by omega
theorem la_assigned_16 {x0 : Int} (h0 : 0 ≤ x0) (h1 : ¬ x0 = 0) : 0 < x0 := by omega
theorem la_assigned_17 {x0 x1 x2 : Int} (h0 : 0 ≤ x0) (h1 : x1 ≤ 4001) (h2 : x2 < x1) (h3 : x0 < x2) : sv_R (x2 + 1) := by omega
theorem la_assigned_18 {x0 : Int} (h0 : x0 ≤ 10) : x0 ≤ 99 := by omega
theorem la_assigned_19 {x0 : Int} (h0 : x0 ≤ 99) (h1 : ¬ x0 = 99) : x0 < 99 := by omega
theorem la_assigned_20 {x0 x1 : Int} (h0 : 0 ≤ x0) (h1 : x0 < x1) : 0 ≤ x1 + 1 := by omega
theorem la_assigned_21 {x0 x1 : Int} (h0 : 0 ≤ x0) (h1 : x0 < x1) : 0 ≤ x1 := by omega
theorem la_assigned_22 {x0 : Int} (h0 : x0 = 5) : 1 ≤ x0 := by omega
theorem la_assigned_23 {x0 : Int} (h0 : x0 = 5) : x0 ≤ 5 := by omega
theorem la_assigned_24 {x0 x1 : Int} (h0 : 1 ≤ x0) (h1 : x0 ≤ x1) : 1 ≤ x1 := by omega
theorem la_assigned_25 {x0 x1 x2 x3 : Int} (h0 : x0 < x1) (h1 : x1 = x2) (h2 : x3 = x0) : x3 < x2 := by omega
theorem la_assigned_26 {x0 x1 x2 : Int} (h0 : x0 = 0) (h1 : x1 = x2) (h2 : x2 = x0) : x1 = 0 := by omega
theorem la_assigned_27 {x0 x1 : Int} (h0 : 0 ≤ x0) (h1 : x1 = x0) : 0 ≤ x1 := by omega
theorem la_assigned_28 {x0 x1 x2 x3 x4 x5 : Int} (h0 : x0 < x1) (h1 : x1 = x2) (h2 : x3 = x0) (h3 : x2 ≤ x4) (h4 : x5 = x4) : x3 < x5 := by omega
theorem la_assigned_29 {x0 x1 : Int} (h0 : x0 ≤ 1 + x1) : x0 ≤ 1 + (x1 + 1) := by omega
theorem la_assigned_30 {x0 x1 x2 : Int} (h0 : x0 = x1) (h1 : x2 ≤ 20) (h2 : x1 ≤ 3 * x2 + 5) : x0 ≤ 100 := by omega
theorem la_assigned_31 {x0 x1 x2 : Int} (h0 : x0 = x1) (h1 : x2 ≤ 20) (h2 : x1 ≤ x2) : x0 ≤ 30 := by omega
theorem la_assigned_32 {x0 x1 x2 x3 x4 x5 x6 x7 x8 x9 x10 x11 x12 : Int} (h0 : x0 = x1) (h1 : x2 = x3) (h2 : x4 = x5) (h3 : x6 = x7) (h4 : x8 + 1 ≤ x9 + 2 * (x10 - x11)) (h5 : 0 ≤ x7) (h6 : x7 ≤ 20) (h7 : x1 ≤ 3 * x7 + 5) (h8 : x9 ≤ 2 * x11) (h9 : x3 ≤ x7) (h10 : x5 ≤ x7) : x12 = 0 → 0 ≤ x6 ∧ x6 ≤ 20 ∧ x0 ≤ 3 * x6 + 5 ∧ x8 ≤ 2 * (x10 + 1) ∧ x2 ≤ x6 ∧ x4 ≤ x6 := by omega
theorem la_assigned_33 {x0 x1 x2 x3 : Int} (h0 : x0 = x1) (h1 : x2 = x3) (h2 : x0 = 30 * (20 - x3) + 25) (h3 : x3 ≤ 20) : 0 ≤ 30 * (20 - x2) + 14 ∧ 30 * (20 - x2) + 14 < x1 := by omega
theorem la_assigned_34 {x0 x1 x2 : Int} (h0 : x0 = x1) (h1 : x2 = 30 * (20 - x1) + 25) (h2 : x1 ≤ 20) : 0 ≤ 30 * (20 - x0) + 14 ∧ 30 * (20 - x0) + 14 + 1 ≤ x2 := by omega
theorem la_assigned_35 {x0 x1 x2 : Int} (h0 : 0 ≤ x0) (h1 : x0 < x1) (h2 : x1 ≤ x2) : 0 ≤ x2 := by omega
theorem la_assigned_36 {x0 x1 x2 x3 x4 x5 x6 x7 x8 x9 x10 : Int} (h0 : x0 ≤ 4001) (h1 : x1 = x2) (h2 : x3 + 1 ≤ x4 + 2 * (x5 - x6)) (h3 : 0 ≤ x2) (h4 : x4 ≤ 2 * x6) (h5 : x7 < x0) (h6 : 0 ≤ x8) (h7 : x8 = 0 → x9 = x1 ∧ x10 + 1 ≤ x3 + 2 * (x7 - (x5 + 1))) (h8 : 0 < x8 → x10 ≤ x3 + 2 * (x7 - (x5 + 1)) + 2 * (30 * (20 - x1) + 14)) : x10 < 12000 := by omega
theorem la_assigned_37 {x0 : Int} (h0 : 0 ≤ x0) (h1 : x0 ≤ 20) : sv_R (17 * (20 - x0) + 17) := by omega
theorem la_assigned_38 {x0 : Int} (h0 : 0 ≤ x0) (h1 : x0 ≤ 20) : sv_R (20 - x0) := by omega
theorem la_assigned_39 {x0 x1 x2 : Int} (h0 : x0 < x1) (h1 : x1 + 1 ≤ x2) : x0 ≤ x2 := by omega
theorem la_assigned_40 {x0 x1 : Int} (h0 : ¬ 0 < x0) : 0 < x0 → 0 < x1 := by omega
theorem la_assigned_41 {x0 x1 x2 : Int} (h0 : x0 ≤ x1) (h1 : x1 ≤ x2) : x0 ≤ x2 := by omega
theorem la_assigned_42 {x0 x1 x2 : Int} (h0 : x0 = 1 → x1 = 1) (h1 : x1 = 1 → x2 = 1) : x0 = 1 → x2 = 1 := by omega
theorem la_assigned_43 {x0 : Int} (h0 : x0 = 0) : ¬ 0 < x0 := by omega
theorem la_assigned_44 {x0 x1 x2 : Int} (h0 : x0 = x1) (h1 : 0 ≤ x2) (h2 : x2 < x1) : 0 ≤ x0 := by omega
theorem la_assigned_45 {x0 x1 x2 : Int} (h0 : x0 = x1) (h1 : x2 = x1 + 1) : x0 < x2 := by omega
theorem la_assigned_46 {x0 x1 : Int} (h0 : (-1) < x0) (h1 : x0 ≤ 10) (h2 : x1 = x0) : (-1) ≤ x1 ∧ x1 ≤ 10 := by omega
theorem la_assigned_47 {x0 x1 x2 : Int} (h0 : x0 ≤ x1) (h1 : x2 = x1 + 1) : x0 ≤ x2 := by omega
theorem la_assigned_48 {x0 x1 x2 x3 : Int} (h0 : x0 < x1) (h1 : x1 ≤ x2) (h2 : x3 = x2 + 1) : x0 < x3 := by omega
theorem la_assigned_49 {x0 x1 x2 x3 x4 : Int} (h0 : x0 < x1) (h1 : x1 ≤ x2) (h2 : x3 = x2 + 1) (h3 : x4 = x0) : x4 < x3 := by omega
theorem la_assigned_50 {x0 x1 : Int} (h0 : x0 = x1) : ¬ x0 < x1 := by omega
theorem la_assigned_51 {x0 x1 x2 : Int} (h0 : x0 = x1) (h1 : 0 ≤ x2) (h2 : x2 < x1) : 0 ≤ 5 * x0 + 1 := by omega
theorem la_assigned_52 {x0 x1 x2 x3 : Int} (h0 : x0 < x1) (h1 : x1 ≤ x2) (h2 : x3 = x0) : x3 < x2 := by omega
theorem la_assigned_53 {x0 x1 x2 : Int} (h0 : x0 < x1) (h1 : x1 ≤ x2) : x0 < x2 := by omega
theorem la_assigned_54 {x0 x1 x2 : Int} (h0 : x0 < x1) (h1 : x2 = x0) : x2 < x1 := by omega
theorem la_assigned_55 {x0 x1 : Int} (h0 : x0 = x1) : x1 = x0 := by omega
theorem la_assigned_56 {x0 x1 : Int} (h0 : x0 = x1) : 5 * x1 = 5 * x0 := by omega
theorem la_assigned_57 {x0 x1 : Int} (h0 : x0 = x1) : 5 * x1 + 1 = 5 * x0 + 1 := by omega
theorem la_assigned_58 {x0 x1 : Int} (h0 : x0 = x1) : 5 * x1 + 2 = 5 * x0 + 2 := by omega
theorem la_assigned_59 {x0 x1 : Int} (h0 : x0 = x1) : 5 * x1 + 3 = 5 * x0 + 3 := by omega
theorem la_assigned_60 {x0 x1 : Int} (h0 : x0 = x1) : 5 * x1 + 4 = 5 * x0 + 4 := by omega
theorem la_assigned_61 {x0 x1 : Int} (h0 : x0 = 1) (h1 : x1 = x0) : x1 = 1 := by omega
theorem la_assigned_62 {x0 x1 x2 : Int} (h0 : x0 ≤ 17 * (20 - x1) + 2) (h1 : x2 = x0) : x2 ≤ 17 * (20 - x1) + 17 - 3 := by omega
theorem la_assigned_63 {x0 x1 x2 : Int} (h0 : x0 ≤ 20 - x1) (h1 : x2 = x0) : x2 ≤ 20 - x1 := by omega
theorem la_assigned_64 {x0 x1 x2 x3 x4 : Int} (h0 : x0 < x1) (h1 : x1 ≤ x2) (h2 : x3 = x2) (h3 : x4 = x0) : x4 < x3 := by omega
theorem la_assigned_65 {x0 x1 x2 x3 x4 x5 : Int} (h0 : x0 = 2 ∨ x0 = 7) (h1 : x1 = x2) (h2 : x3 = x4) (h3 : x2 = x5) (h4 : x4 = x0) (h5 : x3 = x1) (h6 : x0 = x5) : x1 = 2 ∨ x1 = 7 := by omega
theorem la_assigned_66 {x0 x1 : Int} (h0 : x0 = x1) : 17 * (20 - x0) ≤ 17 * (20 - x1) + 17 - 3 := by omega
theorem la_assigned_67 {x0 x1 : Int} (h0 : x0 = x1) : 19 - x0 ≤ 20 - x1 - 1 := by omega
theorem la_assigned_68 {x0 x1 : Int} (h0 : x0 = x1 + 1) : x1 ≤ x0 := by omega
theorem la_assigned_69 {x0 : Int} (h0 : x0 ≤ 20) : 0 ≤ 17 * (20 - x0) + 17 := by omega
theorem la_assigned_70 {x0 : Int} (h0 : x0 ≤ 20) : 0 ≤ 20 - x0 := by omega
theorem la_assigned_71 {x0 x1 x2 x3 : Int} (h0 : x0 ≤ x1) (h1 : x1 ≤ x2) (h2 : x3 = x2) : x0 ≤ x3 := by omega
theorem la_assigned_72 {x0 x1 : Int} (h0 : x0 ≤ x1) : 8 * x0 ≤ 8 * x1 := by omega
theorem la_assigned_73 {x0 x1 : Int} (h0 : x0 = x1) : x1 ≤ x0 := by omega
theorem la_assigned_74 {x0 x1 x2 : Int} (h0 : x0 = x1) (h1 : x2 = x0) : x2 = x1 := by omega
theorem la_assigned_75 {x0 x1 x2 x3 : Int} (h0 : x0 ≤ x1) (h1 : x1 ≤ x2) (h2 : x3 = x2 + 1) : x0 ≤ x3 := by omega
theorem la_assigned_76 {x0 x1 x2 x3 x4 x5 x6 x7 x8 x9 x10 : Int} (h0 : x0 = x1) (h1 : x2 + 1 ≤ x3 + 2 * (x4 - x5)) (h2 : 0 ≤ x6) (h3 : x6 = 0 → x7 = x0 ∧ x8 + 1 ≤ x2 + 2 * (x9 - (x4 + 1))) (h4 : x10 = x8 + 1) : x6 = 0 → x7 = x1 ∧ x10 + 1 ≤ x3 + 2 * (x9 - x5) := by omega
theorem la_assigned_77 {x0 x1 x2 x3 x4 x5 x6 x7 x8 x9 x10 x11 : Int} (h0 : x0 = x1) (h1 : x2 + 1 ≤ x3 + 2 * (x4 - x5)) (h2 : x6 = 30 * (20 - x1) + 25) (h3 : x1 ≤ 20) (h4 : x7 = 0 → x8 = x0 ∧ x9 + 1 ≤ x2 + 2 * (x10 - (x4 + 1))) (h5 : 0 < x7 → x9 ≤ x2 + 2 * (x10 - (x4 + 1)) + 2 * (30 * (20 - x0) + 14)) (h6 : x11 = x9 + 1) : 0 < x7 → x11 ≤ x3 + 2 * (x10 - x5) + 2 * x6 := by omega
theorem la_assigned_78 {x0 x1 x2 x3 : Int} (h0 : 0 ≤ x0) (h1 : x0 < x1) (h2 : x1 ≤ x2) (h3 : x3 = x2) : (-1) ≤ x3 := by omega
theorem la_assigned_79 {x0 x1 x2 x3 x4 x5 x6 x7 x8 x9 x10 x11 : Int} (h0 : x0 ≤ 4001) (h1 : x1 = x2) (h2 : x3 + 1 ≤ x4 + 2 * (x5 - x6)) (h3 : 0 ≤ x2) (h4 : x4 ≤ 2 * x6) (h5 : x7 < x0) (h6 : 0 ≤ x8) (h7 : x8 = 0 → x9 = x1 ∧ x10 + 1 ≤ x3 + 2 * (x7 - (x5 + 1))) (h8 : 0 < x8 → x10 ≤ x3 + 2 * (x7 - (x5 + 1)) + 2 * (30 * (20 - x1) + 14)) (h9 : x11 = x10) : x11 < 12000 := by omega
theorem la_assigned_80 {x0 x1 x2 : Int} (h0 : x0 < x1) (h1 : x1 + 1 < x2) : x0 < x2 := by omega
theorem la_assigned_81 : (1 : Int) = 1 := by omega
theorem la_assigned_82 {x0 : Int} : 17 * (20 - x0) + 17 ≤ 17 * (20 - x0) + 17 := by omega
theorem la_assigned_83 {x0 : Int} : 20 - x0 ≤ 20 - x0 := by omega
theorem la_assigned_84 {x0 : Int} (h0 : x0 = 15) : ¬ x0 = 2 := by omega
theorem la_assigned_85 {x0 : Int} : x0 = x0 := by omega
theorem la_assigned_86 {x0 : Int} (h0 : x0 = 15) (h1 : x0 = 7) : False := by omega
theorem la_assigned_87 {x0 : Int} (h0 : ¬ 0 < x0) (h1 : 0 < x0) : False := by omega
theorem la_assigned_88 {x0 : Int} (h0 : ¬ ¬ x0 = 99) : ¬ x0 ≤ 10 := by omega
theorem la_assigned_89 {x0 : Int} (h0 : x0 = (-1)) : (-1) ≤ x0 ∧ x0 ≤ 10 := by omega
theorem la_assigned_90 {x0 x1 x2 x3 x4 x5 : Int} (h0 : x0 = 2 ∨ x0 = 7) (h1 : x1 = x2) (h2 : x3 = x4) (h3 : x2 = x5) (h4 : x4 = x0) (h5 : x0 = x5) (h6 : x3 = x1) : x1 = 2 ∨ x1 = 7 := by omega
theorem la_assigned_91 {x0 : Int} (h0 : ¬ ¬ x0 = 0) : ¬ x0 = 1 := by omega
theorem la_assigned_92 {x0 x1 x2 x3 : Int} (h0 : 0 ≤ x0) (h1 : x1 ≤ 4001) (h2 : x2 < x1) (h3 : 0 ≤ x3) (h4 : x0 < x2) : 0 ≤ x2 ∧ x2 ≤ 4000 ∧ 0 ≤ x3 ∧ (1 : Int) ≤ 3 := by omega
theorem la_assigned_93 {x0 : Int} (h0 : 0 < x0) : 0 ≤ x0 := by omega
theorem la_assigned_94 {x0 x1 x2 x3 x4 x5 x6 : Int} (h0 : x0 = x1) (h1 : 0 < x2) : x2 = 0 → x0 = x1 ∧ x3 + 1 ≤ x4 + 2 * (x5 - x6) := by omega
theorem la_assigned_95 {x0 x1 x2 x3 x4 x5 x6 : Int} (h0 : x0 + 1 ≤ x1 + 2 * (x2 - x3)) (h1 : x4 = 30 * (20 - x5) + 25) (h2 : x5 ≤ 20) : 0 < x6 → x0 ≤ x1 + 2 * (x2 - x3) + 2 * x4 := by omega
theorem la_assigned_96 : ((-1) : Int) ≤ (-1) := by omega
theorem la_assigned_97 : ((-1) : Int) < 12000 := by omega
theorem la_assigned_98 {x0 : Int} (h0 : 0 < x0) (h1 : x0 = 0) : False := by omega
theorem la_assigned_99 {x0 : Int} (h0 : ¬ ¬ x0 = (-1)) : ¬ x0 = 99 := by omega
theorem la_assigned_100 {x0 x1 x2 x3 x4 x5 : Int} (h0 : x0 ≤ 0) : 0 < x0 → x1 ≤ x2 + 2 * (x3 - x4) + 2 * x5 := by omega
theorem la_assigned_101 {x0 : Int} (h0 : ¬ x0 ≤ 0) : ¬ x0 = 0 := by omega
theorem la_assigned_102 {x0 : Int} (h0 : ¬ x0 ≤ 0) : 0 < x0 := by omega
theorem la_assigned_103 {x0 x1 x2 x3 x4 : Int} (h0 : x0 = 12) (h1 : x1 = x2) (h2 : x3 = x4) : x3 ≤ x4 + 2 * (x1 - x2) + 2 * x0 := by omega
theorem la_assigned_104 {x0 x1 x2 x3 x4 x5 x6 : Int} (h0 : x0 ≤ x1 + 2 * (x2 - x3) + 2 * x4) (h1 : x5 = 30 * (20 - x6) + 25) (h2 : x4 = 30 * (20 - x6) + 24) : x0 ≤ x1 + 2 * (x2 - x3) + 2 * x5 := by omega
theorem la_assigned_105 {x0 x1 : Int} (h0 : ¬ x0 ≤ 0) (h1 : x0 = 0) : 0 < x1 := by omega
theorem la_assigned_106 {x0 x1 : Int} (h0 : ¬ x0 ≤ 0) (h1 : x0 = 0) : x1 = 0 := by omega
theorem la_assigned_107 {x0 : Int} (h0 : x0 = 0) (h1 : 0 < x0) : False := by omega
set_option maxHeartbeats 8000000 in
theorem f_assigned : ∀ (d : Int) (p1 : Int) (S : sv_S), sm_ok S → (0 ≤ p1 ∧ p1 ≤ 1) → (0 ≤ (S 1020 0) ∧ (S 1020 0) < (S 1012 0) ∧ sm_TK (S 6) (S 8) (S 9) (S 10) (S 1012 0) ∧ 0 ≤ (S 1021 0) ∧ 0 ≤ (S 1004 0) ∧ (S 1004 0) ≤ 4000 ∧ 1 ≤ (S 1007 0) ∧ (S 1007 0) ≤ 90 ∧ sm_LN (S 4) 400 (S 1007 0) ∧ ((S 1021 0) = 0 → sm_WF (S 11) (S 12) (S 13) (S 1100001) (S 1100002) (S 1100005) (S 1100003) (S 1100004) (S 1024 0) (S 1007 0) (S 1009 0) (sm_fn (S 1032 0) (S 21) (S 1043 0)) ∧ sm_FT (S 11) (S 12) (S 13) (S 1100019) (S 17) (S 18) (S 21) (S 19) (S 20) (S 22) (S 1100016) (S 1024 0) (S 1007 0) (S 1009 0) (S 1032 0) (S 1032 0) ∧ sm_WG (S 1100001) (S 1100019) (S 1043 0) ∧ (S 1100016 (S 1043 0)) = 0) ∧ sm_HD (S 23) (S 24) (S 1100018 0) (S 1007 0) ∧ sm_HD (S 25) (fun _ : Int => (S 1042 0)) 1 (S 1007 0) ∧ 0 ≤ (S 1043 0) ∧ (S 1043 0) < (S 1100018 0) ∧ (S 1100018 0) = (S 1032 0) ∧ (S 1032 0) ≤ 1 + (S 1020 0) ∧ 0 ≤ (S 1031 0) ∧ (S 1031 0) ≤ 100 ∧ 0 ≤ (S 1044 0) ∧ (S 1044 0) ≤ 30 ∧ 0 ≤ (S 1045 0) ∧ (S 1045 0) ≤ 30 ∧ 0 ≤ (S 1024 0) ∧ ((S 1021 0) = 0 → 0 ≤ (S 1023 0) ∧ (S 1023 0) ≤ 20 ∧ (S 1031 0) ≤ 3 * (S 1023 0) + 5 ∧ (S 1024 0) ≤ 2 * (S 1020 0) ∧ (S 1044 0) ≤ (S 1023 0) ∧ (S 1045 0) ≤ (S 1023 0))) → ((if 0 < (S 1021 0) then 12 else 30 * (20 - (S 1023 0)) + 25)) = d → (0 ≤ p1 ∧ p1 ≤ 1) ∧ (0 ≤ (S 1020 0) ∧ (S 1020 0) < (S 1012 0) ∧ sm_TK (S 6) (S 8) (S 9) (S 10) (S 1012 0) ∧ 0 ≤ (S 1021 0) ∧ 0 ≤ (S 1004 0) ∧ (S 1004 0) ≤ 4000 ∧ 1 ≤ (S 1007 0) ∧ (S 1007 0) ≤ 90 ∧ sm_LN (S 4) 400 (S 1007 0) ∧ ((S 1021 0) = 0 → sm_WF (S 11) (S 12) (S 13) (S 1100001) (S 1100002) (S 1100005) (S 1100003) (S 1100004) (S 1024 0) (S 1007 0) (S 1009 0) (sm_fn (S 1032 0) (S 21) (S 1043 0)) ∧ sm_FT (S 11) (S 12) (S 13) (S 1100019) (S 17) (S 18) (S 21) (S 19) (S 20) (S 22) (S 1100016) (S 1024 0) (S 1007 0) (S 1009 0) (S 1032 0) (S 1032 0) ∧ sm_WG (S 1100001) (S 1100019) (S 1043 0) ∧ (S 1100016 (S 1043 0)) = 0) ∧ sm_HD (S 23) (S 24) (S 1100018 0) (S 1007 0) ∧ sm_HD (S 25) (fun _ : Int => (S 1042 0)) 1 (S 1007 0) ∧ 0 ≤ (S 1043 0) ∧ (S 1043 0) < (S 1100018 0) ∧ (S 1100018 0) = (S 1032 0) ∧ (S 1032 0) ≤ 1 + (S 1020 0) ∧ 0 ≤ (S 1031 0) ∧ (S 1031 0) ≤ 100 ∧ 0 ≤ (S 1044 0) ∧ (S 1044 0) ≤ 30 ∧ 0 ≤ (S 1045 0) ∧ (S 1045 0) ≤ 30 ∧ 0 ≤ (S 1024 0) ∧ ((S 1021 0) = 0 → 0 ≤ (S 1023 0) ∧ (S 1023 0) ≤ 20 ∧ (S 1031 0) ≤ 3 * (S 1023 0) + 5 ∧ (S 1024 0) ≤ 2 * (S 1020 0) ∧ (S 1044 0) ≤ (S 1023 0) ∧ (S 1045 0) ≤ (S 1023 0))) ∧ (0 ≤ ((if 0 < (S 1021 0) then 11 else 30 * (20 - (S 1023 0)) + 24)) ∧ ((if 0 < (S 1021 0) then 11 else 30 * (20 - (S 1023 0)) + 24)) < d) ∧ (0 ≤ ((if 0 < (S 1021 0) then 11 else 30 * (20 - (S 1023 0)) + 24)) ∧ ((if 0 < (S 1021 0) then 11 else 30 * (20 - (S 1023 0)) + 24)) + 1 ≤ ((if 0 < (S 1021 0) then 12 else 30 * (20 - (S 1023 0)) + 25))) ∧ (∀ r9 : Int, sv_R r9 → ∀ g5 : sv_S, ((S 1020 0) ≤ (g5 1020 0) ∧ (g5 1020 0) < (S 1012 0) ∧ 0 ≤ (g5 1021 0) ∧ (0 < (S 1021 0) → 0 < (g5 1021 0)) ∧ (S 1007 0) ≤ (g5 1007 0) ∧ (g5 1007 0) ≤ 90 ∧ sm_LN (g5 4) 400 (g5 1007 0) ∧ ((S 1009 0) = 1 → (g5 1009 0) = 1) ∧ ((g5 1021 0) = 0 → sm_WF (g5 11) (g5 12) (g5 13) (g5 1100001) (g5 1100002) (g5 1100005) (g5 1100003) (g5 1100004) (g5 1024 0) (g5 1007 0) (g5 1009 0) (sm_fn (g5 1032 0) (g5 21) (g5 1043 0)) ∧ sm_PX (S 11) (S 12) (S 13) (S 1100001) (S 1100002) (S 1100005) (S 1100003) (S 1100004) (g5 11) (g5 12) (g5 13) (g5 1100001) (g5 1100002) (g5 1100005) (g5 1100003) (g5 1100004) (S 1024 0) ∧ sm_FT (g5 11) (g5 12) (g5 13) (g5 1100019) (g5 17) (g5 18) (g5 21) (g5 19) (g5 20) (g5 22) (g5 1100016) (g5 1024 0) (g5 1007 0) (g5 1009 0) (g5 1032 0) (g5 1032 0) ∧ sm_WG (g5 1100001) (g5 1100019) (g5 1043 0) ∧ sm_F1 (S 1100019) (g5 1100019) (S 1024 0) ∧ sm_F1 (S 17) (g5 17) (S 1032 0) ∧ sm_F1 (S 18) (g5 18) (S 1032 0) ∧ sm_F1 (S 21) (g5 21) (S 1032 0) ∧ sm_F1 (S 20) (g5 20) (S 1032 0) ∧ sm_F1 (S 22) (g5 22) (S 1032 0) ∧ sm_F1 (S 1100016) (g5 1100016) (S 1032 0) ∧ sm_F1 (S 19) (g5 19) (8 * (S 1032 0)) ∧ sm_FN (g5 1100016) (S 1032 0) (g5 1032 0)) ∧ sm_KL (S 15) (S 16) (g5 15) (g5 16) (S 1031 0) ∧ sm_HD (g5 23) (g5 24) (g5 1100018 0) (g5 1007 0) ∧ sm_HD (g5 25) (fun _ : Int => (g5 1042 0)) 1 (g5 1007 0) ∧ (g5 1031 0) = (S 1031 0) ∧ (g5 1043 0) = (S 1043 0) ∧ (g5 1044 0) = (S 1044 0) ∧ (g5 1045 0) = (S 1045 0) ∧ (S 1032 0) ≤ (g5 1032 0) ∧ (g5 1032 0) ≤ 1 + (g5 1020 0) ∧ (g5 1100018 0) = (g5 1032 0) ∧ (S 1024 0) ≤ (g5 1024 0) ∧ ((g5 1021 0) = 0 → (g5 1023 0) = (S 1023 0) ∧ (g5 1024 0) + 1 ≤ (S 1024 0) + 2 * ((g5 1020 0) - (S 1020 0))) ∧ (0 < (g5 1021 0) → (g5 1024 0) ≤ (S 1024 0) + 2 * ((g5 1020 0) - (S 1020 0)) + 2 * ((if 0 < (S 1021 0) then 11 else 30 * (20 - (S 1023 0)) + 24))) ∧ -1 ≤ r9 ∧ r9 < 12000 ∧ ((g5 1021 0) = 0 → (S 1020 0) < (g5 1020 0) ∧ 1 ≤ (S 6 (S 1020 0)) ∧ sm_ex (g5 1100001) (g5 1100002) (g5 1100005) (g5 1024 0) 1 r9 (17 * (20 - (S 1023 0)) + 17) (20 - (S 1023 0)) ∧ ((g5 11 r9) = 2 ∨ (g5 11 r9) = 7 → (g5 1100002 r9) ≤ 17 * (20 - (S 1023 0)) + 2)) ∧ (0 < (S 1021 0) → (g5 1020 0) = (S 1020 0) ∧ (g5 1024 0) = (S 1024 0))) → (sv_R (g5 1021 0) → ((((g5 1021 0) ≤ (0 : Int)) → (0 ≤ (g5 1020 0) ∧ (g5 1020 0) ≤ 4000) ∧ (0 + 1 ≤ ((if 0 < (S 1021 0) then 12 else 30 * (20 - (S 1023 0)) + 25))) ∧ (∀ r18 : Int, sv_R r18 → (-1 ≤ r18 ∧ (r18 ≤ 10 ∨ r18 = 99) ∧ (¬ r18 = -1 → (S 6 (g5 1020 0)) = 5)) → (((¬ r18 = (-1 : Int)) → (-1 ≤ r9 ∧ r9 < 12000) ∧ (∀ r24 : Int, sv_R r24 → ((r24 = 0 ∨ r24 = 1) ∧ (r24 = 1 → 0 ≤ r9 ∧ (g5 14 r9) = 0 ∧ ((g5 11 r9) = 2 ∨ (g5 11 r9) = 7))) → (((¬ r24 = (0 : Int)) → (sv_R (g5 1020 0) → (sv_R ((g5 1020 0) + (1 : Int))) ∧ (((¬ r18 = (99 : Int)) → (0 ≤ ((g5 1020 0) + (1 : Int)) ∧ ((g5 1020 0) + (1 : Int)) < (S 1012 0) ∧ sm_TK (S 6) (S 8) (S 9) (S 10) (S 1012 0) ∧ 0 ≤ (g5 1021 0) ∧ 0 ≤ (S 1004 0) ∧ (S 1004 0) ≤ 4000 ∧ 1 ≤ (g5 1007 0) ∧ (g5 1007 0) ≤ 90 ∧ sm_LN (g5 4) 400 (g5 1007 0) ∧ ((g5 1021 0) = 0 → sm_WF (g5 11) (g5 12) (g5 13) (g5 1100001) (g5 1100002) (g5 1100005) (g5 1100003) (g5 1100004) (g5 1024 0) (g5 1007 0) (g5 1009 0) (sm_fn (g5 1032 0) (g5 21) (g5 1043 0)) ∧ sm_FT (g5 11) (g5 12) (g5 13) (g5 1100019) (g5 17) (g5 18) (g5 21) (g5 19) (g5 20) (g5 22) (g5 1100016) (g5 1024 0) (g5 1007 0) (g5 1009 0) (g5 1032 0) (g5 1032 0) ∧ sm_WG (g5 1100001) (g5 1100019) (g5 1043 0) ∧ (g5 1100016 (g5 1043 0)) = 0) ∧ sm_HD (g5 23) (g5 24) (g5 1100018 0) (g5 1007 0) ∧ sm_HD (g5 25) (fun _ : Int => (g5 1042 0)) 1 (g5 1007 0) ∧ 0 ≤ (g5 1043 0) ∧ (g5 1043 0) < (g5 1100018 0) ∧ (g5 1100018 0) = (g5 1032 0) ∧ (g5 1032 0) ≤ 1 + ((g5 1020 0) + (1 : Int)) ∧ 0 ≤ (g5 1031 0) ∧ (g5 1031 0) ≤ 100 ∧ 0 ≤ (g5 1044 0) ∧ (g5 1044 0) ≤ 30 ∧ 0 ≤ (g5 1045 0) ∧ (g5 1045 0) ≤ 30 ∧ 0 ≤ (g5 1024 0) ∧ ((g5 1021 0) = 0 → 0 ≤ (g5 1023 0) ∧ (g5 1023 0) ≤ 20 ∧ (g5 1031 0) ≤ 3 * (g5 1023 0) + 5 ∧ (g5 1024 0) ≤ 2 * ((g5 1020 0) + (1 : Int)) ∧ (g5 1044 0) ≤ (g5 1023 0) ∧ (g5 1045 0) ≤ (g5 1023 0)) ∧ (g5 1021 0) = 0) ∧ (0 ≤ (30 * (20 - (g5 1023 0)) + 14) ∧ (30 * (20 - (g5 1023 0)) + 14) < d) ∧ (0 ≤ (30 * (20 - (g5 1023 0)) + 14) ∧ (30 * (20 - (g5 1023 0)) + 14) + 1 ≤ ((if 0 < (S 1021 0) then 12 else 30 * (20 - (S 1023 0)) + 25))) ∧ (∀ r36 : Int, sv_R r36 → ∀ g32 : sv_S, (((g5 1020 0) + (1 : Int)) ≤ (g32 1020 0) ∧ (g32 1020 0) < (S 1012 0) ∧ 0 ≤ (g32 1021 0) ∧ (0 < (g5 1021 0) → 0 < (g32 1021 0)) ∧ (g5 1007 0) ≤ (g32 1007 0) ∧ (g32 1007 0) ≤ 90 ∧ sm_LN (g32 4) 400 (g32 1007 0) ∧ ((g5 1009 0) = 1 → (g32 1009 0) = 1) ∧ ((g32 1021 0) = 0 → sm_WF (g32 11) (g32 12) (g32 13) (g32 1100001) (g32 1100002) (g32 1100005) (g32 1100003) (g32 1100004) (g32 1024 0) (g32 1007 0) (g32 1009 0) (sm_fn (g32 1032 0) (g32 21) (g32 1043 0)) ∧ sm_PX (g5 11) (g5 12) (g5 13) (g5 1100001) (g5 1100002) (g5 1100005) (g5 1100003) (g5 1100004) (g32 11) (g32 12) (g32 13) (g32 1100001) (g32 1100002) (g32 1100005) (g32 1100003) (g32 1100004) (g5 1024 0) ∧ sm_FT (g32 11) (g32 12) (g32 13) (g32 1100019) (g32 17) (g32 18) (g32 21) (g32 19) (g32 20) (g32 22) (g32 1100016) (g32 1024 0) (g32 1007 0) (g32 1009 0) (g32 1032 0) (g32 1032 0) ∧ sm_WG (g32 1100001) (g32 1100019) (g32 1043 0) ∧ sm_F1 (g5 1100019) (g32 1100019) (g5 1024 0) ∧ sm_F1 (g5 17) (g32 17) (g5 1032 0) ∧ sm_F1 (g5 18) (g32 18) (g5 1032 0) ∧ sm_F1 (g5 21) (g32 21) (g5 1032 0) ∧ sm_F1 (g5 20) (g32 20) (g5 1032 0) ∧ sm_F1 (g5 22) (g32 22) (g5 1032 0) ∧ sm_F1 (g5 1100016) (g32 1100016) (g5 1032 0) ∧ sm_F1 (g5 19) (g32 19) (8 * (g5 1032 0)) ∧ sm_FN (g32 1100016) (g5 1032 0) (g32 1032 0)) ∧ sm_KL (g5 15) (g5 16) (g32 15) (g32 16) (g5 1031 0) ∧ sm_HD (g32 23) (g32 24) (g32 1100018 0) (g32 1007 0) ∧ sm_HD (g32 25) (fun _ : Int => (g32 1042 0)) 1 (g32 1007 0) ∧ (g32 1031 0) = (g5 1031 0) ∧ (g32 1043 0) = (g5 1043 0) ∧ (g32 1044 0) = (g5 1044 0) ∧ (g32 1045 0) = (g5 1045 0) ∧ (g5 1032 0) ≤ (g32 1032 0) ∧ (g32 1032 0) ≤ 1 + (g32 1020 0) ∧ (g32 1100018 0) = (g32 1032 0) ∧ (g5 1024 0) ≤ (g32 1024 0) ∧ ((g32 1021 0) = 0 → (g32 1023 0) = (g5 1023 0) ∧ (g32 1024 0) + 1 ≤ (g5 1024 0) + 2 * ((g32 1020 0) - ((g5 1020 0) + (1 : Int)))) ∧ (0 < (g32 1021 0) → (g32 1024 0) ≤ (g5 1024 0) + 2 * ((g32 1020 0) - ((g5 1020 0) + (1 : Int))) + 2 * (30 * (20 - (g5 1023 0)) + 14)) ∧ -1 ≤ r36 ∧ r36 < 12000 ∧ ((g32 1021 0) = 0 → sm_ex (g32 1100001) (g32 1100002) (g32 1100005) (g32 1024 0) 1 r36 (17 * (20 - (g5 1023 0))) (19 - (g5 1023 0)) ∧ ((g5 1020 0) + (1 : Int)) < (g32 1020 0))) → (0 ≤ (g32 1024 0) ∧ (g32 1024 0) < 12000) ∧ (∀ r43 : Int, sv_R r43 → ∀ g39 : sv_S, (r43 = (g32 1024 0) ∧ (g39 1024 0) = (g32 1024 0) + 1 ∧ (g39 11 r43) = (15 : Int) ∧ (g39 12 (5 * r43)) = r18 ∧ (g39 12 (5 * r43 + 1)) = r9 ∧ (g39 12 (5 * r43 + 2)) = r36 ∧ (g39 12 (5 * r43 + 3)) = -1 ∧ (g39 12 (5 * r43 + 4)) = -1 ∧ (g39 13 r43) = -1 ∧ (g39 14 r43) = 0 ∧ (∀ n : Int, n < (g32 1024 0) → (g39 14 n) = (g32 14 n)) ∧ (sm_WF (g32 11) (g32 12) (g32 13) (g32 1100001) (g32 1100002) (g32 1100005) (g32 1100003) (g32 1100004) (g32 1024 0) (g32 1007 0) (g32 1009 0) (sm_fn (g32 1032 0) (g32 21) (g32 1043 0)) → sm_WF (g39 11) (g39 12) (g39 13) (g32 1100001) (g32 1100002) (g32 1100005) (g32 1100003) (g32 1100004) (g39 1024 0) (g32 1007 0) (g32 1009 0) (sm_fn (g32 1032 0) (g32 21) (g32 1043 0)) ∧ (g32 1100001 r43) = 0) ∧ sm_PX (g32 11) (g32 12) (g32 13) (g32 1100001) (g32 1100002) (g32 1100005) (g32 1100003) (g32 1100004) (g39 11) (g39 12) (g39 13) (g32 1100001) (g32 1100002) (g32 1100005) (g32 1100003) (g32 1100004) (g32 1024 0) ∧ (g39 1100019 r43) = (g32 1043 0) ∧ sm_F1 (g32 1100019) (g39 1100019) (g32 1024 0) ∧ (sm_WG (g32 1100001) (g32 1100019) (g32 1043 0) → sm_WG (g32 1100001) (g39 1100019) (g32 1043 0)) ∧ (sm_FT (g32 11) (g32 12) (g32 13) (g32 1100019) (g32 17) (g32 18) (g32 21) (g32 19) (g32 20) (g32 22) (g32 1100016) (g32 1024 0) (g32 1007 0) (g32 1009 0) (g32 1032 0) (g32 1032 0) → sm_FT (g39 11) (g39 12) (g39 13) (g39 1100019) (g32 17) (g32 18) (g32 21) (g32 19) (g32 20) (g32 22) (g32 1100016) (g39 1024 0) (g32 1007 0) (g32 1009 0) (g32 1032 0) (g32 1032 0))) → (sv_R ((17 * (20 - (S 1023 0)) + 17))) ∧ (sv_R ((20 - (S 1023 0)))) ∧ (((g32 1021 0) = 0 → sm_WG (g32 1100001) (g39 1100019) (g32 1043 0) → (g39 1100019 r43) = (g32 1043 0) → sm_WG (fun i' : Int => if i' = r43 then (1 : Int) else (g32 1100001) i') (g39 1100019) (g32 1043 0)) → (((g32 1021 0) = 0 → sm_WF (g39 11) (g39 12) (g39 13) (g32 1100001) (g32 1100002) (g32 1100005) (g32 1100003) (g32 1100004) (g39 1024 0) (g32 1007 0) (g32 1009 0) (sm_fn (g32 1032 0) (g32 21) (g32 1043 0)) → (g32 1100001 r43) = 0 → 0 ≤ r43 → r43 < (g39 1024 0) → (g39 13 r43) = -1 → (g39 11 r43) = 15 → (-1 ≤ (g39 12 (5 * r43)) ∧ (g39 12 (5 * r43)) ≤ 10) → (sm_ex (g32 1100001) (g32 1100002) (g32 1100005) (g39 1024 0) 1 (g39 12 (5 * r43 + 1)) ((17 * (20 - (S 1023 0)) + 17) - 3) (20 - (S 1023 0))) → ((g39 12 (5 * r43 + 1)) < r43) → ((g39 11 (g39 12 (5 * r43 + 1))) = 2 ∨ (g39 11 (g39 12 (5 * r43 + 1))) = 7) → (sm_ex (g32 1100001) (g32 1100002) (g32 1100005) (g39 1024 0) 1 (g39 12 (5 * r43 + 2)) ((17 * (20 - (S 1023 0)) + 17) - 3) ((20 - (S 1023 0)) - 1)) → (0 ≤ (17 * (20 - (S 1023 0)) + 17)) → (0 ≤ (20 - (S 1023 0))) → sm_WF (g39 11) (g39 12) (g39 13) (fun i' : Int => if i' = r43 then (1 : Int) else (g32 1100001) i') (fun i' : Int => if i' = r43 then ((17 * (20 - (S 1023 0)) + 17)) else (g32 1100002) i') (fun i' : Int => if i' = r43 then ((20 - (S 1023 0))) else (g32 1100005) i') (fun i' : Int => if i' = r43 then (0 : Int) else (g32 1100003) i') (fun i' : Int => if i' = r43 then (0 : Int) else (g32 1100004) i') (g39 1024 0) (g32 1007 0) (g32 1009 0) (sm_fn (g32 1032 0) (g32 21) (g32 1043 0))) → ((S 1020 0) ≤ (g32 1020 0) ∧ (g32 1020 0) < (S 1012 0) ∧ 0 ≤ (g32 1021 0) ∧ (0 < (S 1021 0) → 0 < (g32 1021 0)) ∧ (S 1007 0) ≤ (g32 1007 0) ∧ (g32 1007 0) ≤ 90 ∧ sm_LN (g32 4) 400 (g32 1007 0) ∧ ((S 1009 0) = 1 → (g32 1009 0) = 1) ∧ ((g32 1021 0) = 0 → sm_WF (g39 11) (g39 12) (g39 13) (fun i' : Int => if i' = r43 then (1 : Int) else (g32 1100001) i') (fun i' : Int => if i' = r43 then ((17 * (20 - (S 1023 0)) + 17)) else (g32 1100002) i') (fun i' : Int => if i' = r43 then ((20 - (S 1023 0))) else (g32 1100005) i') (fun i' : Int => if i' = r43 then (0 : Int) else (g32 1100003) i') (fun i' : Int => if i' = r43 then (0 : Int) else (g32 1100004) i') (g39 1024 0) (g32 1007 0) (g32 1009 0) (sm_fn (g32 1032 0) (g32 21) (g32 1043 0)) ∧ sm_PX (S 11) (S 12) (S 13) (S 1100001) (S 1100002) (S 1100005) (S 1100003) (S 1100004) (g39 11) (g39 12) (g39 13) (fun i' : Int => if i' = r43 then (1 : Int) else (g32 1100001) i') (fun i' : Int => if i' = r43 then ((17 * (20 - (S 1023 0)) + 17)) else (g32 1100002) i') (fun i' : Int => if i' = r43 then ((20 - (S 1023 0))) else (g32 1100005) i') (fun i' : Int => if i' = r43 then (0 : Int) else (g32 1100003) i') (fun i' : Int => if i' = r43 then (0 : Int) else (g32 1100004) i') (S 1024 0) ∧ sm_FT (g39 11) (g39 12) (g39 13) (g39 1100019) (g32 17) (g32 18) (g32 21) (g32 19) (g32 20) (g32 22) (g32 1100016) (g39 1024 0) (g32 1007 0) (g32 1009 0) (g32 1032 0) (g32 1032 0) ∧ sm_WG (fun i' : Int => if i' = r43 then (1 : Int) else (g32 1100001) i') (g39 1100019) (g32 1043 0) ∧ sm_F1 (S 1100019) (g39 1100019) (S 1024 0) ∧ sm_F1 (S 17) (g32 17) (S 1032 0) ∧ sm_F1 (S 18) (g32 18) (S 1032 0) ∧ sm_F1 (S 21) (g32 21) (S 1032 0) ∧ sm_F1 (S 20) (g32 20) (S 1032 0) ∧ sm_F1 (S 22) (g32 22) (S 1032 0) ∧ sm_F1 (S 1100016) (g32 1100016) (S 1032 0) ∧ sm_F1 (S 19) (g32 19) (8 * (S 1032 0)) ∧ sm_FN (g32 1100016) (S 1032 0) (g32 1032 0)) ∧ sm_KL (S 15) (S 16) (g32 15) (g32 16) (S 1031 0) ∧ sm_HD (g32 23) (g32 24) (g32 1100018 0) (g32 1007 0) ∧ sm_HD (g32 25) (fun _ : Int => (g32 1042 0)) 1 (g32 1007 0) ∧ (g32 1031 0) = (S 1031 0) ∧ (g32 1043 0) = (S 1043 0) ∧ (g32 1044 0) = (S 1044 0) ∧ (g32 1045 0) = (S 1045 0) ∧ (S 1032 0) ≤ (g32 1032 0) ∧ (g32 1032 0) ≤ 1 + (g32 1020 0) ∧ (g32 1100018 0) = (g32 1032 0) ∧ (S 1024 0) ≤ (g39 1024 0) ∧ ((g32 1021 0) = 0 → (g32 1023 0) = (S 1023 0) ∧ (g39 1024 0) + 1 ≤ (S 1024 0) + 2 * ((g32 1020 0) - (S 1020 0))) ∧ (0 < (g32 1021 0) → (g39 1024 0) ≤ (S 1024 0) + 2 * ((g32 1020 0) - (S 1020 0)) + 2 * ((if 0 < (S 1021 0) then 12 else 30 * (20 - (S 1023 0)) + 25))) ∧ -1 ≤ r43 ∧ r43 < 12000 ∧ ((g32 1021 0) = 0 → (S 1020 0) < (g32 1020 0) ∧ 1 ≤ (S 6 (S 1020 0)) ∧ sm_ex (fun i' : Int => if i' = r43 then (1 : Int) else (g32 1100001) i') (fun i' : Int => if i' = r43 then ((17 * (20 - (S 1023 0)) + 17)) else (g32 1100002) i') (fun i' : Int => if i' = r43 then ((20 - (S 1023 0))) else (g32 1100005) i') (g39 1024 0) 1 r43 (17 * (20 - (S 1023 0)) + 17) (20 - (S 1023 0)) ∧ ((g39 11 r43) = 2 ∨ (g39 11 r43) = 7 → (if r43 = r43 then ((17 * (20 - (S 1023 0)) + 17)) else (g32 1100002 r43)) ≤ 17 * (20 - (S 1023 0)) + 2)) ∧ (0 < (S 1021 0) → (g32 1020 0) = (S 1020 0) ∧ (g39 1024 0) = (S 1024 0)))))))) ∧ ((¬ (¬ r18 = (99 : Int))) → (0 ≤ ((g5 1020 0) + (1 : Int)) ∧ ((g5 1020 0) + (1 : Int)) < (S 1012 0) ∧ sm_TK (S 6) (S 8) (S 9) (S 10) (S 1012 0) ∧ 0 ≤ (g5 1021 0) ∧ 0 ≤ (S 1004 0) ∧ (S 1004 0) ≤ 4000 ∧ 1 ≤ (g5 1007 0) ∧ (g5 1007 0) ≤ 90 ∧ sm_LN (g5 4) 400 (g5 1007 0) ∧ ((g5 1021 0) = 0 → sm_WF (g5 11) (g5 12) (g5 13) (g5 1100001) (g5 1100002) (g5 1100005) (g5 1100003) (g5 1100004) (g5 1024 0) (g5 1007 0) (g5 1009 0) (sm_fn (g5 1032 0) (g5 21) (g5 1043 0)) ∧ sm_FT (g5 11) (g5 12) (g5 13) (g5 1100019) (g5 17) (g5 18) (g5 21) (g5 19) (g5 20) (g5 22) (g5 1100016) (g5 1024 0) (g5 1007 0) (g5 1009 0) (g5 1032 0) (g5 1032 0) ∧ sm_WG (g5 1100001) (g5 1100019) (g5 1043 0) ∧ (g5 1100016 (g5 1043 0)) = 0) ∧ sm_HD (g5 23) (g5 24) (g5 1100018 0) (g5 1007 0) ∧ sm_HD (g5 25) (fun _ : Int => (g5 1042 0)) 1 (g5 1007 0) ∧ 0 ≤ (g5 1043 0) ∧ (g5 1043 0) < (g5 1100018 0) ∧ (g5 1100018 0) = (g5 1032 0) ∧ (g5 1032 0) ≤ 1 + ((g5 1020 0) + (1 : Int)) ∧ 0 ≤ (g5 1031 0) ∧ (g5 1031 0) ≤ 100 ∧ 0 ≤ (g5 1044 0) ∧ (g5 1044 0) ≤ 30 ∧ 0 ≤ (g5 1045 0) ∧ (g5 1045 0) ≤ 30 ∧ 0 ≤ (g5 1024 0) ∧ ((g5 1021 0) = 0 → 0 ≤ (g5 1023 0) ∧ (g5 1023 0) ≤ 20 ∧ (g5 1031 0) ≤ 3 * (g5 1023 0) + 5 ∧ (g5 1024 0) ≤ 2 * ((g5 1020 0) + (1 : Int)) ∧ (g5 1044 0) ≤ (g5 1023 0) ∧ (g5 1045 0) ≤ (g5 1023 0)) ∧ (g5 1021 0) = 0) ∧ (0 ≤ (30 * (20 - (g5 1023 0)) + 14) ∧ (30 * (20 - (g5 1023 0)) + 14) < d) ∧ (0 ≤ (30 * (20 - (g5 1023 0)) + 14) ∧ (30 * (20 - (g5 1023 0)) + 14) + 1 ≤ ((if 0 < (S 1021 0) then 12 else 30 * (20 - (S 1023 0)) + 25))) ∧ (∀ r66 : Int, sv_R r66 → ∀ g62 : sv_S, (((g5 1020 0) + (1 : Int)) ≤ (g62 1020 0) ∧ (g62 1020 0) < (S 1012 0) ∧ 0 ≤ (g62 1021 0) ∧ (0 < (g5 1021 0) → 0 < (g62 1021 0)) ∧ (g5 1007 0) ≤ (g62 1007 0) ∧ (g62 1007 0) ≤ 90 ∧ sm_LN (g62 4) 400 (g62 1007 0) ∧ ((g5 1009 0) = 1 → (g62 1009 0) = 1) ∧ ((g62 1021 0) = 0 → sm_WF (g62 11) (g62 12) (g62 13) (g62 1100001) (g62 1100002) (g62 1100005) (g62 1100003) (g62 1100004) (g62 1024 0) (g62 1007 0) (g62 1009 0) (sm_fn (g62 1032 0) (g62 21) (g62 1043 0)) ∧ sm_PX (g5 11) (g5 12) (g5 13) (g5 1100001) (g5 1100002) (g5 1100005) (g5 1100003) (g5 1100004) (g62 11) (g62 12) (g62 13) (g62 1100001) (g62 1100002) (g62 1100005) (g62 1100003) (g62 1100004) (g5 1024 0) ∧ sm_FT (g62 11) (g62 12) (g62 13) (g62 1100019) (g62 17) (g62 18) (g62 21) (g62 19) (g62 20) (g62 22) (g62 1100016) (g62 1024 0) (g62 1007 0) (g62 1009 0) (g62 1032 0) (g62 1032 0) ∧ sm_WG (g62 1100001) (g62 1100019) (g62 1043 0) ∧ sm_F1 (g5 1100019) (g62 1100019) (g5 1024 0) ∧ sm_F1 (g5 17) (g62 17) (g5 1032 0) ∧ sm_F1 (g5 18) (g62 18) (g5 1032 0) ∧ sm_F1 (g5 21) (g62 21) (g5 1032 0) ∧ sm_F1 (g5 20) (g62 20) (g5 1032 0) ∧ sm_F1 (g5 22) (g62 22) (g5 1032 0) ∧ sm_F1 (g5 1100016) (g62 1100016) (g5 1032 0) ∧ sm_F1 (g5 19) (g62 19) (8 * (g5 1032 0)) ∧ sm_FN (g62 1100016) (g5 1032 0) (g62 1032 0)) ∧ sm_KL (g5 15) (g5 16) (g62 15) (g62 16) (g5 1031 0) ∧ sm_HD (g62 23) (g62 24) (g62 1100018 0) (g62 1007 0) ∧ sm_HD (g62 25) (fun _ : Int => (g62 1042 0)) 1 (g62 1007 0) ∧ (g62 1031 0) = (g5 1031 0) ∧ (g62 1043 0) = (g5 1043 0) ∧ (g62 1044 0) = (g5 1044 0) ∧ (g62 1045 0) = (g5 1045 0) ∧ (g5 1032 0) ≤ (g62 1032 0) ∧ (g62 1032 0) ≤ 1 + (g62 1020 0) ∧ (g62 1100018 0) = (g62 1032 0) ∧ (g5 1024 0) ≤ (g62 1024 0) ∧ ((g62 1021 0) = 0 → (g62 1023 0) = (g5 1023 0) ∧ (g62 1024 0) + 1 ≤ (g5 1024 0) + 2 * ((g62 1020 0) - ((g5 1020 0) + (1 : Int)))) ∧ (0 < (g62 1021 0) → (g62 1024 0) ≤ (g5 1024 0) + 2 * ((g62 1020 0) - ((g5 1020 0) + (1 : Int))) + 2 * (30 * (20 - (g5 1023 0)) + 14)) ∧ -1 ≤ r66 ∧ r66 < 12000 ∧ ((g62 1021 0) = 0 → sm_ex (g62 1100001) (g62 1100002) (g62 1100005) (g62 1024 0) 1 r66 (17 * (20 - (g5 1023 0))) (19 - (g5 1023 0)) ∧ ((g5 1020 0) + (1 : Int)) < (g62 1020 0))) → (0 ≤ (g62 1024 0) ∧ (g62 1024 0) < 12000) ∧ (∀ r73 : Int, sv_R r73 → ∀ g69 : sv_S, (r73 = (g62 1024 0) ∧ (g69 1024 0) = (g62 1024 0) + 1 ∧ (g69 11 r73) = (15 : Int) ∧ (g69 12 (5 * r73)) = (-1 : Int) ∧ (g69 12 (5 * r73 + 1)) = r9 ∧ (g69 12 (5 * r73 + 2)) = r66 ∧ (g69 12 (5 * r73 + 3)) = -1 ∧ (g69 12 (5 * r73 + 4)) = -1 ∧ (g69 13 r73) = -1 ∧ (g69 14 r73) = 0 ∧ (∀ n : Int, n < (g62 1024 0) → (g69 14 n) = (g62 14 n)) ∧ (sm_WF (g62 11) (g62 12) (g62 13) (g62 1100001) (g62 1100002) (g62 1100005) (g62 1100003) (g62 1100004) (g62 1024 0) (g62 1007 0) (g62 1009 0) (sm_fn (g62 1032 0) (g62 21) (g62 1043 0)) → sm_WF (g69 11) (g69 12) (g69 13) (g62 1100001) (g62 1100002) (g62 1100005) (g62 1100003) (g62 1100004) (g69 1024 0) (g62 1007 0) (g62 1009 0) (sm_fn (g62 1032 0) (g62 21) (g62 1043 0)) ∧ (g62 1100001 r73) = 0) ∧ sm_PX (g62 11) (g62 12) (g62 13) (g62 1100001) (g62 1100002) (g62 1100005) (g62 1100003) (g62 1100004) (g69 11) (g69 12) (g69 13) (g62 1100001) (g62 1100002) (g62 1100005) (g62 1100003) (g62 1100004) (g62 1024 0) ∧ (g69 1100019 r73) = (g62 1043 0) ∧ sm_F1 (g62 1100019) (g69 1100019) (g62 1024 0) ∧ (sm_WG (g62 1100001) (g62 1100019) (g62 1043 0) → sm_WG (g62 1100001) (g69 1100019) (g62 1043 0)) ∧ (sm_FT (g62 11) (g62 12) (g62 13) (g62 1100019) (g62 17) (g62 18) (g62 21) (g62 19) (g62 20) (g62 22) (g62 1100016) (g62 1024 0) (g62 1007 0) (g62 1009 0) (g62 1032 0) (g62 1032 0) → sm_FT (g69 11) (g69 12) (g69 13) (g69 1100019) (g62 17) (g62 18) (g62 21) (g62 19) (g62 20) (g62 22) (g62 1100016) (g69 1024 0) (g62 1007 0) (g62 1009 0) (g62 1032 0) (g62 1032 0))) → (sv_R ((17 * (20 - (S 1023 0)) + 17))) ∧ (sv_R ((20 - (S 1023 0)))) ∧ (((g62 1021 0) = 0 → sm_WG (g62 1100001) (g69 1100019) (g62 1043 0) → (g69 1100019 r73) = (g62 1043 0) → sm_WG (fun i' : Int => if i' = r73 then (1 : Int) else (g62 1100001) i') (g69 1100019) (g62 1043 0)) → (((g62 1021 0) = 0 → sm_WF (g69 11) (g69 12) (g69 13) (g62 1100001) (g62 1100002) (g62 1100005) (g62 1100003) (g62 1100004) (g69 1024 0) (g62 1007 0) (g62 1009 0) (sm_fn (g62 1032 0) (g62 21) (g62 1043 0)) → (g62 1100001 r73) = 0 → 0 ≤ r73 → r73 < (g69 1024 0) → (g69 13 r73) = -1 → (g69 11 r73) = 15 → (-1 ≤ (g69 12 (5 * r73)) ∧ (g69 12 (5 * r73)) ≤ 10) → (sm_ex (g62 1100001) (g62 1100002) (g62 1100005) (g69 1024 0) 1 (g69 12 (5 * r73 + 1)) ((17 * (20 - (S 1023 0)) + 17) - 3) (20 - (S 1023 0))) → ((g69 12 (5 * r73 + 1)) < r73) → ((g69 11 (g69 12 (5 * r73 + 1))) = 2 ∨ (g69 11 (g69 12 (5 * r73 + 1))) = 7) → (sm_ex (g62 1100001) (g62 1100002) (g62 1100005) (g69 1024 0) 1 (g69 12 (5 * r73 + 2)) ((17 * (20 - (S 1023 0)) + 17) - 3) ((20 - (S 1023 0)) - 1)) → (0 ≤ (17 * (20 - (S 1023 0)) + 17)) → (0 ≤ (20 - (S 1023 0))) → sm_WF (g69 11) (g69 12) (g69 13) (fun i' : Int => if i' = r73 then (1 : Int) else (g62 1100001) i') (fun i' : Int => if i' = r73 then ((17 * (20 - (S 1023 0)) + 17)) else (g62 1100002) i') (fun i' : Int => if i' = r73 then ((20 - (S 1023 0))) else (g62 1100005) i') (fun i' : Int => if i' = r73 then (0 : Int) else (g62 1100003) i') (fun i' : Int => if i' = r73 then (0 : Int) else (g62 1100004) i') (g69 1024 0) (g62 1007 0) (g62 1009 0) (sm_fn (g62 1032 0) (g62 21) (g62 1043 0))) → ((S 1020 0) ≤ (g62 1020 0) ∧ (g62 1020 0) < (S 1012 0) ∧ 0 ≤ (g62 1021 0) ∧ (0 < (S 1021 0) → 0 < (g62 1021 0)) ∧ (S 1007 0) ≤ (g62 1007 0) ∧ (g62 1007 0) ≤ 90 ∧ sm_LN (g62 4) 400 (g62 1007 0) ∧ ((S 1009 0) = 1 → (g62 1009 0) = 1) ∧ ((g62 1021 0) = 0 → sm_WF (g69 11) (g69 12) (g69 13) (fun i' : Int => if i' = r73 then (1 : Int) else (g62 1100001) i') (fun i' : Int => if i' = r73 then ((17 * (20 - (S 1023 0)) + 17)) else (g62 1100002) i') (fun i' : Int => if i' = r73 then ((20 - (S 1023 0))) else (g62 1100005) i') (fun i' : Int => if i' = r73 then (0 : Int) else (g62 1100003) i') (fun i' : Int => if i' = r73 then (0 : Int) else (g62 1100004) i') (g69 1024 0) (g62 1007 0) (g62 1009 0) (sm_fn (g62 1032 0) (g62 21) (g62 1043 0)) ∧ sm_PX (S 11) (S 12) (S 13) (S 1100001) (S 1100002) (S 1100005) (S 1100003) (S 1100004) (g69 11) (g69 12) (g69 13) (fun i' : Int => if i' = r73 then (1 : Int) else (g62 1100001) i') (fun i' : Int => if i' = r73 then ((17 * (20 - (S 1023 0)) + 17)) else (g62 1100002) i') (fun i' : Int => if i' = r73 then ((20 - (S 1023 0))) else (g62 1100005) i') (fun i' : Int => if i' = r73 then (0 : Int) else (g62 1100003) i') (fun i' : Int => if i' = r73 then (0 : Int) else (g62 1100004) i') (S 1024 0) ∧ sm_FT (g69 11) (g69 12) (g69 13) (g69 1100019) (g62 17) (g62 18) (g62 21) (g62 19) (g62 20) (g62 22) (g62 1100016) (g69 1024 0) (g62 1007 0) (g62 1009 0) (g62 1032 0) (g62 1032 0) ∧ sm_WG (fun i' : Int => if i' = r73 then (1 : Int) else (g62 1100001) i') (g69 1100019) (g62 1043 0) ∧ sm_F1 (S 1100019) (g69 1100019) (S 1024 0) ∧ sm_F1 (S 17) (g62 17) (S 1032 0) ∧ sm_F1 (S 18) (g62 18) (S 1032 0) ∧ sm_F1 (S 21) (g62 21) (S 1032 0) ∧ sm_F1 (S 20) (g62 20) (S 1032 0) ∧ sm_F1 (S 22) (g62 22) (S 1032 0) ∧ sm_F1 (S 1100016) (g62 1100016) (S 1032 0) ∧ sm_F1 (S 19) (g62 19) (8 * (S 1032 0)) ∧ sm_FN (g62 1100016) (S 1032 0) (g62 1032 0)) ∧ sm_KL (S 15) (S 16) (g62 15) (g62 16) (S 1031 0) ∧ sm_HD (g62 23) (g62 24) (g62 1100018 0) (g62 1007 0) ∧ sm_HD (g62 25) (fun _ : Int => (g62 1042 0)) 1 (g62 1007 0) ∧ (g62 1031 0) = (S 1031 0) ∧ (g62 1043 0) = (S 1043 0) ∧ (g62 1044 0) = (S 1044 0) ∧ (g62 1045 0) = (S 1045 0) ∧ (S 1032 0) ≤ (g62 1032 0) ∧ (g62 1032 0) ≤ 1 + (g62 1020 0) ∧ (g62 1100018 0) = (g62 1032 0) ∧ (S 1024 0) ≤ (g69 1024 0) ∧ ((g62 1021 0) = 0 → (g62 1023 0) = (S 1023 0) ∧ (g69 1024 0) + 1 ≤ (S 1024 0) + 2 * ((g62 1020 0) - (S 1020 0))) ∧ (0 < (g62 1021 0) → (g69 1024 0) ≤ (S 1024 0) + 2 * ((g62 1020 0) - (S 1020 0)) + 2 * ((if 0 < (S 1021 0) then 12 else 30 * (20 - (S 1023 0)) + 25))) ∧ -1 ≤ r73 ∧ r73 < 12000 ∧ ((g62 1021 0) = 0 → (S 1020 0) < (g62 1020 0) ∧ 1 ≤ (S 6 (S 1020 0)) ∧ sm_ex (fun i' : Int => if i' = r73 then (1 : Int) else (g62 1100001) i') (fun i' : Int => if i' = r73 then ((17 * (20 - (S 1023 0)) + 17)) else (g62 1100002) i') (fun i' : Int => if i' = r73 then ((20 - (S 1023 0))) else (g62 1100005) i') (g69 1024 0) 1 r73 (17 * (20 - (S 1023 0)) + 17) (20 - (S 1023 0)) ∧ ((g69 11 r73) = 2 ∨ (g69 11 r73) = 7 → (if r73 = r73 then ((17 * (20 - (S 1023 0)) + 17)) else (g62 1100002 r73)) ≤ 17 * (20 - (S 1023 0)) + 2)) ∧ (0 < (S 1021 0) → (g62 1020 0) = (S 1020 0) ∧ (g69 1024 0) = (S 1024 0))))))))))) ∧ ((¬ (¬ r24 = (0 : Int))) → (0 ≤ (g5 1020 0) ∧ (g5 1020 0) ≤ 4000 ∧ 0 ≤ (g5 1021 0) ∧ 1 ≤ (3 : Int)) ∧ (∀ r94 : Int, sv_R r94 → ∀ g90 : sv_S, (r94 = 0 ∧ 0 < (g90 1021 0) ∧ (0 < (g5 1021 0) → (g90 1021 0) = (g5 1021 0))) → ((S 1020 0) ≤ (g5 1020 0) ∧ (g5 1020 0) < (S 1012 0) ∧ 0 ≤ (g90 1021 0) ∧ (0 < (S 1021 0) → 0 < (g90 1021 0)) ∧ (S 1007 0) ≤ (g5 1007 0) ∧ (g5 1007 0) ≤ 90 ∧ sm_LN (g5 4) 400 (g5 1007 0) ∧ ((S 1009 0) = 1 → (g5 1009 0) = 1) ∧ ((g90 1021 0) = 0 → sm_WF (g5 11) (g5 12) (g5 13) (g5 1100001) (g5 1100002) (g5 1100005) (g5 1100003) (g5 1100004) (g5 1024 0) (g5 1007 0) (g5 1009 0) (sm_fn (g5 1032 0) (g5 21) (g5 1043 0)) ∧ sm_PX (S 11) (S 12) (S 13) (S 1100001) (S 1100002) (S 1100005) (S 1100003) (S 1100004) (g5 11) (g5 12) (g5 13) (g5 1100001) (g5 1100002) (g5 1100005) (g5 1100003) (g5 1100004) (S 1024 0) ∧ sm_FT (g5 11) (g5 12) (g5 13) (g5 1100019) (g5 17) (g5 18) (g5 21) (g5 19) (g5 20) (g5 22) (g5 1100016) (g5 1024 0) (g5 1007 0) (g5 1009 0) (g5 1032 0) (g5 1032 0) ∧ sm_WG (g5 1100001) (g5 1100019) (g5 1043 0) ∧ sm_F1 (S 1100019) (g5 1100019) (S 1024 0) ∧ sm_F1 (S 17) (g5 17) (S 1032 0) ∧ sm_F1 (S 18) (g5 18) (S 1032 0) ∧ sm_F1 (S 21) (g5 21) (S 1032 0) ∧ sm_F1 (S 20) (g5 20) (S 1032 0) ∧ sm_F1 (S 22) (g5 22) (S 1032 0) ∧ sm_F1 (S 1100016) (g5 1100016) (S 1032 0) ∧ sm_F1 (S 19) (g5 19) (8 * (S 1032 0)) ∧ sm_FN (g5 1100016) (S 1032 0) (g5 1032 0)) ∧ sm_KL (S 15) (S 16) (g5 15) (g5 16) (S 1031 0) ∧ sm_HD (g5 23) (g5 24) (g5 1100018 0) (g5 1007 0) ∧ sm_HD (g5 25) (fun _ : Int => (g5 1042 0)) 1 (g5 1007 0) ∧ (g5 1031 0) = (S 1031 0) ∧ (g5 1043 0) = (S 1043 0) ∧ (g5 1044 0) = (S 1044 0) ∧ (g5 1045 0) = (S 1045 0) ∧ (S 1032 0) ≤ (g5 1032 0) ∧ (g5 1032 0) ≤ 1 + (g5 1020 0) ∧ (g5 1100018 0) = (g5 1032 0) ∧ (S 1024 0) ≤ (g5 1024 0) ∧ ((g90 1021 0) = 0 → (g5 1023 0) = (S 1023 0) ∧ (g5 1024 0) + 1 ≤ (S 1024 0) + 2 * ((g5 1020 0) - (S 1020 0))) ∧ (0 < (g90 1021 0) → (g5 1024 0) ≤ (S 1024 0) + 2 * ((g5 1020 0) - (S 1020 0)) + 2 * ((if 0 < (S 1021 0) then 12 else 30 * (20 - (S 1023 0)) + 25))) ∧ -1 ≤ (-1 : Int) ∧ (-1 : Int) < 12000 ∧ ((g90 1021 0) = 0 → (S 1020 0) < (g5 1020 0) ∧ 1 ≤ (S 6 (S 1020 0)) ∧ sm_ex (g5 1100001) (g5 1100002) (g5 1100005) (g5 1024 0) 1 (-1 : Int) (17 * (20 - (S 1023 0)) + 17) (20 - (S 1023 0)) ∧ ((g5 11 (-1 : Int)) = 2 ∨ (g5 11 (-1 : Int)) = 7 → (g5 1100002 (-1 : Int)) ≤ 17 * (20 - (S 1023 0)) + 2)) ∧ (0 < (S 1021 0) → (g5 1020 0) = (S 1020 0) ∧ (g5 1024 0) = (S 1024 0)))))))) ∧ ((¬ (¬ r18 = (-1 : Int))) → ((S 1020 0) ≤ (g5 1020 0) ∧ (g5 1020 0) < (S 1012 0) ∧ 0 ≤ (g5 1021 0) ∧ (0 < (S 1021 0) → 0 < (g5 1021 0)) ∧ (S 1007 0) ≤ (g5 1007 0) ∧ (g5 1007 0) ≤ 90 ∧ sm_LN (g5 4) 400 (g5 1007 0) ∧ ((S 1009 0) = 1 → (g5 1009 0) = 1) ∧ ((g5 1021 0) = 0 → sm_WF (g5 11) (g5 12) (g5 13) (g5 1100001) (g5 1100002) (g5 1100005) (g5 1100003) (g5 1100004) (g5 1024 0) (g5 1007 0) (g5 1009 0) (sm_fn (g5 1032 0) (g5 21) (g5 1043 0)) ∧ sm_PX (S 11) (S 12) (S 13) (S 1100001) (S 1100002) (S 1100005) (S 1100003) (S 1100004) (g5 11) (g5 12) (g5 13) (g5 1100001) (g5 1100002) (g5 1100005) (g5 1100003) (g5 1100004) (S 1024 0) ∧ sm_FT (g5 11) (g5 12) (g5 13) (g5 1100019) (g5 17) (g5 18) (g5 21) (g5 19) (g5 20) (g5 22) (g5 1100016) (g5 1024 0) (g5 1007 0) (g5 1009 0) (g5 1032 0) (g5 1032 0) ∧ sm_WG (g5 1100001) (g5 1100019) (g5 1043 0) ∧ sm_F1 (S 1100019) (g5 1100019) (S 1024 0) ∧ sm_F1 (S 17) (g5 17) (S 1032 0) ∧ sm_F1 (S 18) (g5 18) (S 1032 0) ∧ sm_F1 (S 21) (g5 21) (S 1032 0) ∧ sm_F1 (S 20) (g5 20) (S 1032 0) ∧ sm_F1 (S 22) (g5 22) (S 1032 0) ∧ sm_F1 (S 1100016) (g5 1100016) (S 1032 0) ∧ sm_F1 (S 19) (g5 19) (8 * (S 1032 0)) ∧ sm_FN (g5 1100016) (S 1032 0) (g5 1032 0)) ∧ sm_KL (S 15) (S 16) (g5 15) (g5 16) (S 1031 0) ∧ sm_HD (g5 23) (g5 24) (g5 1100018 0) (g5 1007 0) ∧ sm_HD (g5 25) (fun _ : Int => (g5 1042 0)) 1 (g5 1007 0) ∧ (g5 1031 0) = (S 1031 0) ∧ (g5 1043 0) = (S 1043 0) ∧ (g5 1044 0) = (S 1044 0) ∧ (g5 1045 0) = (S 1045 0) ∧ (S 1032 0) ≤ (g5 1032 0) ∧ (g5 1032 0) ≤ 1 + (g5 1020 0) ∧ (g5 1100018 0) = (g5 1032 0) ∧ (S 1024 0) ≤ (g5 1024 0) ∧ ((g5 1021 0) = 0 → (g5 1023 0) = (S 1023 0) ∧ (g5 1024 0) + 1 ≤ (S 1024 0) + 2 * ((g5 1020 0) - (S 1020 0))) ∧ (0 < (g5 1021 0) → (g5 1024 0) ≤ (S 1024 0) + 2 * ((g5 1020 0) - (S 1020 0)) + 2 * ((if 0 < (S 1021 0) then 12 else 30 * (20 - (S 1023 0)) + 25))) ∧ -1 ≤ r9 ∧ r9 < 12000 ∧ ((g5 1021 0) = 0 → (S 1020 0) < (g5 1020 0) ∧ 1 ≤ (S 6 (S 1020 0)) ∧ sm_ex (g5 1100001) (g5 1100002) (g5 1100005) (g5 1024 0) 1 r9 (17 * (20 - (S 1023 0)) + 17) (20 - (S 1023 0)) ∧ ((g5 11 r9) = 2 ∨ (g5 11 r9) = 7 → (g5 1100002 r9) ≤ 17 * (20 - (S 1023 0)) + 2)) ∧ (0 < (S 1021 0) → (g5 1020 0) = (S 1020 0) ∧ (g5 1024 0) = (S 1024 0))))))) ∧ ((¬ ((g5 1021 0) ≤ (0 : Int))) → ((S 1020 0) ≤ (g5 1020 0) ∧ (g5 1020 0) < (S 1012 0) ∧ 0 ≤ (g5 1021 0) ∧ (0 < (S 1021 0) → 0 < (g5 1021 0)) ∧ (S 1007 0) ≤ (g5 1007 0) ∧ (g5 1007 0) ≤ 90 ∧ sm_LN (g5 4) 400 (g5 1007 0) ∧ ((S 1009 0) = 1 → (g5 1009 0) = 1) ∧ ((g5 1021 0) = 0 → sm_WF (g5 11) (g5 12) (g5 13) (g5 1100001) (g5 1100002) (g5 1100005) (g5 1100003) (g5 1100004) (g5 1024 0) (g5 1007 0) (g5 1009 0) (sm_fn (g5 1032 0) (g5 21) (g5 1043 0)) ∧ sm_PX (S 11) (S 12) (S 13) (S 1100001) (S 1100002) (S 1100005) (S 1100003) (S 1100004) (g5 11) (g5 12) (g5 13) (g5 1100001) (g5 1100002) (g5 1100005) (g5 1100003) (g5 1100004) (S 1024 0) ∧ sm_FT (g5 11) (g5 12) (g5 13) (g5 1100019) (g5 17) (g5 18) (g5 21) (g5 19) (g5 20) (g5 22) (g5 1100016) (g5 1024 0) (g5 1007 0) (g5 1009 0) (g5 1032 0) (g5 1032 0) ∧ sm_WG (g5 1100001) (g5 1100019) (g5 1043 0) ∧ sm_F1 (S 1100019) (g5 1100019) (S 1024 0) ∧ sm_F1 (S 17) (g5 17) (S 1032 0) ∧ sm_F1 (S 18) (g5 18) (S 1032 0) ∧ sm_F1 (S 21) (g5 21) (S 1032 0) ∧ sm_F1 (S 20) (g5 20) (S 1032 0) ∧ sm_F1 (S 22) (g5 22) (S 1032 0) ∧ sm_F1 (S 1100016) (g5 1100016) (S 1032 0) ∧ sm_F1 (S 19) (g5 19) (8 * (S 1032 0)) ∧ sm_FN (g5 1100016) (S 1032 0) (g5 1032 0)) ∧ sm_KL (S 15) (S 16) (g5 15) (g5 16) (S 1031 0) ∧ sm_HD (g5 23) (g5 24) (g5 1100018 0) (g5 1007 0) ∧ sm_HD (g5 25) (fun _ : Int => (g5 1042 0)) 1 (g5 1007 0) ∧ (g5 1031 0) = (S 1031 0) ∧ (g5 1043 0) = (S 1043 0) ∧ (g5 1044 0) = (S 1044 0) ∧ (g5 1045 0) = (S 1045 0) ∧ (S 1032 0) ≤ (g5 1032 0) ∧ (g5 1032 0) ≤ 1 + (g5 1020 0) ∧ (g5 1100018 0) = (g5 1032 0) ∧ (S 1024 0) ≤ (g5 1024 0) ∧ ((g5 1021 0) = 0 → (g5 1023 0) = (S 1023 0) ∧ (g5 1024 0) + 1 ≤ (S 1024 0) + 2 * ((g5 1020 0) - (S 1020 0))) ∧ (0 < (g5 1021 0) → (g5 1024 0) ≤ (S 1024 0) + 2 * ((g5 1020 0) - (S 1020 0)) + 2 * ((if 0 < (S 1021 0) then 12 else 30 * (20 - (S 1023 0)) + 25))) ∧ -1 ≤ (-1 : Int) ∧ (-1 : Int) < 12000 ∧ ((g5 1021 0) = 0 → (S 1020 0) < (g5 1020 0) ∧ 1 ≤ (S 6 (S 1020 0)) ∧ sm_ex (g5 1100001) (g5 1100002) (g5 1100005) (g5 1024 0) 1 (-1 : Int) (17 * (20 - (S 1023 0)) + 17) (20 - (S 1023 0)) ∧ ((g5 11 (-1 : Int)) = 2 ∨ (g5 11 (-1 : Int)) = 7 → (g5 1100002 (-1 : Int)) ≤ 17 * (20 - (S 1023 0)) + 2)) ∧ (0 < (S 1021 0) → (g5 1020 0) = (S 1020 0) ∧ (g5 1024 0) = (S 1024 0))))))) := by
  intro d
  intro p1
  intro S
  intro h1_
  rintro ⟨h2_, h3_⟩
  rintro ⟨h4_, ⟨h5_, ⟨h6_, ⟨h7_, ⟨h8_, ⟨h9_, ⟨h10_, ⟨h11_, ⟨h12_, ⟨h13_, ⟨h14_, ⟨h15_, ⟨h16_, ⟨h17_, ⟨h18_, ⟨h19_, ⟨h20_, ⟨h21_, ⟨h22_, ⟨h23_, ⟨h24_, ⟨h25_, ⟨h26_, h27_⟩⟩⟩⟩⟩⟩⟩⟩⟩⟩⟩⟩⟩⟩⟩⟩⟩⟩⟩⟩⟩⟩⟩
  intro h28_
  refine ⟨(la_assigned_0 h2_ h3_), ?_⟩
  refine ⟨⟨h4_, ⟨h5_, ⟨h6_, ⟨h7_, ⟨h8_, ⟨h9_, ⟨h10_, ⟨h11_, ⟨h12_, ⟨h13_, ⟨h14_, ⟨h15_, ⟨h16_, ⟨h17_, ⟨h18_, ⟨h19_, ⟨h20_, ⟨h21_, ⟨h22_, ⟨h23_, ⟨h24_, ⟨h25_, ⟨h26_, h27_⟩⟩⟩⟩⟩⟩⟩⟩⟩⟩⟩⟩⟩⟩⟩⟩⟩⟩⟩⟩⟩⟩⟩, ?_⟩
  refine ⟨?_, ?_⟩
  · skip
    refine ⟨?_, ?_⟩
    · skip
      by_cases c29_ : 0 < S 1021 0
      · skip
        have e30_ : (if 0 < S 1021 0 then 12 else 30 * (20 - S 1023 0) + 25 : Int) = 12 := if_pos c29_
        have e31_ : (if 0 < S 1021 0 then 11 else 30 * (20 - S 1023 0) + 24 : Int) = 11 := if_pos c29_
        exact (la_assigned_2 e31_)
      · skip
        have e32_ : (if 0 < S 1021 0 then 12 else 30 * (20 - S 1023 0) + 25 : Int) = 30 * (20 - S 1023 0) + 25 := if_neg c29_
        have e33_ : (if 0 < S 1021 0 then 11 else 30 * (20 - S 1023 0) + 24 : Int) = 30 * (20 - S 1023 0) + 24 := if_neg c29_
        obtain ⟨h34_, ⟨h35_, ⟨h36_, ⟨h37_, ⟨h38_, h39_⟩⟩⟩⟩⟩ := (h27_ (la_assigned_3 h7_ c29_))
        obtain ⟨h40_, ⟨h41_, ⟨h42_, h43_⟩⟩⟩ := (h13_ (la_assigned_3 h7_ c29_))
        exact (la_assigned_4 e33_ h35_)
    by_cases c44_ : 0 < S 1021 0
    · skip
      have e45_ : (if 0 < S 1021 0 then 12 else 30 * (20 - S 1023 0) + 25 : Int) = 12 := if_pos c44_
      have e46_ : (if 0 < S 1021 0 then 11 else 30 * (20 - S 1023 0) + 24 : Int) = 11 := if_pos c44_
      exact (la_assigned_5 h28_ e45_ e46_)
    · skip
      have e47_ : (if 0 < S 1021 0 then 12 else 30 * (20 - S 1023 0) + 25 : Int) = 30 * (20 - S 1023 0) + 25 := if_neg c44_
      have e48_ : (if 0 < S 1021 0 then 11 else 30 * (20 - S 1023 0) + 24 : Int) = 30 * (20 - S 1023 0) + 24 := if_neg c44_
      obtain ⟨h49_, ⟨h50_, ⟨h51_, ⟨h52_, ⟨h53_, h54_⟩⟩⟩⟩⟩ := (h27_ (la_assigned_3 h7_ c44_))
      obtain ⟨h55_, ⟨h56_, ⟨h57_, h58_⟩⟩⟩ := (h13_ (la_assigned_3 h7_ c44_))
      exact (la_assigned_6 h28_ e47_ e48_)
  refine ⟨?_, ?_⟩
  · skip
    refine ⟨?_, ?_⟩
    · skip
      by_cases c59_ : 0 < S 1021 0
      · skip
        have e60_ : (if 0 < S 1021 0 then 12 else 30 * (20 - S 1023 0) + 25 : Int) = 12 := if_pos c59_
        have e61_ : (if 0 < S 1021 0 then 11 else 30 * (20 - S 1023 0) + 24 : Int) = 11 := if_pos c59_
        exact (la_assigned_2 e61_)
      · skip
        have e62_ : (if 0 < S 1021 0 then 12 else 30 * (20 - S 1023 0) + 25 : Int) = 30 * (20 - S 1023 0) + 25 := if_neg c59_
        have e63_ : (if 0 < S 1021 0 then 11 else 30 * (20 - S 1023 0) + 24 : Int) = 30 * (20 - S 1023 0) + 24 := if_neg c59_
        obtain ⟨h64_, ⟨h65_, ⟨h66_, ⟨h67_, ⟨h68_, h69_⟩⟩⟩⟩⟩ := (h27_ (la_assigned_3 h7_ c59_))
        obtain ⟨h70_, ⟨h71_, ⟨h72_, h73_⟩⟩⟩ := (h13_ (la_assigned_3 h7_ c59_))
        exact (la_assigned_4 e63_ h65_)
    by_cases c74_ : 0 < S 1021 0
    · skip
      have e75_ : (if 0 < S 1021 0 then 12 else 30 * (20 - S 1023 0) + 25 : Int) = 12 := if_pos c74_
      have e76_ : (if 0 < S 1021 0 then 11 else 30 * (20 - S 1023 0) + 24 : Int) = 11 := if_pos c74_
      exact (la_assigned_7 e75_ e76_)
    · skip
      have e77_ : (if 0 < S 1021 0 then 12 else 30 * (20 - S 1023 0) + 25 : Int) = 30 * (20 - S 1023 0) + 25 := if_neg c74_
      have e78_ : (if 0 < S 1021 0 then 11 else 30 * (20 - S 1023 0) + 24 : Int) = 30 * (20 - S 1023 0) + 24 := if_neg c74_
      obtain ⟨h79_, ⟨h80_, ⟨h81_, ⟨h82_, ⟨h83_, h84_⟩⟩⟩⟩⟩ := (h27_ (la_assigned_3 h7_ c74_))
      obtain ⟨h85_, ⟨h86_, ⟨h87_, h88_⟩⟩⟩ := (h13_ (la_assigned_3 h7_ c74_))
      exact (la_assigned_8 e77_ e78_)
  intro r9
  intro h89_
  intro g5
  rintro ⟨h90_, ⟨h91_, ⟨h92_, ⟨h93_, ⟨h94_, ⟨h95_, ⟨h96_, ⟨h97_, ⟨h98_, ⟨h99_, ⟨h100_, ⟨h101_, ⟨h102_, ⟨h103_, ⟨h104_, ⟨h105_, ⟨h106_, ⟨h107_, ⟨h108_, ⟨h109_, ⟨h110_, ⟨h111_, ⟨h112_, ⟨h113_, ⟨h114_, h115_⟩⟩⟩⟩⟩⟩⟩⟩⟩⟩⟩⟩⟩⟩⟩⟩⟩⟩⟩⟩⟩⟩⟩⟩⟩
  intro h116_
  refine ⟨?_, ?_⟩
  · skip
    intro h117_
    have h118_ : ¬ (0 < S 1021 0) := fun q_ => (la_assigned_9 h117_) (h93_ q_)
    obtain ⟨h119_, h120_⟩ := (h110_ (la_assigned_10 h92_ h117_))
    obtain ⟨h121_, ⟨h122_, ⟨h123_, h124_⟩⟩⟩ := (h13_ (la_assigned_3 h7_ h118_))
    obtain ⟨h125_, ⟨h126_, ⟨h127_, ⟨h128_, ⟨h129_, ⟨h130_, ⟨h131_, ⟨h132_, ⟨h133_, ⟨h134_, ⟨h135_, ⟨h136_, h137_⟩⟩⟩⟩⟩⟩⟩⟩⟩⟩⟩⟩ := (h98_ (la_assigned_10 h92_ h117_))
    obtain ⟨h138_, ⟨h139_, ⟨h140_, h141_⟩⟩⟩ := (h114_ (la_assigned_10 h92_ h117_))
    have e142_ : (if 0 < S 1021 0 then 12 else 30 * (20 - S 1023 0) + 25 : Int) = 30 * (20 - S 1023 0) + 25 := if_neg h118_
    have e143_ : (if 0 < S 1021 0 then 11 else 30 * (20 - S 1023 0) + 24 : Int) = 30 * (20 - S 1023 0) + 24 := if_neg h118_
    obtain ⟨h144_, ⟨h145_, ⟨h146_, ⟨h147_, ⟨h148_, h149_⟩⟩⟩⟩⟩ := (h27_ (la_assigned_3 h7_ h118_))
    refine ⟨(la_assigned_11 h4_ (sm_TK_t h6_).2 h91_ h138_), ?_⟩
    refine ⟨(la_assigned_12 e142_ h145_), ?_⟩
    intro r18
    intro h150_
    rintro ⟨h151_, ⟨h152_, h153_⟩⟩
    refine ⟨?_, ?_⟩
    · skip
      intro h154_
      have h155_ := (h153_ h154_)
      refine ⟨(la_assigned_14 h113_ (sm_ex_e h140_).1), ?_⟩
      intro r24
      intro h156_
      rintro ⟨h157_, h158_⟩
      refine ⟨?_, ?_⟩
      · skip
        intro h159_
        have h160_ := (h157_.resolve_left h159_)
        obtain ⟨h161_, ⟨h162_, h163_⟩⟩ := (h158_ h160_)
        have h164_ := (h141_ h163_)
        intro h165_
        refine ⟨(la_assigned_17 h4_ (sm_TK_t h6_).2 h91_ h138_), ?_⟩
        refine ⟨?_, ?_⟩
        · skip
          intro h166_
          have h167_ := (h152_.resolve_right h166_)
          refine ⟨?_, ?_⟩
          · skip
            refine ⟨(la_assigned_20 h4_ h138_), ?_⟩
            refine ⟨?_, ?_⟩
            · skip
              have h168_ := ((sm_TK_go h6_ (g5 1020 0) (la_assigned_21 h4_ h138_) h91_) (la_assigned_22 h155_))
              have h169_ := ((sm_TK_go h6_ (S 1020 0) h4_ h5_) h139_)
              have h170_ := (h168_ (la_assigned_23 h155_))
              exact h170_
            refine ⟨h6_, ?_⟩
            refine ⟨h92_, ?_⟩
            refine ⟨h8_, ?_⟩
            refine ⟨h9_, ?_⟩
            refine ⟨(la_assigned_24 h10_ h94_), ?_⟩
            refine ⟨h95_, ?_⟩
            refine ⟨h96_, ?_⟩
            refine ⟨?_, ?_⟩
            · skip
              intro h171_
              refine ⟨h125_, ?_⟩
              refine ⟨h127_, ?_⟩
              refine ⟨h128_, ?_⟩
              have h172_ := ((sm_TK_go h6_ (g5 1020 0) (la_assigned_21 h4_ h138_) h91_) (la_assigned_22 h155_))
              have h173_ := ((sm_TK_go h6_ (S 1020 0) h4_ h5_) h139_)
              have h174_ := (h172_ (la_assigned_23 h155_))
              have e175_ : S 1100016 (g5 1043 0) = S 1100016 (S 1043 0) := congrArg ((S 1100016)) h103_
              exact (la_assigned_26 h124_ (sm_F1_at h135_ (g5 1043 0) (la_assigned_25 h17_ h18_ h103_)) e175_)
            refine ⟨h100_, ?_⟩
            refine ⟨h101_, ?_⟩
            refine ⟨(la_assigned_27 h16_ h103_), ?_⟩
            refine ⟨(la_assigned_28 h17_ h18_ h103_ h106_ h108_), ?_⟩
            refine ⟨h108_, ?_⟩
            refine ⟨(la_assigned_29 h107_), ?_⟩
            refine ⟨(la_assigned_27 h20_ h102_), ?_⟩
            refine ⟨(la_assigned_30 h102_ h145_ h146_), ?_⟩
            refine ⟨(la_assigned_27 h22_ h104_), ?_⟩
            refine ⟨(la_assigned_31 h104_ h145_ h148_), ?_⟩
            refine ⟨(la_assigned_27 h24_ h105_), ?_⟩
            refine ⟨(la_assigned_31 h105_ h145_ h149_), ?_⟩
            refine ⟨(la_assigned_21 (sm_ex_e h140_).1 (sm_ex_e h140_).2.1), ?_⟩
            refine ⟨(la_assigned_32 h102_ h104_ h105_ h119_ h120_ h144_ h145_ h146_ h147_ h148_ h149_), ?_⟩
            exact (la_assigned_10 h92_ h117_)
          refine ⟨(la_assigned_33 h28_ h119_ e142_ h145_), ?_⟩
          refine ⟨(la_assigned_34 h119_ e142_ h145_), ?_⟩
          intro r36
          intro h176_
          intro g32
          rintro ⟨h177_, ⟨h178_, ⟨h179_, ⟨h180_, ⟨h181_, ⟨h182_, ⟨h183_, ⟨h184_, ⟨h185_, ⟨h186_, ⟨h187_, ⟨h188_, ⟨h189_, ⟨h190_, ⟨h191_, ⟨h192_, ⟨h193_, ⟨h194_, ⟨h195_, ⟨h196_, ⟨h197_, ⟨h198_, ⟨h199_, ⟨h200_, h201_⟩⟩⟩⟩⟩⟩⟩⟩⟩⟩⟩⟩⟩⟩⟩⟩⟩⟩⟩⟩⟩⟩⟩⟩
          refine ⟨?_, ?_⟩
          · skip
            refine ⟨(la_assigned_35 (sm_ex_e h140_).1 (sm_ex_e h140_).2.1 h196_), ?_⟩
            have h202_ := ((sm_TK_go h6_ (g5 1020 0) (la_assigned_21 h4_ h138_) h91_) (la_assigned_22 h155_))
            have h203_ := ((sm_TK_go h6_ (S 1020 0) h4_ h5_) h139_)
            have h204_ := (h202_ (la_assigned_23 h155_))
            exact (la_assigned_36 (sm_TK_t h6_).2 h119_ h120_ h144_ h147_ h178_ h179_ h197_ h198_)
          intro r43
          intro h205_
          intro g39
          rintro ⟨h206_, ⟨h207_, ⟨h208_, ⟨h209_, ⟨h210_, ⟨h211_, ⟨h212_, ⟨h213_, ⟨h214_, ⟨h215_, ⟨h216_, ⟨h217_, ⟨h218_, ⟨h219_, ⟨h220_, ⟨h221_, h222_⟩⟩⟩⟩⟩⟩⟩⟩⟩⟩⟩⟩⟩⟩⟩⟩
          refine ⟨(la_assigned_37 h144_ h145_), ?_⟩
          refine ⟨(la_assigned_38 h144_ h145_), ?_⟩
          intro h223_
          intro h224_
          refine ⟨(la_assigned_39 h138_ h177_), ?_⟩
          refine ⟨h178_, ?_⟩
          refine ⟨h179_, ?_⟩
          refine ⟨(la_assigned_40 h118_), ?_⟩
          refine ⟨(la_assigned_41 h94_ h181_), ?_⟩
          refine ⟨h182_, ?_⟩
          refine ⟨h183_, ?_⟩
          refine ⟨(la_assigned_42 h97_ h184_), ?_⟩
          refine ⟨?_, ?_⟩
          · skip
            intro h225_
            obtain ⟨h226_, h227_⟩ := (h197_ h225_)
            obtain ⟨h228_, ⟨h229_, ⟨h230_, ⟨h231_, ⟨h232_, ⟨h233_, ⟨h234_, ⟨h235_, ⟨h236_, ⟨h237_, ⟨h238_, ⟨h239_, h240_⟩⟩⟩⟩⟩⟩⟩⟩⟩⟩⟩⟩ := (h185_ h225_)
            obtain ⟨h241_, h242_⟩ := (h201_ h225_)
            obtain ⟨h243_, h244_⟩ := (h217_ h228_)
            have h245_ := (h221_ h231_)
            have h246_ := (h222_ h230_)
            have h247_ := (h223_ h225_)
            have h248_ := (h224_ h225_)
            have h249_ := (h247_ h245_)
            have h250_ := (h248_ h243_)
            have h251_ := (h249_ h219_)
            have h252_ := (h250_ h244_)
            have h253_ := (h252_ (la_assigned_44 h206_ (sm_ex_e h241_).1 (sm_ex_e h241_).2.1))
            have h254_ := (h253_ (la_assigned_45 h206_ h207_))
            have h255_ := (h254_ h214_)
            have h256_ := (h255_ h208_)
            have h257_ := (h256_ (la_assigned_46 (la_assigned_13 h151_ h154_) h167_ h209_))
            refine ⟨?_, ?_⟩
            · skip
              have h258_ := (h216_ r43)
              have h259_ := ((sm_TK_go h6_ (g5 1020 0) (la_assigned_21 h4_ h138_) h91_) (la_assigned_22 h155_))
              have h260_ := ((sm_TK_go h6_ (S 1020 0) h4_ h5_) h139_)
              have h261_ := (h259_ (la_assigned_23 h155_))
              have h262_ : sm_ex (g32 1100001) (g32 1100002) (g32 1100005) (g39 1024 0) 1 (g39 12 (5 * r43 + 1)) (17 * (20 - S 1023 0) + 17 - 3) (20 - S 1023 0) := by
                have e263_ : g32 11 r9 = g32 11 (g39 12 (5 * r43 + 1)) := congrArg ((g32 11)) (la_assigned_55 h210_)
                have e264_ : g32 1100001 r9 = g32 1100001 (g39 12 (5 * r43 + 1)) := congrArg ((g32 1100001)) (la_assigned_55 h210_)
                have e265_ : g32 1100002 r9 = g32 1100002 (g39 12 (5 * r43 + 1)) := congrArg ((g32 1100002)) (la_assigned_55 h210_)
                have e266_ : g32 1100003 r9 = g32 1100003 (g39 12 (5 * r43 + 1)) := congrArg ((g32 1100003)) (la_assigned_55 h210_)
                have e267_ : g32 1100004 r9 = g32 1100004 (g39 12 (5 * r43 + 1)) := congrArg ((g32 1100004)) (la_assigned_55 h210_)
                have e268_ : g32 1100005 r9 = g32 1100005 (g39 12 (5 * r43 + 1)) := congrArg ((g32 1100005)) (la_assigned_55 h210_)
                have e269_ : g32 12 (5 * r9) = g32 12 (5 * g39 12 (5 * r43 + 1)) := congrArg ((g32 12)) (la_assigned_56 h210_)
                have e270_ : g32 12 (5 * r9 + 1) = g32 12 (5 * g39 12 (5 * r43 + 1) + 1) := congrArg ((g32 12)) (la_assigned_57 h210_)
                have e271_ : g32 12 (5 * r9 + 2) = g32 12 (5 * g39 12 (5 * r43 + 1) + 2) := congrArg ((g32 12)) (la_assigned_58 h210_)
                have e272_ : g32 12 (5 * r9 + 3) = g32 12 (5 * g39 12 (5 * r43 + 1) + 3) := congrArg ((g32 12)) (la_assigned_59 h210_)
                have e273_ : g32 12 (5 * r9 + 4) = g32 12 (5 * g39 12 (5 * r43 + 1) + 4) := congrArg ((g32 12)) (la_assigned_60 h210_)
                have e274_ : g32 13 r9 = g32 13 (g39 12 (5 * r43 + 1)) := congrArg ((g32 13)) (la_assigned_55 h210_)
                have e275_ : g39 11 r9 = g39 11 (g39 12 (5 * r43 + 1)) := congrArg ((g39 11)) (la_assigned_55 h210_)
                have e276_ : g39 13 r9 = g39 13 (g39 12 (5 * r43 + 1)) := congrArg ((g39 13)) (la_assigned_55 h210_)
                have e277_ : g5 11 r9 = g5 11 (g39 12 (5 * r43 + 1)) := congrArg ((g5 11)) (la_assigned_55 h210_)
                have e278_ : g5 1100001 r9 = g5 1100001 (g39 12 (5 * r43 + 1)) := congrArg ((g5 1100001)) (la_assigned_55 h210_)
                have e279_ : g5 1100002 r9 = g5 1100002 (g39 12 (5 * r43 + 1)) := congrArg ((g5 1100002)) (la_assigned_55 h210_)
                have e280_ : g5 1100003 r9 = g5 1100003 (g39 12 (5 * r43 + 1)) := congrArg ((g5 1100003)) (la_assigned_55 h210_)
                have e281_ : g5 1100004 r9 = g5 1100004 (g39 12 (5 * r43 + 1)) := congrArg ((g5 1100004)) (la_assigned_55 h210_)
                have e282_ : g5 1100005 r9 = g5 1100005 (g39 12 (5 * r43 + 1)) := congrArg ((g5 1100005)) (la_assigned_55 h210_)
                have e283_ : g5 12 (5 * r9) = g5 12 (5 * g39 12 (5 * r43 + 1)) := congrArg ((g5 12)) (la_assigned_56 h210_)
                have e284_ : g5 12 (5 * r9 + 1) = g5 12 (5 * g39 12 (5 * r43 + 1) + 1) := congrArg ((g5 12)) (la_assigned_57 h210_)
                have e285_ : g5 12 (5 * r9 + 2) = g5 12 (5 * g39 12 (5 * r43 + 1) + 2) := congrArg ((g5 12)) (la_assigned_58 h210_)
                have e286_ : g5 12 (5 * r9 + 3) = g5 12 (5 * g39 12 (5 * r43 + 1) + 3) := congrArg ((g5 12)) (la_assigned_59 h210_)
                have e287_ : g5 12 (5 * r9 + 4) = g5 12 (5 * g39 12 (5 * r43 + 1) + 4) := congrArg ((g5 12)) (la_assigned_60 h210_)
                have e288_ : g5 13 r9 = g5 13 (g39 12 (5 * r43 + 1)) := congrArg ((g5 13)) (la_assigned_55 h210_)
                exact (sm_ex_eq h210_ (sm_ex_i (sm_ex_e h140_).1 (la_assigned_48 (sm_ex_e h140_).2.1 h196_ h207_) (la_assigned_61 (sm_ex_e h140_).2.2.1 (sm_PX_at h229_ r9 (sm_ex_e h140_).1 (sm_ex_e h140_).2.1).2.2.2.2.2.2.2.1) (la_assigned_62 h164_ (sm_PX_at h229_ r9 (sm_ex_e h140_).1 (sm_ex_e h140_).2.1).2.2.2.2.2.2.2.2.1) (la_assigned_63 (sm_ex_e h140_).2.2.2.2 (sm_PX_at h229_ r9 (sm_ex_e h140_).1 (sm_ex_e h140_).2.1).2.2.2.2.2.2.2.2.2.1)))
              have h289_ : g39 11 (g39 12 (5 * r43 + 1)) = 2 ∨ g39 11 (g39 12 (5 * r43 + 1)) = 7 := by
                have e290_ : g32 11 r9 = g32 11 (g39 12 (5 * r43 + 1)) := congrArg ((g32 11)) (la_assigned_55 h210_)
                have e291_ : g32 1100001 r9 = g32 1100001 (g39 12 (5 * r43 + 1)) := congrArg ((g32 1100001)) (la_assigned_55 h210_)
                have e292_ : g32 1100002 r9 = g32 1100002 (g39 12 (5 * r43 + 1)) := congrArg ((g32 1100002)) (la_assigned_55 h210_)
                have e293_ : g32 1100003 r9 = g32 1100003 (g39 12 (5 * r43 + 1)) := congrArg ((g32 1100003)) (la_assigned_55 h210_)
                have e294_ : g32 1100004 r9 = g32 1100004 (g39 12 (5 * r43 + 1)) := congrArg ((g32 1100004)) (la_assigned_55 h210_)
                have e295_ : g32 1100005 r9 = g32 1100005 (g39 12 (5 * r43 + 1)) := congrArg ((g32 1100005)) (la_assigned_55 h210_)
                have e296_ : g32 12 (5 * r9) = g32 12 (5 * g39 12 (5 * r43 + 1)) := congrArg ((g32 12)) (la_assigned_56 h210_)
                have e297_ : g32 12 (5 * r9 + 1) = g32 12 (5 * g39 12 (5 * r43 + 1) + 1) := congrArg ((g32 12)) (la_assigned_57 h210_)
                have e298_ : g32 12 (5 * r9 + 2) = g32 12 (5 * g39 12 (5 * r43 + 1) + 2) := congrArg ((g32 12)) (la_assigned_58 h210_)
                have e299_ : g32 12 (5 * r9 + 3) = g32 12 (5 * g39 12 (5 * r43 + 1) + 3) := congrArg ((g32 12)) (la_assigned_59 h210_)
                have e300_ : g32 12 (5 * r9 + 4) = g32 12 (5 * g39 12 (5 * r43 + 1) + 4) := congrArg ((g32 12)) (la_assigned_60 h210_)
                have e301_ : g32 13 r9 = g32 13 (g39 12 (5 * r43 + 1)) := congrArg ((g32 13)) (la_assigned_55 h210_)
                have e302_ : g39 11 r9 = g39 11 (g39 12 (5 * r43 + 1)) := congrArg ((g39 11)) (la_assigned_55 h210_)
                have e303_ : g39 13 r9 = g39 13 (g39 12 (5 * r43 + 1)) := congrArg ((g39 13)) (la_assigned_55 h210_)
                have e304_ : g5 11 r9 = g5 11 (g39 12 (5 * r43 + 1)) := congrArg ((g5 11)) (la_assigned_55 h210_)
                have e305_ : g5 1100001 r9 = g5 1100001 (g39 12 (5 * r43 + 1)) := congrArg ((g5 1100001)) (la_assigned_55 h210_)
                have e306_ : g5 1100002 r9 = g5 1100002 (g39 12 (5 * r43 + 1)) := congrArg ((g5 1100002)) (la_assigned_55 h210_)
                have e307_ : g5 1100003 r9 = g5 1100003 (g39 12 (5 * r43 + 1)) := congrArg ((g5 1100003)) (la_assigned_55 h210_)
                have e308_ : g5 1100004 r9 = g5 1100004 (g39 12 (5 * r43 + 1)) := congrArg ((g5 1100004)) (la_assigned_55 h210_)
                have e309_ : g5 1100005 r9 = g5 1100005 (g39 12 (5 * r43 + 1)) := congrArg ((g5 1100005)) (la_assigned_55 h210_)
                have e310_ : g5 12 (5 * r9) = g5 12 (5 * g39 12 (5 * r43 + 1)) := congrArg ((g5 12)) (la_assigned_56 h210_)
                have e311_ : g5 12 (5 * r9 + 1) = g5 12 (5 * g39 12 (5 * r43 + 1) + 1) := congrArg ((g5 12)) (la_assigned_57 h210_)
                have e312_ : g5 12 (5 * r9 + 2) = g5 12 (5 * g39 12 (5 * r43 + 1) + 2) := congrArg ((g5 12)) (la_assigned_58 h210_)
                have e313_ : g5 12 (5 * r9 + 3) = g5 12 (5 * g39 12 (5 * r43 + 1) + 3) := congrArg ((g5 12)) (la_assigned_59 h210_)
                have e314_ : g5 12 (5 * r9 + 4) = g5 12 (5 * g39 12 (5 * r43 + 1) + 4) := congrArg ((g5 12)) (la_assigned_60 h210_)
                have e315_ : g5 13 r9 = g5 13 (g39 12 (5 * r43 + 1)) := congrArg ((g5 13)) (la_assigned_55 h210_)
                exact (la_assigned_65 h163_ (sm_PX_at h218_ (g39 12 (5 * r43 + 1)) (la_assigned_27 (sm_ex_e h140_).1 h210_) (la_assigned_52 (sm_ex_e h140_).2.1 h196_ h210_)).1 (sm_PX_at h218_ r9 (sm_ex_e h140_).1 (la_assigned_53 (sm_ex_e h140_).2.1 h196_)).1 (sm_PX_at h229_ (g39 12 (5 * r43 + 1)) (la_assigned_27 (sm_ex_e h140_).1 h210_) (la_assigned_54 (sm_ex_e h140_).2.1 h210_)).1 (sm_PX_at h229_ r9 (sm_ex_e h140_).1 (sm_ex_e h140_).2.1).1 e302_ e304_)
              have h316_ := (h257_ h262_ (la_assigned_64 (sm_ex_e h140_).2.1 h196_ h206_ h210_) h289_ (sm_ex_eq h211_ (sm_ex_N (sm_ex_w h241_ (la_assigned_66 h119_) (la_assigned_67 h119_)) (la_assigned_68 h207_))) (la_assigned_69 h145_) (la_assigned_70 h145_))
              exact h316_
            refine ⟨(sm_PX_up_Ws (sm_PX_up_Lp (sm_PX_up_V (sm_PX_up_M (sm_PX_up_C (sm_PX_tr (sm_PX_tr (sm_PX_le h126_ (Int.le_refl _)) h229_ h109_) h218_ (la_assigned_41 h109_ h196_)) (la_assigned_71 h109_ h196_ h206_)) (la_assigned_71 h109_ h196_ h206_)) (la_assigned_71 h109_ h196_ h206_)) (la_assigned_71 h109_ h196_ h206_)) (la_assigned_71 h109_ h196_ h206_)), ?_⟩
            refine ⟨h246_, ?_⟩
            refine ⟨h251_, ?_⟩
            refine ⟨(sm_F1_tr (sm_F1_tr (sm_F1_le h129_ (Int.le_refl _)) h232_ h109_) h220_ (la_assigned_41 h109_ h196_)), ?_⟩
            refine ⟨(sm_F1_tr (sm_F1_le h130_ (Int.le_refl _)) h233_ h106_), ?_⟩
            refine ⟨(sm_F1_tr (sm_F1_le h131_ (Int.le_refl _)) h234_ h106_), ?_⟩
            refine ⟨(sm_F1_tr (sm_F1_le h132_ (Int.le_refl _)) h235_ h106_), ?_⟩
            refine ⟨(sm_F1_tr (sm_F1_le h133_ (Int.le_refl _)) h236_ h106_), ?_⟩
            refine ⟨(sm_F1_tr (sm_F1_le h134_ (Int.le_refl _)) h237_ h106_), ?_⟩
            refine ⟨(sm_F1_tr (sm_F1_le h135_ (Int.le_refl _)) h238_ h106_), ?_⟩
            refine ⟨(sm_F1_tr (sm_F1_le h136_ (Int.le_refl _)) h239_ (la_assigned_72 h106_)), ?_⟩
            exact (sm_FN_cat (sm_FN_F h137_ (sm_F1_le h238_ (Int.le_refl _)) (Int.le_refl _)) (sm_FN_w h240_ (Int.le_refl _) (Int.le_refl _)) (Int.le_refl _) (Int.le_refl _))
          refine ⟨(sm_KL_tr (sm_KL_le h99_ (Int.le_refl _)) (sm_KL_le h186_ (la_assigned_73 h102_)) (Int.le_refl _)), ?_⟩
          refine ⟨h187_, ?_⟩
          refine ⟨h188_, ?_⟩
          refine ⟨(la_assigned_74 h102_ h189_), ?_⟩
          refine ⟨(la_assigned_74 h103_ h190_), ?_⟩
          refine ⟨(la_assigned_74 h104_ h191_), ?_⟩
          refine ⟨(la_assigned_74 h105_ h192_), ?_⟩
          refine ⟨(la_assigned_41 h106_ h193_), ?_⟩
          refine ⟨h194_, ?_⟩
          refine ⟨h195_, ?_⟩
          refine ⟨(la_assigned_75 h109_ h196_ h207_), ?_⟩
          refine ⟨(la_assigned_76 h119_ h120_ h179_ h197_ h207_), ?_⟩
          refine ⟨(la_assigned_77 h119_ h120_ e142_ h145_ h197_ h198_ h207_), ?_⟩
          refine ⟨(la_assigned_78 (sm_ex_e h140_).1 (sm_ex_e h140_).2.1 h196_ h206_), ?_⟩
          refine ⟨?_, ?_⟩
          · skip
            have h317_ := (h216_ r43)
            have h318_ := ((sm_TK_go h6_ (g5 1020 0) (la_assigned_21 h4_ h138_) h91_) (la_assigned_22 h155_))
            have h319_ := ((sm_TK_go h6_ (S 1020 0) h4_ h5_) h139_)
            have h320_ := (h318_ (la_assigned_23 h155_))
            exact (la_assigned_79 (sm_TK_t h6_).2 h119_ h120_ h144_ h147_ h178_ h179_ h197_ h198_ h206_)
          refine ⟨?_, ?_⟩
          · skip
            intro h321_
            obtain ⟨h322_, h323_⟩ := (h197_ h321_)
            obtain ⟨h324_, ⟨h325_, ⟨h326_, ⟨h327_, ⟨h328_, ⟨h329_, ⟨h330_, ⟨h331_, ⟨h332_, ⟨h333_, ⟨h334_, ⟨h335_, h336_⟩⟩⟩⟩⟩⟩⟩⟩⟩⟩⟩⟩ := (h185_ h321_)
            obtain ⟨h337_, h338_⟩ := (h201_ h321_)
            obtain ⟨h339_, h340_⟩ := (h217_ h324_)
            have h341_ := (h221_ h327_)
            have h342_ := (h222_ h326_)
            have h343_ := (h223_ h321_)
            have h344_ := (h224_ h321_)
            have h345_ := (h343_ h341_)
            have h346_ := (h344_ h339_)
            have h347_ := (h345_ h219_)
            have h348_ := (h346_ h340_)
            have h349_ := (h348_ (la_assigned_44 h206_ (sm_ex_e h337_).1 (sm_ex_e h337_).2.1))
            have h350_ := (h349_ (la_assigned_45 h206_ h207_))
            have h351_ := (h350_ h214_)
            have h352_ := (h351_ h208_)
            have h353_ := (h352_ (la_assigned_46 (la_assigned_13 h151_ h154_) h167_ h209_))
            refine ⟨(la_assigned_80 h138_ h338_), ?_⟩
            refine ⟨h139_, ?_⟩
            refine ⟨(sm_ex_if (la_assigned_44 h206_ (sm_ex_e h337_).1 (sm_ex_e h337_).2.1) (la_assigned_45 h206_ h207_) la_assigned_81 la_assigned_82 la_assigned_83), ?_⟩
            intro h354_
            have h355_ := (h354_.resolve_left (la_assigned_84 h208_))
            have h356_ := (h216_ r43)
            have e357_ : (if r43 = r43 then 17 * (20 - S 1023 0) + 17 else g32 1100002 r43 : Int) = 17 * (20 - S 1023 0) + 17 := if_pos la_assigned_85
            have h358_ := ((sm_TK_go h6_ (S 1020 0) h4_ h5_) h139_)
            have h359_ := ((sm_TK_go h6_ (g5 1020 0) (la_assigned_21 h4_ h138_) h91_) (la_assigned_22 h155_))
            have h360_ := (h353_ (sm_ex_eq h210_ (sm_ex_i (sm_ex_e h140_).1 (la_assigned_48 (sm_ex_e h140_).2.1 h196_ h207_) (la_assigned_61 (sm_ex_e h140_).2.2.1 (sm_PX_at h325_ r9 (sm_ex_e h140_).1 (sm_ex_e h140_).2.1).2.2.2.2.2.2.2.1) (la_assigned_62 h164_ (sm_PX_at h325_ r9 (sm_ex_e h140_).1 (sm_ex_e h140_).2.1).2.2.2.2.2.2.2.2.1) (la_assigned_63 (sm_ex_e h140_).2.2.2.2 (sm_PX_at h325_ r9 (sm_ex_e h140_).1 (sm_ex_e h140_).2.1).2.2.2.2.2.2.2.2.2.1))))
            have h361_ := (h359_ (la_assigned_23 h155_))
            have h362_ := (h360_ (la_assigned_64 (sm_ex_e h140_).2.1 h196_ h206_ h210_))
            have e363_ : g32 11 r9 = g32 11 (g39 12 (5 * r43 + 1)) := congrArg ((g32 11)) (la_assigned_55 h210_)
            have e364_ : g32 1100001 r9 = g32 1100001 (g39 12 (5 * r43 + 1)) := congrArg ((g32 1100001)) (la_assigned_55 h210_)
            have e365_ : g32 1100002 r9 = g32 1100002 (g39 12 (5 * r43 + 1)) := congrArg ((g32 1100002)) (la_assigned_55 h210_)
            have e366_ : g32 1100003 r9 = g32 1100003 (g39 12 (5 * r43 + 1)) := congrArg ((g32 1100003)) (la_assigned_55 h210_)
            have e367_ : g32 1100004 r9 = g32 1100004 (g39 12 (5 * r43 + 1)) := congrArg ((g32 1100004)) (la_assigned_55 h210_)
            have e368_ : g32 1100005 r9 = g32 1100005 (g39 12 (5 * r43 + 1)) := congrArg ((g32 1100005)) (la_assigned_55 h210_)
            have e369_ : g32 12 (5 * r9) = g32 12 (5 * g39 12 (5 * r43 + 1)) := congrArg ((g32 12)) (la_assigned_56 h210_)
            have e370_ : g32 12 (5 * r9 + 1) = g32 12 (5 * g39 12 (5 * r43 + 1) + 1) := congrArg ((g32 12)) (la_assigned_57 h210_)
            have e371_ : g32 12 (5 * r9 + 2) = g32 12 (5 * g39 12 (5 * r43 + 1) + 2) := congrArg ((g32 12)) (la_assigned_58 h210_)
            have e372_ : g32 12 (5 * r9 + 3) = g32 12 (5 * g39 12 (5 * r43 + 1) + 3) := congrArg ((g32 12)) (la_assigned_59 h210_)
            have e373_ : g32 12 (5 * r9 + 4) = g32 12 (5 * g39 12 (5 * r43 + 1) + 4) := congrArg ((g32 12)) (la_assigned_60 h210_)
            have e374_ : g32 13 r9 = g32 13 (g39 12 (5 * r43 + 1)) := congrArg ((g32 13)) (la_assigned_55 h210_)
            have e375_ : g39 11 r9 = g39 11 (g39 12 (5 * r43 + 1)) := congrArg ((g39 11)) (la_assigned_55 h210_)
            have e376_ : g39 13 r9 = g39 13 (g39 12 (5 * r43 + 1)) := congrArg ((g39 13)) (la_assigned_55 h210_)
            have e377_ : g5 11 r9 = g5 11 (g39 12 (5 * r43 + 1)) := congrArg ((g5 11)) (la_assigned_55 h210_)
            have e378_ : g5 1100001 r9 = g5 1100001 (g39 12 (5 * r43 + 1)) := congrArg ((g5 1100001)) (la_assigned_55 h210_)
            have e379_ : g5 1100002 r9 = g5 1100002 (g39 12 (5 * r43 + 1)) := congrArg ((g5 1100002)) (la_assigned_55 h210_)
            have e380_ : g5 1100003 r9 = g5 1100003 (g39 12 (5 * r43 + 1)) := congrArg ((g5 1100003)) (la_assigned_55 h210_)
            have e381_ : g5 1100004 r9 = g5 1100004 (g39 12 (5 * r43 + 1)) := congrArg ((g5 1100004)) (la_assigned_55 h210_)
            have e382_ : g5 1100005 r9 = g5 1100005 (g39 12 (5 * r43 + 1)) := congrArg ((g5 1100005)) (la_assigned_55 h210_)
            have e383_ : g5 12 (5 * r9) = g5 12 (5 * g39 12 (5 * r43 + 1)) := congrArg ((g5 12)) (la_assigned_56 h210_)
            have e384_ : g5 12 (5 * r9 + 1) = g5 12 (5 * g39 12 (5 * r43 + 1) + 1) := congrArg ((g5 12)) (la_assigned_57 h210_)
            have e385_ : g5 12 (5 * r9 + 2) = g5 12 (5 * g39 12 (5 * r43 + 1) + 2) := congrArg ((g5 12)) (la_assigned_58 h210_)
            have e386_ : g5 12 (5 * r9 + 3) = g5 12 (5 * g39 12 (5 * r43 + 1) + 3) := congrArg ((g5 12)) (la_assigned_59 h210_)
            have e387_ : g5 12 (5 * r9 + 4) = g5 12 (5 * g39 12 (5 * r43 + 1) + 4) := congrArg ((g5 12)) (la_assigned_60 h210_)
            have e388_ : g5 13 r9 = g5 13 (g39 12 (5 * r43 + 1)) := congrArg ((g5 13)) (la_assigned_55 h210_)
            exact ((la_assigned_86 h208_ h355_)).elim
          intro h389_
          refine ⟨?_, ?_⟩
          · skip
            have h390_ := (h216_ r43)
            have h391_ := ((sm_TK_go h6_ (g5 1020 0) (la_assigned_21 h4_ h138_) h91_) (la_assigned_22 h155_))
            have h392_ := ((sm_TK_go h6_ (S 1020 0) h4_ h5_) h139_)
            have h393_ := (h391_ (la_assigned_23 h155_))
            exact ((la_assigned_87 h118_ h389_)).elim
          have h394_ := (h216_ r43)
          have h395_ := ((sm_TK_go h6_ (g5 1020 0) (la_assigned_21 h4_ h138_) h91_) (la_assigned_22 h155_))
          have h396_ := ((sm_TK_go h6_ (S 1020 0) h4_ h5_) h139_)
          have h397_ := (h395_ (la_assigned_23 h155_))
          exact ((la_assigned_87 h118_ h389_)).elim
        intro h398_
        have h399_ := (h152_.resolve_left (la_assigned_88 h398_))
        refine ⟨?_, ?_⟩
        · skip
          refine ⟨(la_assigned_20 h4_ h138_), ?_⟩
          refine ⟨?_, ?_⟩
          · skip
            have h400_ := ((sm_TK_go h6_ (g5 1020 0) (la_assigned_21 h4_ h138_) h91_) (la_assigned_22 h155_))
            have h401_ := ((sm_TK_go h6_ (S 1020 0) h4_ h5_) h139_)
            have h402_ := (h400_ (la_assigned_23 h155_))
            exact h402_
          refine ⟨h6_, ?_⟩
          refine ⟨h92_, ?_⟩
          refine ⟨h8_, ?_⟩
          refine ⟨h9_, ?_⟩
          refine ⟨(la_assigned_24 h10_ h94_), ?_⟩
          refine ⟨h95_, ?_⟩
          refine ⟨h96_, ?_⟩
          refine ⟨?_, ?_⟩
          · skip
            intro h403_
            refine ⟨h125_, ?_⟩
            refine ⟨h127_, ?_⟩
            refine ⟨h128_, ?_⟩
            have h404_ := ((sm_TK_go h6_ (g5 1020 0) (la_assigned_21 h4_ h138_) h91_) (la_assigned_22 h155_))
            have h405_ := ((sm_TK_go h6_ (S 1020 0) h4_ h5_) h139_)
            have h406_ := (h404_ (la_assigned_23 h155_))
            have e407_ : S 1100016 (g5 1043 0) = S 1100016 (S 1043 0) := congrArg ((S 1100016)) h103_
            exact (la_assigned_26 h124_ (sm_F1_at h135_ (g5 1043 0) (la_assigned_25 h17_ h18_ h103_)) e407_)
          refine ⟨h100_, ?_⟩
          refine ⟨h101_, ?_⟩
          refine ⟨(la_assigned_27 h16_ h103_), ?_⟩
          refine ⟨(la_assigned_28 h17_ h18_ h103_ h106_ h108_), ?_⟩
          refine ⟨h108_, ?_⟩
          refine ⟨(la_assigned_29 h107_), ?_⟩
          refine ⟨(la_assigned_27 h20_ h102_), ?_⟩
          refine ⟨(la_assigned_30 h102_ h145_ h146_), ?_⟩
          refine ⟨(la_assigned_27 h22_ h104_), ?_⟩
          refine ⟨(la_assigned_31 h104_ h145_ h148_), ?_⟩
          refine ⟨(la_assigned_27 h24_ h105_), ?_⟩
          refine ⟨(la_assigned_31 h105_ h145_ h149_), ?_⟩
          refine ⟨(la_assigned_21 (sm_ex_e h140_).1 (sm_ex_e h140_).2.1), ?_⟩
          refine ⟨(la_assigned_32 h102_ h104_ h105_ h119_ h120_ h144_ h145_ h146_ h147_ h148_ h149_), ?_⟩
          exact (la_assigned_10 h92_ h117_)
        refine ⟨(la_assigned_33 h28_ h119_ e142_ h145_), ?_⟩
        refine ⟨(la_assigned_34 h119_ e142_ h145_), ?_⟩
        intro r66
        intro h408_
        intro g62
        rintro ⟨h409_, ⟨h410_, ⟨h411_, ⟨h412_, ⟨h413_, ⟨h414_, ⟨h415_, ⟨h416_, ⟨h417_, ⟨h418_, ⟨h419_, ⟨h420_, ⟨h421_, ⟨h422_, ⟨h423_, ⟨h424_, ⟨h425_, ⟨h426_, ⟨h427_, ⟨h428_, ⟨h429_, ⟨h430_, ⟨h431_, ⟨h432_, h433_⟩⟩⟩⟩⟩⟩⟩⟩⟩⟩⟩⟩⟩⟩⟩⟩⟩⟩⟩⟩⟩⟩⟩⟩
        refine ⟨?_, ?_⟩
        · skip
          refine ⟨(la_assigned_35 (sm_ex_e h140_).1 (sm_ex_e h140_).2.1 h428_), ?_⟩
          have h434_ := ((sm_TK_go h6_ (g5 1020 0) (la_assigned_21 h4_ h138_) h91_) (la_assigned_22 h155_))
          have h435_ := ((sm_TK_go h6_ (S 1020 0) h4_ h5_) h139_)
          have h436_ := (h434_ (la_assigned_23 h155_))
          exact (la_assigned_36 (sm_TK_t h6_).2 h119_ h120_ h144_ h147_ h410_ h411_ h429_ h430_)
        intro r73
        intro h437_
        intro g69
        rintro ⟨h438_, ⟨h439_, ⟨h440_, ⟨h441_, ⟨h442_, ⟨h443_, ⟨h444_, ⟨h445_, ⟨h446_, ⟨h447_, ⟨h448_, ⟨h449_, ⟨h450_, ⟨h451_, ⟨h452_, ⟨h453_, h454_⟩⟩⟩⟩⟩⟩⟩⟩⟩⟩⟩⟩⟩⟩⟩⟩
        refine ⟨(la_assigned_37 h144_ h145_), ?_⟩
        refine ⟨(la_assigned_38 h144_ h145_), ?_⟩
        intro h455_
        intro h456_
        refine ⟨(la_assigned_39 h138_ h409_), ?_⟩
        refine ⟨h410_, ?_⟩
        refine ⟨h411_, ?_⟩
        refine ⟨(la_assigned_40 h118_), ?_⟩
        refine ⟨(la_assigned_41 h94_ h413_), ?_⟩
        refine ⟨h414_, ?_⟩
        refine ⟨h415_, ?_⟩
        refine ⟨(la_assigned_42 h97_ h416_), ?_⟩
        refine ⟨?_, ?_⟩
        · skip
          intro h457_
          obtain ⟨h458_, h459_⟩ := (h429_ h457_)
          obtain ⟨h460_, ⟨h461_, ⟨h462_, ⟨h463_, ⟨h464_, ⟨h465_, ⟨h466_, ⟨h467_, ⟨h468_, ⟨h469_, ⟨h470_, ⟨h471_, h472_⟩⟩⟩⟩⟩⟩⟩⟩⟩⟩⟩⟩ := (h417_ h457_)
          obtain ⟨h473_, h474_⟩ := (h433_ h457_)
          obtain ⟨h475_, h476_⟩ := (h449_ h460_)
          have h477_ := (h453_ h463_)
          have h478_ := (h454_ h462_)
          have h479_ := (h455_ h457_)
          have h480_ := (h456_ h457_)
          have h481_ := (h479_ h477_)
          have h482_ := (h480_ h475_)
          have h483_ := (h481_ h451_)
          have h484_ := (h482_ h476_)
          have h485_ := (h484_ (la_assigned_44 h438_ (sm_ex_e h473_).1 (sm_ex_e h473_).2.1))
          have h486_ := (h485_ (la_assigned_45 h438_ h439_))
          have h487_ := (h486_ h446_)
          have h488_ := (h487_ h440_)
          have h489_ := (h488_ (la_assigned_89 h441_))
          refine ⟨?_, ?_⟩
          · skip
            have h490_ := (h448_ r73)
            have h491_ := ((sm_TK_go h6_ (g5 1020 0) (la_assigned_21 h4_ h138_) h91_) (la_assigned_22 h155_))
            have h492_ := ((sm_TK_go h6_ (S 1020 0) h4_ h5_) h139_)
            have h493_ := (h491_ (la_assigned_23 h155_))
            have h494_ : sm_ex (g62 1100001) (g62 1100002) (g62 1100005) (g69 1024 0) 1 (g69 12 (5 * r73 + 1)) (17 * (20 - S 1023 0) + 17 - 3) (20 - S 1023 0) := by
              have e495_ : g5 11 r9 = g5 11 (g69 12 (5 * r73 + 1)) := congrArg ((g5 11)) (la_assigned_55 h442_)
              have e496_ : g5 1100001 r9 = g5 1100001 (g69 12 (5 * r73 + 1)) := congrArg ((g5 1100001)) (la_assigned_55 h442_)
              have e497_ : g5 1100002 r9 = g5 1100002 (g69 12 (5 * r73 + 1)) := congrArg ((g5 1100002)) (la_assigned_55 h442_)
              have e498_ : g5 1100003 r9 = g5 1100003 (g69 12 (5 * r73 + 1)) := congrArg ((g5 1100003)) (la_assigned_55 h442_)
              have e499_ : g5 1100004 r9 = g5 1100004 (g69 12 (5 * r73 + 1)) := congrArg ((g5 1100004)) (la_assigned_55 h442_)
              have e500_ : g5 1100005 r9 = g5 1100005 (g69 12 (5 * r73 + 1)) := congrArg ((g5 1100005)) (la_assigned_55 h442_)
              have e501_ : g5 12 (5 * r9) = g5 12 (5 * g69 12 (5 * r73 + 1)) := congrArg ((g5 12)) (la_assigned_56 h442_)
              have e502_ : g5 12 (5 * r9 + 1) = g5 12 (5 * g69 12 (5 * r73 + 1) + 1) := congrArg ((g5 12)) (la_assigned_57 h442_)
              have e503_ : g5 12 (5 * r9 + 2) = g5 12 (5 * g69 12 (5 * r73 + 1) + 2) := congrArg ((g5 12)) (la_assigned_58 h442_)
              have e504_ : g5 12 (5 * r9 + 3) = g5 12 (5 * g69 12 (5 * r73 + 1) + 3) := congrArg ((g5 12)) (la_assigned_59 h442_)
              have e505_ : g5 12 (5 * r9 + 4) = g5 12 (5 * g69 12 (5 * r73 + 1) + 4) := congrArg ((g5 12)) (la_assigned_60 h442_)
              have e506_ : g5 13 r9 = g5 13 (g69 12 (5 * r73 + 1)) := congrArg ((g5 13)) (la_assigned_55 h442_)
              have e507_ : g62 11 r9 = g62 11 (g69 12 (5 * r73 + 1)) := congrArg ((g62 11)) (la_assigned_55 h442_)
              have e508_ : g62 1100001 r9 = g62 1100001 (g69 12 (5 * r73 + 1)) := congrArg ((g62 1100001)) (la_assigned_55 h442_)
              have e509_ : g62 1100002 r9 = g62 1100002 (g69 12 (5 * r73 + 1)) := congrArg ((g62 1100002)) (la_assigned_55 h442_)
              have e510_ : g62 1100003 r9 = g62 1100003 (g69 12 (5 * r73 + 1)) := congrArg ((g62 1100003)) (la_assigned_55 h442_)
              have e511_ : g62 1100004 r9 = g62 1100004 (g69 12 (5 * r73 + 1)) := congrArg ((g62 1100004)) (la_assigned_55 h442_)
              have e512_ : g62 1100005 r9 = g62 1100005 (g69 12 (5 * r73 + 1)) := congrArg ((g62 1100005)) (la_assigned_55 h442_)
              have e513_ : g62 12 (5 * r9) = g62 12 (5 * g69 12 (5 * r73 + 1)) := congrArg ((g62 12)) (la_assigned_56 h442_)
              have e514_ : g62 12 (5 * r9 + 1) = g62 12 (5 * g69 12 (5 * r73 + 1) + 1) := congrArg ((g62 12)) (la_assigned_57 h442_)
              have e515_ : g62 12 (5 * r9 + 2) = g62 12 (5 * g69 12 (5 * r73 + 1) + 2) := congrArg ((g62 12)) (la_assigned_58 h442_)
              have e516_ : g62 12 (5 * r9 + 3) = g62 12 (5 * g69 12 (5 * r73 + 1) + 3) := congrArg ((g62 12)) (la_assigned_59 h442_)
              have e517_ : g62 12 (5 * r9 + 4) = g62 12 (5 * g69 12 (5 * r73 + 1) + 4) := congrArg ((g62 12)) (la_assigned_60 h442_)
              have e518_ : g62 13 r9 = g62 13 (g69 12 (5 * r73 + 1)) := congrArg ((g62 13)) (la_assigned_55 h442_)
              have e519_ : g69 11 r9 = g69 11 (g69 12 (5 * r73 + 1)) := congrArg ((g69 11)) (la_assigned_55 h442_)
              have e520_ : g69 13 r9 = g69 13 (g69 12 (5 * r73 + 1)) := congrArg ((g69 13)) (la_assigned_55 h442_)
              exact (sm_ex_eq h442_ (sm_ex_i (sm_ex_e h140_).1 (la_assigned_48 (sm_ex_e h140_).2.1 h428_ h439_) (la_assigned_61 (sm_ex_e h140_).2.2.1 (sm_PX_at h461_ r9 (sm_ex_e h140_).1 (sm_ex_e h140_).2.1).2.2.2.2.2.2.2.1) (la_assigned_62 h164_ (sm_PX_at h461_ r9 (sm_ex_e h140_).1 (sm_ex_e h140_).2.1).2.2.2.2.2.2.2.2.1) (la_assigned_63 (sm_ex_e h140_).2.2.2.2 (sm_PX_at h461_ r9 (sm_ex_e h140_).1 (sm_ex_e h140_).2.1).2.2.2.2.2.2.2.2.2.1)))
            have h521_ : g69 11 (g69 12 (5 * r73 + 1)) = 2 ∨ g69 11 (g69 12 (5 * r73 + 1)) = 7 := by
              have e522_ : g5 11 r9 = g5 11 (g69 12 (5 * r73 + 1)) := congrArg ((g5 11)) (la_assigned_55 h442_)
              have e523_ : g5 1100001 r9 = g5 1100001 (g69 12 (5 * r73 + 1)) := congrArg ((g5 1100001)) (la_assigned_55 h442_)
              have e524_ : g5 1100002 r9 = g5 1100002 (g69 12 (5 * r73 + 1)) := congrArg ((g5 1100002)) (la_assigned_55 h442_)
              have e525_ : g5 1100003 r9 = g5 1100003 (g69 12 (5 * r73 + 1)) := congrArg ((g5 1100003)) (la_assigned_55 h442_)
              have e526_ : g5 1100004 r9 = g5 1100004 (g69 12 (5 * r73 + 1)) := congrArg ((g5 1100004)) (la_assigned_55 h442_)
              have e527_ : g5 1100005 r9 = g5 1100005 (g69 12 (5 * r73 + 1)) := congrArg ((g5 1100005)) (la_assigned_55 h442_)
              have e528_ : g5 12 (5 * r9) = g5 12 (5 * g69 12 (5 * r73 + 1)) := congrArg ((g5 12)) (la_assigned_56 h442_)
              have e529_ : g5 12 (5 * r9 + 1) = g5 12 (5 * g69 12 (5 * r73 + 1) + 1) := congrArg ((g5 12)) (la_assigned_57 h442_)
              have e530_ : g5 12 (5 * r9 + 2) = g5 12 (5 * g69 12 (5 * r73 + 1) + 2) := congrArg ((g5 12)) (la_assigned_58 h442_)
              have e531_ : g5 12 (5 * r9 + 3) = g5 12 (5 * g69 12 (5 * r73 + 1) + 3) := congrArg ((g5 12)) (la_assigned_59 h442_)
              have e532_ : g5 12 (5 * r9 + 4) = g5 12 (5 * g69 12 (5 * r73 + 1) + 4) := congrArg ((g5 12)) (la_assigned_60 h442_)
              have e533_ : g5 13 r9 = g5 13 (g69 12 (5 * r73 + 1)) := congrArg ((g5 13)) (la_assigned_55 h442_)
              have e534_ : g62 11 r9 = g62 11 (g69 12 (5 * r73 + 1)) := congrArg ((g62 11)) (la_assigned_55 h442_)
              have e535_ : g62 1100001 r9 = g62 1100001 (g69 12 (5 * r73 + 1)) := congrArg ((g62 1100001)) (la_assigned_55 h442_)
              have e536_ : g62 1100002 r9 = g62 1100002 (g69 12 (5 * r73 + 1)) := congrArg ((g62 1100002)) (la_assigned_55 h442_)
              have e537_ : g62 1100003 r9 = g62 1100003 (g69 12 (5 * r73 + 1)) := congrArg ((g62 1100003)) (la_assigned_55 h442_)
              have e538_ : g62 1100004 r9 = g62 1100004 (g69 12 (5 * r73 + 1)) := congrArg ((g62 1100004)) (la_assigned_55 h442_)
              have e539_ : g62 1100005 r9 = g62 1100005 (g69 12 (5 * r73 + 1)) := congrArg ((g62 1100005)) (la_assigned_55 h442_)
              have e540_ : g62 12 (5 * r9) = g62 12 (5 * g69 12 (5 * r73 + 1)) := congrArg ((g62 12)) (la_assigned_56 h442_)
              have e541_ : g62 12 (5 * r9 + 1) = g62 12 (5 * g69 12 (5 * r73 + 1) + 1) := congrArg ((g62 12)) (la_assigned_57 h442_)
              have e542_ : g62 12 (5 * r9 + 2) = g62 12 (5 * g69 12 (5 * r73 + 1) + 2) := congrArg ((g62 12)) (la_assigned_58 h442_)
              have e543_ : g62 12 (5 * r9 + 3) = g62 12 (5 * g69 12 (5 * r73 + 1) + 3) := congrArg ((g62 12)) (la_assigned_59 h442_)
              have e544_ : g62 12 (5 * r9 + 4) = g62 12 (5 * g69 12 (5 * r73 + 1) + 4) := congrArg ((g62 12)) (la_assigned_60 h442_)
              have e545_ : g62 13 r9 = g62 13 (g69 12 (5 * r73 + 1)) := congrArg ((g62 13)) (la_assigned_55 h442_)
              have e546_ : g69 11 r9 = g69 11 (g69 12 (5 * r73 + 1)) := congrArg ((g69 11)) (la_assigned_55 h442_)
              have e547_ : g69 13 r9 = g69 13 (g69 12 (5 * r73 + 1)) := congrArg ((g69 13)) (la_assigned_55 h442_)
              exact (la_assigned_90 h163_ (sm_PX_at h450_ (g69 12 (5 * r73 + 1)) (la_assigned_27 (sm_ex_e h140_).1 h442_) (la_assigned_52 (sm_ex_e h140_).2.1 h428_ h442_)).1 (sm_PX_at h450_ r9 (sm_ex_e h140_).1 (la_assigned_53 (sm_ex_e h140_).2.1 h428_)).1 (sm_PX_at h461_ (g69 12 (5 * r73 + 1)) (la_assigned_27 (sm_ex_e h140_).1 h442_) (la_assigned_54 (sm_ex_e h140_).2.1 h442_)).1 (sm_PX_at h461_ r9 (sm_ex_e h140_).1 (sm_ex_e h140_).2.1).1 e522_ e546_)
            have h548_ := (h489_ h494_ (la_assigned_64 (sm_ex_e h140_).2.1 h428_ h438_ h442_) h521_ (sm_ex_eq h443_ (sm_ex_N (sm_ex_w h473_ (la_assigned_66 h119_) (la_assigned_67 h119_)) (la_assigned_68 h439_))) (la_assigned_69 h145_) (la_assigned_70 h145_))
            exact h548_
          refine ⟨(sm_PX_up_Ws (sm_PX_up_Lp (sm_PX_up_V (sm_PX_up_M (sm_PX_up_C (sm_PX_tr (sm_PX_tr (sm_PX_le h126_ (Int.le_refl _)) h461_ h109_) h450_ (la_assigned_41 h109_ h428_)) (la_assigned_71 h109_ h428_ h438_)) (la_assigned_71 h109_ h428_ h438_)) (la_assigned_71 h109_ h428_ h438_)) (la_assigned_71 h109_ h428_ h438_)) (la_assigned_71 h109_ h428_ h438_)), ?_⟩
          refine ⟨h478_, ?_⟩
          refine ⟨h483_, ?_⟩
          refine ⟨(sm_F1_tr (sm_F1_tr (sm_F1_le h129_ (Int.le_refl _)) h464_ h109_) h452_ (la_assigned_41 h109_ h428_)), ?_⟩
          refine ⟨(sm_F1_tr (sm_F1_le h130_ (Int.le_refl _)) h465_ h106_), ?_⟩
          refine ⟨(sm_F1_tr (sm_F1_le h131_ (Int.le_refl _)) h466_ h106_), ?_⟩
          refine ⟨(sm_F1_tr (sm_F1_le h132_ (Int.le_refl _)) h467_ h106_), ?_⟩
          refine ⟨(sm_F1_tr (sm_F1_le h133_ (Int.le_refl _)) h468_ h106_), ?_⟩
          refine ⟨(sm_F1_tr (sm_F1_le h134_ (Int.le_refl _)) h469_ h106_), ?_⟩
          refine ⟨(sm_F1_tr (sm_F1_le h135_ (Int.le_refl _)) h470_ h106_), ?_⟩
          refine ⟨(sm_F1_tr (sm_F1_le h136_ (Int.le_refl _)) h471_ (la_assigned_72 h106_)), ?_⟩
          exact (sm_FN_cat (sm_FN_F h137_ (sm_F1_le h470_ (Int.le_refl _)) (Int.le_refl _)) (sm_FN_w h472_ (Int.le_refl _) (Int.le_refl _)) (Int.le_refl _) (Int.le_refl _))
        refine ⟨(sm_KL_tr (sm_KL_le h99_ (Int.le_refl _)) (sm_KL_le h418_ (la_assigned_73 h102_)) (Int.le_refl _)), ?_⟩
        refine ⟨h419_, ?_⟩
        refine ⟨h420_, ?_⟩
        refine ⟨(la_assigned_74 h102_ h421_), ?_⟩
        refine ⟨(la_assigned_74 h103_ h422_), ?_⟩
        refine ⟨(la_assigned_74 h104_ h423_), ?_⟩
        refine ⟨(la_assigned_74 h105_ h424_), ?_⟩
        refine ⟨(la_assigned_41 h106_ h425_), ?_⟩
        refine ⟨h426_, ?_⟩
        refine ⟨h427_, ?_⟩
        refine ⟨(la_assigned_75 h109_ h428_ h439_), ?_⟩
        refine ⟨(la_assigned_76 h119_ h120_ h411_ h429_ h439_), ?_⟩
        refine ⟨(la_assigned_77 h119_ h120_ e142_ h145_ h429_ h430_ h439_), ?_⟩
        refine ⟨(la_assigned_78 (sm_ex_e h140_).1 (sm_ex_e h140_).2.1 h428_ h438_), ?_⟩
        refine ⟨?_, ?_⟩
        · skip
          have h549_ := (h448_ r73)
          have h550_ := ((sm_TK_go h6_ (g5 1020 0) (la_assigned_21 h4_ h138_) h91_) (la_assigned_22 h155_))
          have h551_ := ((sm_TK_go h6_ (S 1020 0) h4_ h5_) h139_)
          have h552_ := (h550_ (la_assigned_23 h155_))
          exact (la_assigned_79 (sm_TK_t h6_).2 h119_ h120_ h144_ h147_ h410_ h411_ h429_ h430_ h438_)
        refine ⟨?_, ?_⟩
        · skip
          intro h553_
          obtain ⟨h554_, h555_⟩ := (h429_ h553_)
          obtain ⟨h556_, ⟨h557_, ⟨h558_, ⟨h559_, ⟨h560_, ⟨h561_, ⟨h562_, ⟨h563_, ⟨h564_, ⟨h565_, ⟨h566_, ⟨h567_, h568_⟩⟩⟩⟩⟩⟩⟩⟩⟩⟩⟩⟩ := (h417_ h553_)
          obtain ⟨h569_, h570_⟩ := (h433_ h553_)
          obtain ⟨h571_, h572_⟩ := (h449_ h556_)
          have h573_ := (h453_ h559_)
          have h574_ := (h454_ h558_)
          have h575_ := (h455_ h553_)
          have h576_ := (h456_ h553_)
          have h577_ := (h575_ h573_)
          have h578_ := (h576_ h571_)
          have h579_ := (h577_ h451_)
          have h580_ := (h578_ h572_)
          have h581_ := (h580_ (la_assigned_44 h438_ (sm_ex_e h569_).1 (sm_ex_e h569_).2.1))
          have h582_ := (h581_ (la_assigned_45 h438_ h439_))
          have h583_ := (h582_ h446_)
          have h584_ := (h583_ h440_)
          have h585_ := (h584_ (la_assigned_89 h441_))
          refine ⟨(la_assigned_80 h138_ h570_), ?_⟩
          refine ⟨h139_, ?_⟩
          refine ⟨(sm_ex_if (la_assigned_44 h438_ (sm_ex_e h569_).1 (sm_ex_e h569_).2.1) (la_assigned_45 h438_ h439_) la_assigned_81 la_assigned_82 la_assigned_83), ?_⟩
          intro h586_
          have h587_ := (h586_.resolve_left (la_assigned_84 h440_))
          have h588_ := (h448_ r73)
          have e589_ : (if r73 = r73 then 17 * (20 - S 1023 0) + 17 else g62 1100002 r73 : Int) = 17 * (20 - S 1023 0) + 17 := if_pos la_assigned_85
          have h590_ := ((sm_TK_go h6_ (S 1020 0) h4_ h5_) h139_)
          have h591_ := ((sm_TK_go h6_ (g5 1020 0) (la_assigned_21 h4_ h138_) h91_) (la_assigned_22 h155_))
          have h592_ := (h585_ (sm_ex_eq h442_ (sm_ex_i (sm_ex_e h140_).1 (la_assigned_48 (sm_ex_e h140_).2.1 h428_ h439_) (la_assigned_61 (sm_ex_e h140_).2.2.1 (sm_PX_at h557_ r9 (sm_ex_e h140_).1 (sm_ex_e h140_).2.1).2.2.2.2.2.2.2.1) (la_assigned_62 h164_ (sm_PX_at h557_ r9 (sm_ex_e h140_).1 (sm_ex_e h140_).2.1).2.2.2.2.2.2.2.2.1) (la_assigned_63 (sm_ex_e h140_).2.2.2.2 (sm_PX_at h557_ r9 (sm_ex_e h140_).1 (sm_ex_e h140_).2.1).2.2.2.2.2.2.2.2.2.1))))
          have h593_ := (h591_ (la_assigned_23 h155_))
          have h594_ := (h592_ (la_assigned_64 (sm_ex_e h140_).2.1 h428_ h438_ h442_))
          have e595_ : g5 11 r9 = g5 11 (g69 12 (5 * r73 + 1)) := congrArg ((g5 11)) (la_assigned_55 h442_)
          have e596_ : g5 1100001 r9 = g5 1100001 (g69 12 (5 * r73 + 1)) := congrArg ((g5 1100001)) (la_assigned_55 h442_)
          have e597_ : g5 1100002 r9 = g5 1100002 (g69 12 (5 * r73 + 1)) := congrArg ((g5 1100002)) (la_assigned_55 h442_)
          have e598_ : g5 1100003 r9 = g5 1100003 (g69 12 (5 * r73 + 1)) := congrArg ((g5 1100003)) (la_assigned_55 h442_)
          have e599_ : g5 1100004 r9 = g5 1100004 (g69 12 (5 * r73 + 1)) := congrArg ((g5 1100004)) (la_assigned_55 h442_)
          have e600_ : g5 1100005 r9 = g5 1100005 (g69 12 (5 * r73 + 1)) := congrArg ((g5 1100005)) (la_assigned_55 h442_)
          have e601_ : g5 12 (5 * r9) = g5 12 (5 * g69 12 (5 * r73 + 1)) := congrArg ((g5 12)) (la_assigned_56 h442_)
          have e602_ : g5 12 (5 * r9 + 1) = g5 12 (5 * g69 12 (5 * r73 + 1) + 1) := congrArg ((g5 12)) (la_assigned_57 h442_)
          have e603_ : g5 12 (5 * r9 + 2) = g5 12 (5 * g69 12 (5 * r73 + 1) + 2) := congrArg ((g5 12)) (la_assigned_58 h442_)
          have e604_ : g5 12 (5 * r9 + 3) = g5 12 (5 * g69 12 (5 * r73 + 1) + 3) := congrArg ((g5 12)) (la_assigned_59 h442_)
          have e605_ : g5 12 (5 * r9 + 4) = g5 12 (5 * g69 12 (5 * r73 + 1) + 4) := congrArg ((g5 12)) (la_assigned_60 h442_)
          have e606_ : g5 13 r9 = g5 13 (g69 12 (5 * r73 + 1)) := congrArg ((g5 13)) (la_assigned_55 h442_)
          have e607_ : g62 11 r9 = g62 11 (g69 12 (5 * r73 + 1)) := congrArg ((g62 11)) (la_assigned_55 h442_)
          have e608_ : g62 1100001 r9 = g62 1100001 (g69 12 (5 * r73 + 1)) := congrArg ((g62 1100001)) (la_assigned_55 h442_)
          have e609_ : g62 1100002 r9 = g62 1100002 (g69 12 (5 * r73 + 1)) := congrArg ((g62 1100002)) (la_assigned_55 h442_)
          have e610_ : g62 1100003 r9 = g62 1100003 (g69 12 (5 * r73 + 1)) := congrArg ((g62 1100003)) (la_assigned_55 h442_)
          have e611_ : g62 1100004 r9 = g62 1100004 (g69 12 (5 * r73 + 1)) := congrArg ((g62 1100004)) (la_assigned_55 h442_)
          have e612_ : g62 1100005 r9 = g62 1100005 (g69 12 (5 * r73 + 1)) := congrArg ((g62 1100005)) (la_assigned_55 h442_)
          have e613_ : g62 12 (5 * r9) = g62 12 (5 * g69 12 (5 * r73 + 1)) := congrArg ((g62 12)) (la_assigned_56 h442_)
          have e614_ : g62 12 (5 * r9 + 1) = g62 12 (5 * g69 12 (5 * r73 + 1) + 1) := congrArg ((g62 12)) (la_assigned_57 h442_)
          have e615_ : g62 12 (5 * r9 + 2) = g62 12 (5 * g69 12 (5 * r73 + 1) + 2) := congrArg ((g62 12)) (la_assigned_58 h442_)
          have e616_ : g62 12 (5 * r9 + 3) = g62 12 (5 * g69 12 (5 * r73 + 1) + 3) := congrArg ((g62 12)) (la_assigned_59 h442_)
          have e617_ : g62 12 (5 * r9 + 4) = g62 12 (5 * g69 12 (5 * r73 + 1) + 4) := congrArg ((g62 12)) (la_assigned_60 h442_)
          have e618_ : g62 13 r9 = g62 13 (g69 12 (5 * r73 + 1)) := congrArg ((g62 13)) (la_assigned_55 h442_)
          have e619_ : g69 11 r9 = g69 11 (g69 12 (5 * r73 + 1)) := congrArg ((g69 11)) (la_assigned_55 h442_)
          have e620_ : g69 13 r9 = g69 13 (g69 12 (5 * r73 + 1)) := congrArg ((g69 13)) (la_assigned_55 h442_)
          exact ((la_assigned_86 h440_ h587_)).elim
        intro h621_
        refine ⟨?_, ?_⟩
        · skip
          have h622_ := (h448_ r73)
          have h623_ := ((sm_TK_go h6_ (g5 1020 0) (la_assigned_21 h4_ h138_) h91_) (la_assigned_22 h155_))
          have h624_ := ((sm_TK_go h6_ (S 1020 0) h4_ h5_) h139_)
          have h625_ := (h623_ (la_assigned_23 h155_))
          exact ((la_assigned_87 h118_ h621_)).elim
        have h626_ := (h448_ r73)
        have h627_ := ((sm_TK_go h6_ (g5 1020 0) (la_assigned_21 h4_ h138_) h91_) (la_assigned_22 h155_))
        have h628_ := ((sm_TK_go h6_ (S 1020 0) h4_ h5_) h139_)
        have h629_ := (h627_ (la_assigned_23 h155_))
        exact ((la_assigned_87 h118_ h621_)).elim
      intro h630_
      have h631_ := (h157_.resolve_right (la_assigned_91 h630_))
      refine ⟨(la_assigned_92 h4_ (sm_TK_t h6_).2 h91_ h92_ h138_), ?_⟩
      intro r94
      intro h632_
      intro g90
      rintro ⟨h633_, ⟨h634_, h635_⟩⟩
      refine ⟨h90_, ?_⟩
      refine ⟨h91_, ?_⟩
      refine ⟨(la_assigned_93 h634_), ?_⟩
      refine ⟨(la_assigned_40 h118_), ?_⟩
      refine ⟨h94_, ?_⟩
      refine ⟨h95_, ?_⟩
      refine ⟨h96_, ?_⟩
      refine ⟨h97_, ?_⟩
      refine ⟨?_, ?_⟩
      · skip
        intro h636_
        refine ⟨h125_, ?_⟩
        refine ⟨h126_, ?_⟩
        refine ⟨h127_, ?_⟩
        refine ⟨h128_, ?_⟩
        refine ⟨h129_, ?_⟩
        refine ⟨h130_, ?_⟩
        refine ⟨h131_, ?_⟩
        refine ⟨h132_, ?_⟩
        refine ⟨h133_, ?_⟩
        refine ⟨h134_, ?_⟩
        refine ⟨h135_, ?_⟩
        refine ⟨h136_, ?_⟩
        exact h137_
      refine ⟨h99_, ?_⟩
      refine ⟨h100_, ?_⟩
      refine ⟨h101_, ?_⟩
      refine ⟨h102_, ?_⟩
      refine ⟨h103_, ?_⟩
      refine ⟨h104_, ?_⟩
      refine ⟨h105_, ?_⟩
      refine ⟨h106_, ?_⟩
      refine ⟨h107_, ?_⟩
      refine ⟨h108_, ?_⟩
      refine ⟨h109_, ?_⟩
      refine ⟨(la_assigned_94 h119_ h634_), ?_⟩
      refine ⟨(la_assigned_95 h120_ e142_ h145_), ?_⟩
      refine ⟨la_assigned_96, ?_⟩
      refine ⟨la_assigned_97, ?_⟩
      refine ⟨?_, ?_⟩
      · skip
        intro h637_
        refine ⟨h138_, ?_⟩
        refine ⟨h139_, ?_⟩
        refine ⟨?_, ?_⟩
        · skip
          have h638_ := ((sm_TK_go h6_ (g5 1020 0) (la_assigned_21 h4_ h138_) h91_) (la_assigned_22 h155_))
          have h639_ := ((sm_TK_go h6_ (S 1020 0) h4_ h5_) h139_)
          have h640_ := (h638_ (la_assigned_23 h155_))
          exact ((la_assigned_98 h634_ h637_)).elim
        intro h641_
        have h642_ := ((sm_TK_go h6_ (g5 1020 0) (la_assigned_21 h4_ h138_) h91_) (la_assigned_22 h155_))
        have h643_ := ((sm_TK_go h6_ (S 1020 0) h4_ h5_) h139_)
        have h644_ := (h642_ (la_assigned_23 h155_))
        exact ((la_assigned_98 h634_ h637_)).elim
      intro h645_
      refine ⟨?_, ?_⟩
      · skip
        have h646_ := ((sm_TK_go h6_ (g5 1020 0) (la_assigned_21 h4_ h138_) h91_) (la_assigned_22 h155_))
        have h647_ := ((sm_TK_go h6_ (S 1020 0) h4_ h5_) h139_)
        have h648_ := (h646_ (la_assigned_23 h155_))
        exact ((la_assigned_87 h118_ h645_)).elim
      have h649_ := ((sm_TK_go h6_ (g5 1020 0) (la_assigned_21 h4_ h138_) h91_) (la_assigned_22 h155_))
      have h650_ := ((sm_TK_go h6_ (S 1020 0) h4_ h5_) h139_)
      have h651_ := (h649_ (la_assigned_23 h155_))
      exact ((la_assigned_87 h118_ h645_)).elim
    intro h652_
    have h653_ := (h152_.resolve_right (la_assigned_99 h652_))
    refine ⟨h90_, ?_⟩
    refine ⟨h91_, ?_⟩
    refine ⟨h92_, ?_⟩
    refine ⟨h93_, ?_⟩
    refine ⟨h94_, ?_⟩
    refine ⟨h95_, ?_⟩
    refine ⟨h96_, ?_⟩
    refine ⟨h97_, ?_⟩
    refine ⟨h98_, ?_⟩
    refine ⟨h99_, ?_⟩
    refine ⟨h100_, ?_⟩
    refine ⟨h101_, ?_⟩
    refine ⟨h102_, ?_⟩
    refine ⟨h103_, ?_⟩
    refine ⟨h104_, ?_⟩
    refine ⟨h105_, ?_⟩
    refine ⟨h106_, ?_⟩
    refine ⟨h107_, ?_⟩
    refine ⟨h108_, ?_⟩
    refine ⟨h109_, ?_⟩
    refine ⟨h110_, ?_⟩
    refine ⟨(la_assigned_100 h117_), ?_⟩
    refine ⟨h112_, ?_⟩
    refine ⟨h113_, ?_⟩
    refine ⟨h114_, ?_⟩
    intro h654_
    refine ⟨?_, ?_⟩
    · skip
      have h655_ := ((sm_TK_go h6_ (S 1020 0) h4_ h5_) h139_)
      exact ((la_assigned_87 h118_ h654_)).elim
    have h656_ := ((sm_TK_go h6_ (S 1020 0) h4_ h5_) h139_)
    exact ((la_assigned_87 h118_ h654_)).elim
  intro h657_
  have h658_ := (h111_ (la_assigned_102 h657_))
  refine ⟨h90_, ?_⟩
  refine ⟨h91_, ?_⟩
  refine ⟨h92_, ?_⟩
  refine ⟨h93_, ?_⟩
  refine ⟨h94_, ?_⟩
  refine ⟨h95_, ?_⟩
  refine ⟨h96_, ?_⟩
  refine ⟨h97_, ?_⟩
  refine ⟨h98_, ?_⟩
  refine ⟨h99_, ?_⟩
  refine ⟨h100_, ?_⟩
  refine ⟨h101_, ?_⟩
  refine ⟨h102_, ?_⟩
  refine ⟨h103_, ?_⟩
  refine ⟨h104_, ?_⟩
  refine ⟨h105_, ?_⟩
  refine ⟨h106_, ?_⟩
  refine ⟨h107_, ?_⟩
  refine ⟨h108_, ?_⟩
  refine ⟨h109_, ?_⟩
  refine ⟨h110_, ?_⟩
  refine ⟨?_, ?_⟩
  · skip
    intro h659_
    by_cases c660_ : 0 < S 1021 0
    · skip
      have e661_ : (if 0 < S 1021 0 then 12 else 30 * (20 - S 1023 0) + 25 : Int) = 12 := if_pos c660_
      have e662_ : (if 0 < S 1021 0 then 11 else 30 * (20 - S 1023 0) + 24 : Int) = 11 := if_pos c660_
      have h663_ := (h93_ c660_)
      obtain ⟨h664_, h665_⟩ := (h115_ c660_)
      exact (la_assigned_103 e661_ h664_ h665_)
    · skip
      have e666_ : (if 0 < S 1021 0 then 12 else 30 * (20 - S 1023 0) + 25 : Int) = 30 * (20 - S 1023 0) + 25 := if_neg c660_
      have e667_ : (if 0 < S 1021 0 then 11 else 30 * (20 - S 1023 0) + 24 : Int) = 30 * (20 - S 1023 0) + 24 := if_neg c660_
      obtain ⟨h668_, ⟨h669_, ⟨h670_, ⟨h671_, ⟨h672_, h673_⟩⟩⟩⟩⟩ := (h27_ (la_assigned_3 h7_ c660_))
      obtain ⟨h674_, ⟨h675_, ⟨h676_, h677_⟩⟩⟩ := (h13_ (la_assigned_3 h7_ c660_))
      exact (la_assigned_104 h658_ e666_ e667_)
  refine ⟨la_assigned_96, ?_⟩
  refine ⟨la_assigned_97, ?_⟩
  refine ⟨?_, ?_⟩
  · skip
    intro h678_
    have e679_ : (if 0 < S 1021 0 then 12 else 30 * (20 - S 1023 0) + 25 : Int) = 12 := if_pos (la_assigned_105 h657_ h678_)
    have e680_ : (if 0 < S 1021 0 then 11 else 30 * (20 - S 1023 0) + 24 : Int) = 11 := if_pos (la_assigned_105 h657_ h678_)
    obtain ⟨h681_, ⟨h682_, ⟨h683_, ⟨h684_, ⟨h685_, h686_⟩⟩⟩⟩⟩ := (h27_ (la_assigned_106 h657_ h678_))
    have h687_ := (h93_ (la_assigned_105 h657_ h678_))
    refine ⟨?_, ?_⟩
    · skip
      exact ((la_assigned_107 h678_ h687_)).elim
    refine ⟨?_, ?_⟩
    · skip
      exact ((la_assigned_107 h678_ h687_)).elim
    refine ⟨?_, ?_⟩
    · skip
      exact ((la_assigned_107 h678_ h687_)).elim
    intro h688_
    exact ((la_assigned_107 h678_ h687_)).elim
  intro h689_
  have e690_ : (if 0 < S 1021 0 then 12 else 30 * (20 - S 1023 0) + 25 : Int) = 12 := if_pos h689_
  have e691_ : (if 0 < S 1021 0 then 11 else 30 * (20 - S 1023 0) + 24 : Int) = 11 := if_pos h689_
  have h692_ := (h93_ h689_)
  obtain ⟨h693_, h694_⟩ := (h115_ h689_)
  refine ⟨h693_, ?_⟩
  exact h694_
set_option maxRecDepth 8000 in
set_option maxHeartbeats 2000000 in
theorem s_assigned (d : Int) (h0 : 0 ≤ d) (IH : ∀ d' : Int, 0 ≤ d' → d' < d → P_P d') : T_assigned d := by
  intro p1 S hok hp1 hpre hd
  have h := f_assigned d p1 S hok hp1 hpre hd
  have hM := sm_h47
  show sv_T sm_XS sm_cs sm_L sm_sh ((if 0 < (S 1021 0) then 12 else 30 * (20 - (S 1023 0)) + 25)).toNat (q_assigned p1 S) 47 0 [(0, .ref 0), (1, sv_I p1)] [] S
  refine sv_aload_n hM dX12_assigned_0 rfl rfl ?_
  refine sv_iload_n hM dX12_assigned_1 rfl rfl ?_
  obtain ⟨o1, h⟩ := h
  obtain ⟨o2, h⟩ := h
  obtain ⟨o3, h⟩ := h
  obtain ⟨o4, h⟩ := h
  refine sv_callV hM dX12_assigned_2 sm_iv_457 (by decide) (sm_a0 _) rfl rfl (Nat.le_of_ble_eq_true rfl) sm_h48 (Nat.le_of_ble_eq_true rfl) (Nat.le_of_ble_eq_true rfl) (F' := (((if 0 < (S 1021 0) then 11 else 30 * (20 - (S 1023 0)) + 24))).toNat) (sv_Fe o4) rfl ((IH ((if 0 < (S 1021 0) then 11 else 30 * (20 - (S 1023 0)) + 24)) o3.1 o3.2).2.2.2.1 p1 S hok o1 o2 rfl) (fun v S1 hq => ?_)
  obtain ⟨r9, rfl, hr9, ok6, md7, hpo8⟩ := hq
  obtain ⟨g5, rfl⟩ : ∃ g, S1 = sv_sts S [1020, 1021, 1022, 1023, 5, 1011, 3, 4, 1007, 1009, 11, 12, 13, 14, 1024, 15, 16, 1031, 1032, 17, 18, 19, 20, 21, 22, 23, 24, 25, 1042, 1043, 1044, 1045, 1100001, 1100002, 1100005, 1100003, 1100004, 1100018, 1100019, 1100016] g := ⟨_, md7.eq⟩
  show sv_T sm_XS sm_cs sm_L sm_sh ((if 0 < (S 1021 0) then 12 else 30 * (20 - (S 1023 0)) + 25)).toNat (q_assigned p1 S) 47 5 [(0, .ref 0), (1, sv_I p1)] [sv_I r9] (sv_sts S [1020, 1021, 1022, 1023, 5, 1011, 3, 4, 1007, 1009, 11, 12, 13, 14, 1024, 15, 16, 1031, 1032, 17, 18, 19, 20, 21, 22, 23, 24, 25, 1042, 1043, 1044, 1045, 1100001, 1100002, 1100005, 1100003, 1100004, 1100018, 1100019, 1100016] g5)
  have md10 : sv_mod [1020, 1021, 1022, 1023, 5, 1011, 3, 4, 1007, 1009, 11, 12, 13, 14, 1024, 15, 16, 1031, 1032, 17, 18, 19, 20, 21, 22, 23, 24, 25, 1042, 1043, 1044, 1045, 1100001, 1100002, 1100005, 1100003, 1100004, 1100018, 1100019, 1100016] S (sv_sts S [1020, 1021, 1022, 1023, 5, 1011, 3, 4, 1007, 1009, 11, 12, 13, 14, 1024, 15, 16, 1031, 1032, 17, 18, 19, 20, 21, 22, 23, 24, 25, 1042, 1043, 1044, 1045, 1100001, 1100002, 1100005, 1100003, 1100004, 1100018, 1100019, 1100016] g5) := sv_mod.sts sv_mod.rf (by decide)
  have h := h r9 hr9 g5 hpo8
  refine sv_istore_n hM dX12_assigned_5 (by decide) rfl ?_
  show sv_T sm_XS sm_cs sm_L sm_sh ((if 0 < (S 1021 0) then 12 else 30 * (20 - (S 1023 0)) + 25)).toNat (q_assigned p1 S) 47 6 [(0, .ref 0), (1, sv_I p1), (2, sv_I r9)] [] (sv_sts S [1020, 1021, 1022, 1023, 5, 1011, 3, 4, 1007, 1009, 11, 12, 13, 14, 1024, 15, 16, 1031, 1032, 17, 18, 19, 20, 21, 22, 23, 24, 25, 1042, 1043, 1044, 1045, 1100001, 1100002, 1100005, 1100003, 1100004, 1100018, 1100019, 1100016] g5)
  refine sv_aload_n hM dX12_assigned_6 rfl rfl ?_
  have k11 : sv_R (g5 1021 0) := sm_okI ok6 sm_r1021 0
  have h := h k11
  refine sv_getI hM dX12_assigned_7 sm_fl_389 (sm_a0 _) sm_k21 rfl (x := (g5 1021 0)) rfl ?_
  refine sv_cond_le hM dX12_assigned_10 k11 (t := 15) rfl rfl (fun hc => ?_) (fun hc => ?_)
  · have h := h.1 (hc)
    refine sv_aload_n hM dX12_assigned_15 rfl rfl ?_
    obtain ⟨o12, h⟩ := h
    obtain ⟨o13, h⟩ := h
    refine sv_callV hM dX12_assigned_16 sm_iv_460 (by decide) (sm_a0 _) rfl rfl (Nat.le_of_ble_eq_true rfl) sm_h45 (Nat.le_of_ble_eq_true rfl) (Nat.le_of_ble_eq_true rfl) (F' := 0) (sv_Fn (n := 0) o13) rfl (t_settingOf  (sv_sts S [1020, 1021, 1022, 1023, 5, 1011, 3, 4, 1007, 1009, 11, 12, 13, 14, 1024, 15, 16, 1031, 1032, 17, 18, 19, 20, 21, 22, 23, 24, 25, 1042, 1043, 1044, 1045, 1100001, 1100002, 1100005, 1100003, 1100004, 1100018, 1100019, 1100016] g5) ok6 o12) (fun v S1 hq => ?_)
    obtain ⟨r18, rfl, hr18, ok15, md16, hpo17⟩ := hq
    obtain rfl : (sv_sts S [1020, 1021, 1022, 1023, 5, 1011, 3, 4, 1007, 1009, 11, 12, 13, 14, 1024, 15, 16, 1031, 1032, 17, 18, 19, 20, 21, 22, 23, 24, 25, 1042, 1043, 1044, 1045, 1100001, 1100002, 1100005, 1100003, 1100004, 1100018, 1100019, 1100016] g5) = S1 := (funext fun j => md16 j (by intro q; cases q)).symm
    show sv_T sm_XS sm_cs sm_L sm_sh ((if 0 < (S 1021 0) then 12 else 30 * (20 - (S 1023 0)) + 25)).toNat (q_assigned p1 S) 47 19 [(0, .ref 0), (1, sv_I p1), (2, sv_I r9)] [sv_I r18] (sv_sts S [1020, 1021, 1022, 1023, 5, 1011, 3, 4, 1007, 1009, 11, 12, 13, 14, 1024, 15, 16, 1031, 1032, 17, 18, 19, 20, 21, 22, 23, 24, 25, 1042, 1043, 1044, 1045, 1100001, 1100002, 1100005, 1100003, 1100004, 1100018, 1100019, 1100016] g5)
    have h := h r18 hr18 hpo17
    refine sv_istore_n hM dX12_assigned_19 (by decide) rfl ?_
    show sv_T sm_XS sm_cs sm_L sm_sh ((if 0 < (S 1021 0) then 12 else 30 * (20 - (S 1023 0)) + 25)).toNat (q_assigned p1 S) 47 20 [(0, .ref 0), (1, sv_I p1), (2, sv_I r9), (3, sv_I r18)] [] (sv_sts S [1020, 1021, 1022, 1023, 5, 1011, 3, 4, 1007, 1009, 11, 12, 13, 14, 1024, 15, 16, 1031, 1032, 17, 18, 19, 20, 21, 22, 23, 24, 25, 1042, 1043, 1044, 1045, 1100001, 1100002, 1100005, 1100003, 1100004, 1100018, 1100019, 1100016] g5)
    refine sv_iload_n hM dX12_assigned_20 rfl rfl ?_
    refine sv_iconst (d := (-1 : Int)) hM dX12_assigned_21 rfl rfl ?_
    refine sv_icmp_ne hM dX12_assigned_22 hr18 (⟨by decide, by decide⟩ : sv_R (-1 : Int)) (t := 27) rfl rfl (fun hc => ?_) (fun hc => ?_)
    · have h := h.1 (hc)
      refine sv_aload_n hM dX12_assigned_27 rfl rfl ?_
      refine sv_iload_n hM dX12_assigned_28 rfl rfl ?_
      obtain ⟨o19, h⟩ := h
      refine sv_callV hM dX12_assigned_29 sm_iv_463 (by decide) (sm_a0 _) rfl rfl (Nat.le_of_ble_eq_true rfl) sm_h44 (Nat.le_of_ble_eq_true rfl) (Nat.le_of_ble_eq_true rfl) (F' := 0) (sv_Fn (n := 0) o13) rfl (t_isTarget r9 (sv_sts S [1020, 1021, 1022, 1023, 5, 1011, 3, 4, 1007, 1009, 11, 12, 13, 14, 1024, 15, 16, 1031, 1032, 17, 18, 19, 20, 21, 22, 23, 24, 25, 1042, 1043, 1044, 1045, 1100001, 1100002, 1100005, 1100003, 1100004, 1100018, 1100019, 1100016] g5) ok15 hr9 o19) (fun v S1 hq => ?_)
      obtain ⟨r24, rfl, hr24, ok21, md22, hpo23⟩ := hq
      obtain rfl : (sv_sts S [1020, 1021, 1022, 1023, 5, 1011, 3, 4, 1007, 1009, 11, 12, 13, 14, 1024, 15, 16, 1031, 1032, 17, 18, 19, 20, 21, 22, 23, 24, 25, 1042, 1043, 1044, 1045, 1100001, 1100002, 1100005, 1100003, 1100004, 1100018, 1100019, 1100016] g5) = S1 := (funext fun j => md22 j (by intro q; cases q)).symm
      show sv_T sm_XS sm_cs sm_L sm_sh ((if 0 < (S 1021 0) then 12 else 30 * (20 - (S 1023 0)) + 25)).toNat (q_assigned p1 S) 47 32 [(0, .ref 0), (1, sv_I p1), (2, sv_I r9), (3, sv_I r18)] [sv_I r24] (sv_sts S [1020, 1021, 1022, 1023, 5, 1011, 3, 4, 1007, 1009, 11, 12, 13, 14, 1024, 15, 16, 1031, 1032, 17, 18, 19, 20, 21, 22, 23, 24, 25, 1042, 1043, 1044, 1045, 1100001, 1100002, 1100005, 1100003, 1100004, 1100018, 1100019, 1100016] g5)
      have h := h r24 hr24 hpo23
      refine sv_cond_ne hM dX12_assigned_32 hr24 (t := 43) rfl rfl (fun hc => ?_) (fun hc => ?_)
      · have h := h.1 (hc)
        refine sv_aload_n hM dX12_assigned_43 rfl rfl ?_
        refine sv_dupA hM dX12_assigned_44 rfl ?_
        have k25 : sv_R (g5 1020 0) := sm_okI ok21 sm_r1020 0
        have h := h k25
        refine sv_getI hM dX12_assigned_45 sm_fl_392 (sm_a0 _) sm_k20 rfl (x := (g5 1020 0)) rfl ?_
        refine sv_iconst (d := (1 : Int)) hM dX12_assigned_48 rfl rfl ?_
        refine sv_iadd hM dX12_assigned_49 rfl ?_
        obtain ⟨o26, h⟩ := h
        refine sv_putI sm_X hM dX12_assigned_50 sm_fp_392 (sm_a0 _) sm_q20 (Or.inl rfl) rfl rfl rfl rfl ?_
        have ok27 : sm_ok (sv_up (sv_sts S [1020, 1021, 1022, 1023, 5, 1011, 3, 4, 1007, 1009, 11, 12, 13, 14, 1024, 15, 16, 1031, 1032, 17, 18, 19, 20, 21, 22, 23, 24, 25, 1042, 1043, 1044, 1045, 1100001, 1100002, 1100005, 1100003, 1100004, 1100018, 1100019, 1100016] g5) 1020 0 ((g5 1020 0) + (1 : Int))) := sm_upI ok21 sm_r1020 o26
        have md28 : sv_mod [1020, 1021, 1022, 1023, 5, 1011, 3, 4, 1007, 1009, 11, 12, 13, 14, 1024, 15, 16, 1031, 1032, 17, 18, 19, 20, 21, 22, 23, 24, 25, 1042, 1043, 1044, 1045, 1100001, 1100002, 1100005, 1100003, 1100004, 1100018, 1100019, 1100016] S (sv_up (sv_sts S [1020, 1021, 1022, 1023, 5, 1011, 3, 4, 1007, 1009, 11, 12, 13, 14, 1024, 15, 16, 1031, 1032, 17, 18, 19, 20, 21, 22, 23, 24, 25, 1042, 1043, 1044, 1045, 1100001, 1100002, 1100005, 1100003, 1100004, 1100018, 1100019, 1100016] g5) 1020 0 ((g5 1020 0) + (1 : Int))) := sv_mod.up md10 (by decide)
        refine sv_aload_n hM dX12_assigned_53 rfl rfl ?_
        refine sv_bipush (d := (15 : Int)) hM dX12_assigned_54 rfl rfl ?_
        refine sv_iload_n hM dX12_assigned_56 rfl rfl ?_
        refine sv_bipush (d := (99 : Int)) hM dX12_assigned_57 rfl rfl ?_
        refine sv_icmp_ne hM dX12_assigned_59 hr18 (⟨by decide, by decide⟩ : sv_R (99 : Int)) (t := 66) rfl rfl (fun hc => ?_) (fun hc => ?_)
        · have h := h.1 (hc)
          refine sv_iload_n hM dX12_assigned_66 rfl rfl ?_
          refine sv_iload_n hM dX12_assigned_67 rfl rfl ?_
          refine sv_aload_n hM dX12_assigned_68 rfl rfl ?_
          refine sv_iload_n hM dX12_assigned_69 rfl rfl ?_
          obtain ⟨o29, h⟩ := h
          obtain ⟨o30, h⟩ := h
          obtain ⟨o31, h⟩ := h
          refine sv_callV hM dX12_assigned_70 sm_iv_466 (by decide) (sm_a0 _) rfl rfl (Nat.le_of_ble_eq_true rfl) sm_h46 (Nat.le_of_ble_eq_true rfl) (Nat.le_of_ble_eq_true rfl) (F' := ((30 * (20 - (g5 1023 0)) + 14)).toNat) (sv_Fe o31) rfl ((IH (30 * (20 - (g5 1023 0)) + 14) o30.1 o30.2).2.1 p1 (sv_up (sv_sts S [1020, 1021, 1022, 1023, 5, 1011, 3, 4, 1007, 1009, 11, 12, 13, 14, 1024, 15, 16, 1031, 1032, 17, 18, 19, 20, 21, 22, 23, 24, 25, 1042, 1043, 1044, 1045, 1100001, 1100002, 1100005, 1100003, 1100004, 1100018, 1100019, 1100016] g5) 1020 0 ((g5 1020 0) + (1 : Int))) ok27 o1 o29 rfl) (fun v S1 hq => ?_)
          obtain ⟨r36, rfl, hr36, ok33, md34, hpo35⟩ := hq
          obtain ⟨g32, rfl⟩ : ∃ g, S1 = sv_sts (sv_up (sv_sts S [1020, 1021, 1022, 1023, 5, 1011, 3, 4, 1007, 1009, 11, 12, 13, 14, 1024, 15, 16, 1031, 1032, 17, 18, 19, 20, 21, 22, 23, 24, 25, 1042, 1043, 1044, 1045, 1100001, 1100002, 1100005, 1100003, 1100004, 1100018, 1100019, 1100016] g5) 1020 0 ((g5 1020 0) + (1 : Int))) [1020, 1021, 1022, 1023, 5, 1011, 3, 4, 1007, 1009, 11, 12, 13, 14, 1024, 15, 16, 1031, 1032, 17, 18, 19, 20, 21, 22, 23, 24, 25, 1042, 1043, 1044, 1045, 1100001, 1100002, 1100005, 1100003, 1100004, 1100018, 1100019, 1100016] g := ⟨_, md34.eq⟩
          show sv_T sm_XS sm_cs sm_L sm_sh ((if 0 < (S 1021 0) then 12 else 30 * (20 - (S 1023 0)) + 25)).toNat (q_assigned p1 S) 47 73 [(0, .ref 0), (1, sv_I p1), (2, sv_I r9), (3, sv_I r18)] [sv_I r36, sv_I r9, sv_I r18, sv_I (15 : Int), .ref 0] (sv_sts (sv_up (sv_sts S [1020, 1021, 1022, 1023, 5, 1011, 3, 4, 1007, 1009, 11, 12, 13, 14, 1024, 15, 16, 1031, 1032, 17, 18, 19, 20, 21, 22, 23, 24, 25, 1042, 1043, 1044, 1045, 1100001, 1100002, 1100005, 1100003, 1100004, 1100018, 1100019, 1100016] g5) 1020 0 ((g5 1020 0) + (1 : Int))) [1020, 1021, 1022, 1023, 5, 1011, 3, 4, 1007, 1009, 11, 12, 13, 14, 1024, 15, 16, 1031, 1032, 17, 18, 19, 20, 21, 22, 23, 24, 25, 1042, 1043, 1044, 1045, 1100001, 1100002, 1100005, 1100003, 1100004, 1100018, 1100019, 1100016] g32)
          have md37 : sv_mod [1020, 1021, 1022, 1023, 5, 1011, 3, 4, 1007, 1009, 11, 12, 13, 14, 1024, 15, 16, 1031, 1032, 17, 18, 19, 20, 21, 22, 23, 24, 25, 1042, 1043, 1044, 1045, 1100001, 1100002, 1100005, 1100003, 1100004, 1100018, 1100019, 1100016] S (sv_sts (sv_up (sv_sts S [1020, 1021, 1022, 1023, 5, 1011, 3, 4, 1007, 1009, 11, 12, 13, 14, 1024, 15, 16, 1031, 1032, 17, 18, 19, 20, 21, 22, 23, 24, 25, 1042, 1043, 1044, 1045, 1100001, 1100002, 1100005, 1100003, 1100004, 1100018, 1100019, 1100016] g5) 1020 0 ((g5 1020 0) + (1 : Int))) [1020, 1021, 1022, 1023, 5, 1011, 3, 4, 1007, 1009, 11, 12, 13, 14, 1024, 15, 16, 1031, 1032, 17, 18, 19, 20, 21, 22, 23, 24, 25, 1042, 1043, 1044, 1045, 1100001, 1100002, 1100005, 1100003, 1100004, 1100018, 1100019, 1100016] g32) := sv_mod.sts md28 (by decide)
          have h := h r36 hr36 g32 hpo35
          obtain ⟨o38, h⟩ := h
          refine sv_callV hM dX12_assigned_73 sm_iv_446 (by decide) (sm_a0 _) rfl rfl (Nat.le_of_ble_eq_true rfl) sm_h33 (Nat.le_of_ble_eq_true rfl) (Nat.le_of_ble_eq_true rfl) (F' := 0) (sv_Fn (n := 0) o13) rfl (t_node (15 : Int) r18 r9 r36 (sv_sts (sv_up (sv_sts S [1020, 1021, 1022, 1023, 5, 1011, 3, 4, 1007, 1009, 11, 12, 13, 14, 1024, 15, 16, 1031, 1032, 17, 18, 19, 20, 21, 22, 23, 24, 25, 1042, 1043, 1044, 1045, 1100001, 1100002, 1100005, 1100003, 1100004, 1100018, 1100019, 1100016] g5) 1020 0 ((g5 1020 0) + (1 : Int))) [1020, 1021, 1022, 1023, 5, 1011, 3, 4, 1007, 1009, 11, 12, 13, 14, 1024, 15, 16, 1031, 1032, 17, 18, 19, 20, 21, 22, 23, 24, 25, 1042, 1043, 1044, 1045, 1100001, 1100002, 1100005, 1100003, 1100004, 1100018, 1100019, 1100016] g32) ok33 (⟨by decide, by decide⟩ : sv_R (15 : Int)) hr18 hr9 hr36 o38) (fun v S1 hq => ?_)
          obtain ⟨r43, rfl, hr43, ok40, md41, hpo42⟩ := hq
          obtain ⟨g39, rfl⟩ : ∃ g, S1 = sv_sts (sv_sts (sv_up (sv_sts S [1020, 1021, 1022, 1023, 5, 1011, 3, 4, 1007, 1009, 11, 12, 13, 14, 1024, 15, 16, 1031, 1032, 17, 18, 19, 20, 21, 22, 23, 24, 25, 1042, 1043, 1044, 1045, 1100001, 1100002, 1100005, 1100003, 1100004, 1100018, 1100019, 1100016] g5) 1020 0 ((g5 1020 0) + (1 : Int))) [1020, 1021, 1022, 1023, 5, 1011, 3, 4, 1007, 1009, 11, 12, 13, 14, 1024, 15, 16, 1031, 1032, 17, 18, 19, 20, 21, 22, 23, 24, 25, 1042, 1043, 1044, 1045, 1100001, 1100002, 1100005, 1100003, 1100004, 1100018, 1100019, 1100016] g32) [1024, 11, 12, 13, 14, 1100019] g := ⟨_, md41.eq⟩
          show sv_T sm_XS sm_cs sm_L sm_sh ((if 0 < (S 1021 0) then 12 else 30 * (20 - (S 1023 0)) + 25)).toNat (q_assigned p1 S) 47 76 [(0, .ref 0), (1, sv_I p1), (2, sv_I r9), (3, sv_I r18)] [sv_I r43] (sv_sts (sv_sts (sv_up (sv_sts S [1020, 1021, 1022, 1023, 5, 1011, 3, 4, 1007, 1009, 11, 12, 13, 14, 1024, 15, 16, 1031, 1032, 17, 18, 19, 20, 21, 22, 23, 24, 25, 1042, 1043, 1044, 1045, 1100001, 1100002, 1100005, 1100003, 1100004, 1100018, 1100019, 1100016] g5) 1020 0 ((g5 1020 0) + (1 : Int))) [1020, 1021, 1022, 1023, 5, 1011, 3, 4, 1007, 1009, 11, 12, 13, 14, 1024, 15, 16, 1031, 1032, 17, 18, 19, 20, 21, 22, 23, 24, 25, 1042, 1043, 1044, 1045, 1100001, 1100002, 1100005, 1100003, 1100004, 1100018, 1100019, 1100016] g32) [1024, 11, 12, 13, 14, 1100019] g39)
          have md44 : sv_mod [1020, 1021, 1022, 1023, 5, 1011, 3, 4, 1007, 1009, 11, 12, 13, 14, 1024, 15, 16, 1031, 1032, 17, 18, 19, 20, 21, 22, 23, 24, 25, 1042, 1043, 1044, 1045, 1100001, 1100002, 1100005, 1100003, 1100004, 1100018, 1100019, 1100016] S (sv_sts (sv_sts (sv_up (sv_sts S [1020, 1021, 1022, 1023, 5, 1011, 3, 4, 1007, 1009, 11, 12, 13, 14, 1024, 15, 16, 1031, 1032, 17, 18, 19, 20, 21, 22, 23, 24, 25, 1042, 1043, 1044, 1045, 1100001, 1100002, 1100005, 1100003, 1100004, 1100018, 1100019, 1100016] g5) 1020 0 ((g5 1020 0) + (1 : Int))) [1020, 1021, 1022, 1023, 5, 1011, 3, 4, 1007, 1009, 11, 12, 13, 14, 1024, 15, 16, 1031, 1032, 17, 18, 19, 20, 21, 22, 23, 24, 25, 1042, 1043, 1044, 1045, 1100001, 1100002, 1100005, 1100003, 1100004, 1100018, 1100019, 1100016] g32) [1024, 11, 12, 13, 14, 1100019] g39) := sv_mod.sts md37 (by decide)
          have h := h r43 hr43 g39 hpo42
          refine sv_ghost sm_X 1100001 r43 (1 : Int) (by decide) ?_
          have ok45 : sm_ok (sv_up (sv_sts (sv_sts (sv_up (sv_sts S [1020, 1021, 1022, 1023, 5, 1011, 3, 4, 1007, 1009, 11, 12, 13, 14, 1024, 15, 16, 1031, 1032, 17, 18, 19, 20, 21, 22, 23, 24, 25, 1042, 1043, 1044, 1045, 1100001, 1100002, 1100005, 1100003, 1100004, 1100018, 1100019, 1100016] g5) 1020 0 ((g5 1020 0) + (1 : Int))) [1020, 1021, 1022, 1023, 5, 1011, 3, 4, 1007, 1009, 11, 12, 13, 14, 1024, 15, 16, 1031, 1032, 17, 18, 19, 20, 21, 22, 23, 24, 25, 1042, 1043, 1044, 1045, 1100001, 1100002, 1100005, 1100003, 1100004, 1100018, 1100019, 1100016] g32) [1024, 11, 12, 13, 14, 1100019] g39) 1100001 r43 (1 : Int)) := sm_upI ok40 sm_r1100001 (⟨by decide, by decide⟩ : sv_R (1 : Int))
          have md46 : sv_mod [1020, 1021, 1022, 1023, 5, 1011, 3, 4, 1007, 1009, 11, 12, 13, 14, 1024, 15, 16, 1031, 1032, 17, 18, 19, 20, 21, 22, 23, 24, 25, 1042, 1043, 1044, 1045, 1100001, 1100002, 1100005, 1100003, 1100004, 1100018, 1100019, 1100016] S (sv_up (sv_sts (sv_sts (sv_up (sv_sts S [1020, 1021, 1022, 1023, 5, 1011, 3, 4, 1007, 1009, 11, 12, 13, 14, 1024, 15, 16, 1031, 1032, 17, 18, 19, 20, 21, 22, 23, 24, 25, 1042, 1043, 1044, 1045, 1100001, 1100002, 1100005, 1100003, 1100004, 1100018, 1100019, 1100016] g5) 1020 0 ((g5 1020 0) + (1 : Int))) [1020, 1021, 1022, 1023, 5, 1011, 3, 4, 1007, 1009, 11, 12, 13, 14, 1024, 15, 16, 1031, 1032, 17, 18, 19, 20, 21, 22, 23, 24, 25, 1042, 1043, 1044, 1045, 1100001, 1100002, 1100005, 1100003, 1100004, 1100018, 1100019, 1100016] g32) [1024, 11, 12, 13, 14, 1100019] g39) 1100001 r43 (1 : Int)) := sv_mod.up md44 (by decide)
          obtain ⟨o47, h⟩ := h
          refine sv_ghost sm_X 1100002 r43 ((17 * (20 - (S 1023 0)) + 17)) (by decide) ?_
          have ok48 : sm_ok (sv_up (sv_up (sv_sts (sv_sts (sv_up (sv_sts S [1020, 1021, 1022, 1023, 5, 1011, 3, 4, 1007, 1009, 11, 12, 13, 14, 1024, 15, 16, 1031, 1032, 17, 18, 19, 20, 21, 22, 23, 24, 25, 1042, 1043, 1044, 1045, 1100001, 1100002, 1100005, 1100003, 1100004, 1100018, 1100019, 1100016] g5) 1020 0 ((g5 1020 0) + (1 : Int))) [1020, 1021, 1022, 1023, 5, 1011, 3, 4, 1007, 1009, 11, 12, 13, 14, 1024, 15, 16, 1031, 1032, 17, 18, 19, 20, 21, 22, 23, 24, 25, 1042, 1043, 1044, 1045, 1100001, 1100002, 1100005, 1100003, 1100004, 1100018, 1100019, 1100016] g32) [1024, 11, 12, 13, 14, 1100019] g39) 1100001 r43 (1 : Int)) 1100002 r43 ((17 * (20 - (S 1023 0)) + 17))) := sm_upI ok45 sm_r1100002 o47
          have md49 : sv_mod [1020, 1021, 1022, 1023, 5, 1011, 3, 4, 1007, 1009, 11, 12, 13, 14, 1024, 15, 16, 1031, 1032, 17, 18, 19, 20, 21, 22, 23, 24, 25, 1042, 1043, 1044, 1045, 1100001, 1100002, 1100005, 1100003, 1100004, 1100018, 1100019, 1100016] S (sv_up (sv_up (sv_sts (sv_sts (sv_up (sv_sts S [1020, 1021, 1022, 1023, 5, 1011, 3, 4, 1007, 1009, 11, 12, 13, 14, 1024, 15, 16, 1031, 1032, 17, 18, 19, 20, 21, 22, 23, 24, 25, 1042, 1043, 1044, 1045, 1100001, 1100002, 1100005, 1100003, 1100004, 1100018, 1100019, 1100016] g5) 1020 0 ((g5 1020 0) + (1 : Int))) [1020, 1021, 1022, 1023, 5, 1011, 3, 4, 1007, 1009, 11, 12, 13, 14, 1024, 15, 16, 1031, 1032, 17, 18, 19, 20, 21, 22, 23, 24, 25, 1042, 1043, 1044, 1045, 1100001, 1100002, 1100005, 1100003, 1100004, 1100018, 1100019, 1100016] g32) [1024, 11, 12, 13, 14, 1100019] g39) 1100001 r43 (1 : Int)) 1100002 r43 ((17 * (20 - (S 1023 0)) + 17))) := sv_mod.up md46 (by decide)
          obtain ⟨o50, h⟩ := h
          refine sv_ghost sm_X 1100005 r43 ((20 - (S 1023 0))) (by decide) ?_
          have ok51 : sm_ok (sv_up (sv_up (sv_up (sv_sts (sv_sts (sv_up (sv_sts S [1020, 1021, 1022, 1023, 5, 1011, 3, 4, 1007, 1009, 11, 12, 13, 14, 1024, 15, 16, 1031, 1032, 17, 18, 19, 20, 21, 22, 23, 24, 25, 1042, 1043, 1044, 1045, 1100001, 1100002, 1100005, 1100003, 1100004, 1100018, 1100019, 1100016] g5) 1020 0 ((g5 1020 0) + (1 : Int))) [1020, 1021, 1022, 1023, 5, 1011, 3, 4, 1007, 1009, 11, 12, 13, 14, 1024, 15, 16, 1031, 1032, 17, 18, 19, 20, 21, 22, 23, 24, 25, 1042, 1043, 1044, 1045, 1100001, 1100002, 1100005, 1100003, 1100004, 1100018, 1100019, 1100016] g32) [1024, 11, 12, 13, 14, 1100019] g39) 1100001 r43 (1 : Int)) 1100002 r43 ((17 * (20 - (S 1023 0)) + 17))) 1100005 r43 ((20 - (S 1023 0)))) := sm_upI ok48 sm_r1100005 o50
          have md52 : sv_mod [1020, 1021, 1022, 1023, 5, 1011, 3, 4, 1007, 1009, 11, 12, 13, 14, 1024, 15, 16, 1031, 1032, 17, 18, 19, 20, 21, 22, 23, 24, 25, 1042, 1043, 1044, 1045, 1100001, 1100002, 1100005, 1100003, 1100004, 1100018, 1100019, 1100016] S (sv_up (sv_up (sv_up (sv_sts (sv_sts (sv_up (sv_sts S [1020, 1021, 1022, 1023, 5, 1011, 3, 4, 1007, 1009, 11, 12, 13, 14, 1024, 15, 16, 1031, 1032, 17, 18, 19, 20, 21, 22, 23, 24, 25, 1042, 1043, 1044, 1045, 1100001, 1100002, 1100005, 1100003, 1100004, 1100018, 1100019, 1100016] g5) 1020 0 ((g5 1020 0) + (1 : Int))) [1020, 1021, 1022, 1023, 5, 1011, 3, 4, 1007, 1009, 11, 12, 13, 14, 1024, 15, 16, 1031, 1032, 17, 18, 19, 20, 21, 22, 23, 24, 25, 1042, 1043, 1044, 1045, 1100001, 1100002, 1100005, 1100003, 1100004, 1100018, 1100019, 1100016] g32) [1024, 11, 12, 13, 14, 1100019] g39) 1100001 r43 (1 : Int)) 1100002 r43 ((17 * (20 - (S 1023 0)) + 17))) 1100005 r43 ((20 - (S 1023 0)))) := sv_mod.up md49 (by decide)
          refine sv_ghost sm_X 1100003 r43 (0 : Int) (by decide) ?_
          have ok53 : sm_ok (sv_up (sv_up (sv_up (sv_up (sv_sts (sv_sts (sv_up (sv_sts S [1020, 1021, 1022, 1023, 5, 1011, 3, 4, 1007, 1009, 11, 12, 13, 14, 1024, 15, 16, 1031, 1032, 17, 18, 19, 20, 21, 22, 23, 24, 25, 1042, 1043, 1044, 1045, 1100001, 1100002, 1100005, 1100003, 1100004, 1100018, 1100019, 1100016] g5) 1020 0 ((g5 1020 0) + (1 : Int))) [1020, 1021, 1022, 1023, 5, 1011, 3, 4, 1007, 1009, 11, 12, 13, 14, 1024, 15, 16, 1031, 1032, 17, 18, 19, 20, 21, 22, 23, 24, 25, 1042, 1043, 1044, 1045, 1100001, 1100002, 1100005, 1100003, 1100004, 1100018, 1100019, 1100016] g32) [1024, 11, 12, 13, 14, 1100019] g39) 1100001 r43 (1 : Int)) 1100002 r43 ((17 * (20 - (S 1023 0)) + 17))) 1100005 r43 ((20 - (S 1023 0)))) 1100003 r43 (0 : Int)) := sm_upI ok51 sm_r1100003 (⟨by decide, by decide⟩ : sv_R (0 : Int))
          have md54 : sv_mod [1020, 1021, 1022, 1023, 5, 1011, 3, 4, 1007, 1009, 11, 12, 13, 14, 1024, 15, 16, 1031, 1032, 17, 18, 19, 20, 21, 22, 23, 24, 25, 1042, 1043, 1044, 1045, 1100001, 1100002, 1100005, 1100003, 1100004, 1100018, 1100019, 1100016] S (sv_up (sv_up (sv_up (sv_up (sv_sts (sv_sts (sv_up (sv_sts S [1020, 1021, 1022, 1023, 5, 1011, 3, 4, 1007, 1009, 11, 12, 13, 14, 1024, 15, 16, 1031, 1032, 17, 18, 19, 20, 21, 22, 23, 24, 25, 1042, 1043, 1044, 1045, 1100001, 1100002, 1100005, 1100003, 1100004, 1100018, 1100019, 1100016] g5) 1020 0 ((g5 1020 0) + (1 : Int))) [1020, 1021, 1022, 1023, 5, 1011, 3, 4, 1007, 1009, 11, 12, 13, 14, 1024, 15, 16, 1031, 1032, 17, 18, 19, 20, 21, 22, 23, 24, 25, 1042, 1043, 1044, 1045, 1100001, 1100002, 1100005, 1100003, 1100004, 1100018, 1100019, 1100016] g32) [1024, 11, 12, 13, 14, 1100019] g39) 1100001 r43 (1 : Int)) 1100002 r43 ((17 * (20 - (S 1023 0)) + 17))) 1100005 r43 ((20 - (S 1023 0)))) 1100003 r43 (0 : Int)) := sv_mod.up md52 (by decide)
          refine sv_ghost sm_X 1100004 r43 (0 : Int) (by decide) ?_
          have ok55 : sm_ok (sv_up (sv_up (sv_up (sv_up (sv_up (sv_sts (sv_sts (sv_up (sv_sts S [1020, 1021, 1022, 1023, 5, 1011, 3, 4, 1007, 1009, 11, 12, 13, 14, 1024, 15, 16, 1031, 1032, 17, 18, 19, 20, 21, 22, 23, 24, 25, 1042, 1043, 1044, 1045, 1100001, 1100002, 1100005, 1100003, 1100004, 1100018, 1100019, 1100016] g5) 1020 0 ((g5 1020 0) + (1 : Int))) [1020, 1021, 1022, 1023, 5, 1011, 3, 4, 1007, 1009, 11, 12, 13, 14, 1024, 15, 16, 1031, 1032, 17, 18, 19, 20, 21, 22, 23, 24, 25, 1042, 1043, 1044, 1045, 1100001, 1100002, 1100005, 1100003, 1100004, 1100018, 1100019, 1100016] g32) [1024, 11, 12, 13, 14, 1100019] g39) 1100001 r43 (1 : Int)) 1100002 r43 ((17 * (20 - (S 1023 0)) + 17))) 1100005 r43 ((20 - (S 1023 0)))) 1100003 r43 (0 : Int)) 1100004 r43 (0 : Int)) := sm_upI ok53 sm_r1100004 (⟨by decide, by decide⟩ : sv_R (0 : Int))
          have md56 : sv_mod [1020, 1021, 1022, 1023, 5, 1011, 3, 4, 1007, 1009, 11, 12, 13, 14, 1024, 15, 16, 1031, 1032, 17, 18, 19, 20, 21, 22, 23, 24, 25, 1042, 1043, 1044, 1045, 1100001, 1100002, 1100005, 1100003, 1100004, 1100018, 1100019, 1100016] S (sv_up (sv_up (sv_up (sv_up (sv_up (sv_sts (sv_sts (sv_up (sv_sts S [1020, 1021, 1022, 1023, 5, 1011, 3, 4, 1007, 1009, 11, 12, 13, 14, 1024, 15, 16, 1031, 1032, 17, 18, 19, 20, 21, 22, 23, 24, 25, 1042, 1043, 1044, 1045, 1100001, 1100002, 1100005, 1100003, 1100004, 1100018, 1100019, 1100016] g5) 1020 0 ((g5 1020 0) + (1 : Int))) [1020, 1021, 1022, 1023, 5, 1011, 3, 4, 1007, 1009, 11, 12, 13, 14, 1024, 15, 16, 1031, 1032, 17, 18, 19, 20, 21, 22, 23, 24, 25, 1042, 1043, 1044, 1045, 1100001, 1100002, 1100005, 1100003, 1100004, 1100018, 1100019, 1100016] g32) [1024, 11, 12, 13, 14, 1100019] g39) 1100001 r43 (1 : Int)) 1100002 r43 ((17 * (20 - (S 1023 0)) + 17))) 1100005 r43 ((20 - (S 1023 0)))) 1100003 r43 (0 : Int)) 1100004 r43 (0 : Int)) := sv_mod.up md54 (by decide)
          have k57 : ((g32 1021 0) = 0 → sm_WG (g32 1100001) (g39 1100019) (g32 1043 0) → (g39 1100019 r43) = (g32 1043 0) → sm_WG (fun i' : Int => if i' = r43 then (1 : Int) else (g32 1100001) i') (g39 1100019) (g32 1043 0)) := fun _ a b => sm_WG_C a b
          have h := h k57
          have k58 : ((g32 1021 0) = 0 → sm_WF (g39 11) (g39 12) (g39 13) (g32 1100001) (g32 1100002) (g32 1100005) (g32 1100003) (g32 1100004) (g39 1024 0) (g32 1007 0) (g32 1009 0) (sm_fn (g32 1032 0) (g32 21) (g32 1043 0)) → (g32 1100001 r43) = 0 → 0 ≤ r43 → r43 < (g39 1024 0) → (g39 13 r43) = -1 → (g39 11 r43) = 15 → (-1 ≤ (g39 12 (5 * r43)) ∧ (g39 12 (5 * r43)) ≤ 10) → (sm_ex (g32 1100001) (g32 1100002) (g32 1100005) (g39 1024 0) 1 (g39 12 (5 * r43 + 1)) ((17 * (20 - (S 1023 0)) + 17) - 3) (20 - (S 1023 0))) → ((g39 12 (5 * r43 + 1)) < r43) → ((g39 11 (g39 12 (5 * r43 + 1))) = 2 ∨ (g39 11 (g39 12 (5 * r43 + 1))) = 7) → (sm_ex (g32 1100001) (g32 1100002) (g32 1100005) (g39 1024 0) 1 (g39 12 (5 * r43 + 2)) ((17 * (20 - (S 1023 0)) + 17) - 3) ((20 - (S 1023 0)) - 1)) → (0 ≤ (17 * (20 - (S 1023 0)) + 17)) → (0 ≤ (20 - (S 1023 0))) → sm_WF (g39 11) (g39 12) (g39 13) (fun i' : Int => if i' = r43 then (1 : Int) else (g32 1100001) i') (fun i' : Int => if i' = r43 then ((17 * (20 - (S 1023 0)) + 17)) else (g32 1100002) i') (fun i' : Int => if i' = r43 then ((20 - (S 1023 0))) else (g32 1100005) i') (fun i' : Int => if i' = r43 then (0 : Int) else (g32 1100003) i') (fun i' : Int => if i' = r43 then (0 : Int) else (g32 1100004) i') (g39 1024 0) (g32 1007 0) (g32 1009 0) (sm_fn (g32 1032 0) (g32 21) (g32 1043 0))) := fun a0 aW a1 a2 a3 a4 aS c1 c2 c3 c4 c5 c6 c7 => (sm_mk1 aW a1 a2 a3 a4 (Or.inr ⟨rfl, sm_c1_15 aS c1 c2 c3 c4 c5⟩) ⟨c6, fun q => absurd (aS.symm.trans q) (by decide), fun q => absurd q (by omega), c7⟩).1
          have h := h k58
          exact sv_iret hM dX12_assigned_76 rfl rfl ⟨r43, rfl, hr43, ok55, md56, h⟩
        · have h := h.2 (hc)
          refine sv_iconst (d := (-1 : Int)) hM dX12_assigned_62 rfl rfl ?_
          refine sv_goto hM dX12_assigned_63 (pc' := 67) rfl ?_
          refine sv_iload_n hM dX12_assigned_67 rfl rfl ?_
          refine sv_aload_n hM dX12_assigned_68 rfl rfl ?_
          refine sv_iload_n hM dX12_assigned_69 rfl rfl ?_
          obtain ⟨o59, h⟩ := h
          obtain ⟨o60, h⟩ := h
          obtain ⟨o61, h⟩ := h
          refine sv_callV hM dX12_assigned_70 sm_iv_466 (by decide) (sm_a0 _) rfl rfl (Nat.le_of_ble_eq_true rfl) sm_h46 (Nat.le_of_ble_eq_true rfl) (Nat.le_of_ble_eq_true rfl) (F' := ((30 * (20 - (g5 1023 0)) + 14)).toNat) (sv_Fe o61) rfl ((IH (30 * (20 - (g5 1023 0)) + 14) o60.1 o60.2).2.1 p1 (sv_up (sv_sts S [1020, 1021, 1022, 1023, 5, 1011, 3, 4, 1007, 1009, 11, 12, 13, 14, 1024, 15, 16, 1031, 1032, 17, 18, 19, 20, 21, 22, 23, 24, 25, 1042, 1043, 1044, 1045, 1100001, 1100002, 1100005, 1100003, 1100004, 1100018, 1100019, 1100016] g5) 1020 0 ((g5 1020 0) + (1 : Int))) ok27 o1 o59 rfl) (fun v S1 hq => ?_)
          obtain ⟨r66, rfl, hr66, ok63, md64, hpo65⟩ := hq
          obtain ⟨g62, rfl⟩ : ∃ g, S1 = sv_sts (sv_up (sv_sts S [1020, 1021, 1022, 1023, 5, 1011, 3, 4, 1007, 1009, 11, 12, 13, 14, 1024, 15, 16, 1031, 1032, 17, 18, 19, 20, 21, 22, 23, 24, 25, 1042, 1043, 1044, 1045, 1100001, 1100002, 1100005, 1100003, 1100004, 1100018, 1100019, 1100016] g5) 1020 0 ((g5 1020 0) + (1 : Int))) [1020, 1021, 1022, 1023, 5, 1011, 3, 4, 1007, 1009, 11, 12, 13, 14, 1024, 15, 16, 1031, 1032, 17, 18, 19, 20, 21, 22, 23, 24, 25, 1042, 1043, 1044, 1045, 1100001, 1100002, 1100005, 1100003, 1100004, 1100018, 1100019, 1100016] g := ⟨_, md64.eq⟩
          show sv_T sm_XS sm_cs sm_L sm_sh ((if 0 < (S 1021 0) then 12 else 30 * (20 - (S 1023 0)) + 25)).toNat (q_assigned p1 S) 47 73 [(0, .ref 0), (1, sv_I p1), (2, sv_I r9), (3, sv_I r18)] [sv_I r66, sv_I r9, sv_I (-1 : Int), sv_I (15 : Int), .ref 0] (sv_sts (sv_up (sv_sts S [1020, 1021, 1022, 1023, 5, 1011, 3, 4, 1007, 1009, 11, 12, 13, 14, 1024, 15, 16, 1031, 1032, 17, 18, 19, 20, 21, 22, 23, 24, 25, 1042, 1043, 1044, 1045, 1100001, 1100002, 1100005, 1100003, 1100004, 1100018, 1100019, 1100016] g5) 1020 0 ((g5 1020 0) + (1 : Int))) [1020, 1021, 1022, 1023, 5, 1011, 3, 4, 1007, 1009, 11, 12, 13, 14, 1024, 15, 16, 1031, 1032, 17, 18, 19, 20, 21, 22, 23, 24, 25, 1042, 1043, 1044, 1045, 1100001, 1100002, 1100005, 1100003, 1100004, 1100018, 1100019, 1100016] g62)
          have md67 : sv_mod [1020, 1021, 1022, 1023, 5, 1011, 3, 4, 1007, 1009, 11, 12, 13, 14, 1024, 15, 16, 1031, 1032, 17, 18, 19, 20, 21, 22, 23, 24, 25, 1042, 1043, 1044, 1045, 1100001, 1100002, 1100005, 1100003, 1100004, 1100018, 1100019, 1100016] S (sv_sts (sv_up (sv_sts S [1020, 1021, 1022, 1023, 5, 1011, 3, 4, 1007, 1009, 11, 12, 13, 14, 1024, 15, 16, 1031, 1032, 17, 18, 19, 20, 21, 22, 23, 24, 25, 1042, 1043, 1044, 1045, 1100001, 1100002, 1100005, 1100003, 1100004, 1100018, 1100019, 1100016] g5) 1020 0 ((g5 1020 0) + (1 : Int))) [1020, 1021, 1022, 1023, 5, 1011, 3, 4, 1007, 1009, 11, 12, 13, 14, 1024, 15, 16, 1031, 1032, 17, 18, 19, 20, 21, 22, 23, 24, 25, 1042, 1043, 1044, 1045, 1100001, 1100002, 1100005, 1100003, 1100004, 1100018, 1100019, 1100016] g62) := sv_mod.sts md28 (by decide)
          have h := h r66 hr66 g62 hpo65
          obtain ⟨o68, h⟩ := h
          refine sv_callV hM dX12_assigned_73 sm_iv_446 (by decide) (sm_a0 _) rfl rfl (Nat.le_of_ble_eq_true rfl) sm_h33 (Nat.le_of_ble_eq_true rfl) (Nat.le_of_ble_eq_true rfl) (F' := 0) (sv_Fn (n := 0) o13) rfl (t_node (15 : Int) (-1 : Int) r9 r66 (sv_sts (sv_up (sv_sts S [1020, 1021, 1022, 1023, 5, 1011, 3, 4, 1007, 1009, 11, 12, 13, 14, 1024, 15, 16, 1031, 1032, 17, 18, 19, 20, 21, 22, 23, 24, 25, 1042, 1043, 1044, 1045, 1100001, 1100002, 1100005, 1100003, 1100004, 1100018, 1100019, 1100016] g5) 1020 0 ((g5 1020 0) + (1 : Int))) [1020, 1021, 1022, 1023, 5, 1011, 3, 4, 1007, 1009, 11, 12, 13, 14, 1024, 15, 16, 1031, 1032, 17, 18, 19, 20, 21, 22, 23, 24, 25, 1042, 1043, 1044, 1045, 1100001, 1100002, 1100005, 1100003, 1100004, 1100018, 1100019, 1100016] g62) ok63 (⟨by decide, by decide⟩ : sv_R (15 : Int)) (⟨by decide, by decide⟩ : sv_R (-1 : Int)) hr9 hr66 o68) (fun v S1 hq => ?_)
          obtain ⟨r73, rfl, hr73, ok70, md71, hpo72⟩ := hq
          obtain ⟨g69, rfl⟩ : ∃ g, S1 = sv_sts (sv_sts (sv_up (sv_sts S [1020, 1021, 1022, 1023, 5, 1011, 3, 4, 1007, 1009, 11, 12, 13, 14, 1024, 15, 16, 1031, 1032, 17, 18, 19, 20, 21, 22, 23, 24, 25, 1042, 1043, 1044, 1045, 1100001, 1100002, 1100005, 1100003, 1100004, 1100018, 1100019, 1100016] g5) 1020 0 ((g5 1020 0) + (1 : Int))) [1020, 1021, 1022, 1023, 5, 1011, 3, 4, 1007, 1009, 11, 12, 13, 14, 1024, 15, 16, 1031, 1032, 17, 18, 19, 20, 21, 22, 23, 24, 25, 1042, 1043, 1044, 1045, 1100001, 1100002, 1100005, 1100003, 1100004, 1100018, 1100019, 1100016] g62) [1024, 11, 12, 13, 14, 1100019] g := ⟨_, md71.eq⟩
          show sv_T sm_XS sm_cs sm_L sm_sh ((if 0 < (S 1021 0) then 12 else 30 * (20 - (S 1023 0)) + 25)).toNat (q_assigned p1 S) 47 76 [(0, .ref 0), (1, sv_I p1), (2, sv_I r9), (3, sv_I r18)] [sv_I r73] (sv_sts (sv_sts (sv_up (sv_sts S [1020, 1021, 1022, 1023, 5, 1011, 3, 4, 1007, 1009, 11, 12, 13, 14, 1024, 15, 16, 1031, 1032, 17, 18, 19, 20, 21, 22, 23, 24, 25, 1042, 1043, 1044, 1045, 1100001, 1100002, 1100005, 1100003, 1100004, 1100018, 1100019, 1100016] g5) 1020 0 ((g5 1020 0) + (1 : Int))) [1020, 1021, 1022, 1023, 5, 1011, 3, 4, 1007, 1009, 11, 12, 13, 14, 1024, 15, 16, 1031, 1032, 17, 18, 19, 20, 21, 22, 23, 24, 25, 1042, 1043, 1044, 1045, 1100001, 1100002, 1100005, 1100003, 1100004, 1100018, 1100019, 1100016] g62) [1024, 11, 12, 13, 14, 1100019] g69)
          have md74 : sv_mod [1020, 1021, 1022, 1023, 5, 1011, 3, 4, 1007, 1009, 11, 12, 13, 14, 1024, 15, 16, 1031, 1032, 17, 18, 19, 20, 21, 22, 23, 24, 25, 1042, 1043, 1044, 1045, 1100001, 1100002, 1100005, 1100003, 1100004, 1100018, 1100019, 1100016] S (sv_sts (sv_sts (sv_up (sv_sts S [1020, 1021, 1022, 1023, 5, 1011, 3, 4, 1007, 1009, 11, 12, 13, 14, 1024, 15, 16, 1031, 1032, 17, 18, 19, 20, 21, 22, 23, 24, 25, 1042, 1043, 1044, 1045, 1100001, 1100002, 1100005, 1100003, 1100004, 1100018, 1100019, 1100016] g5) 1020 0 ((g5 1020 0) + (1 : Int))) [1020, 1021, 1022, 1023, 5, 1011, 3, 4, 1007, 1009, 11, 12, 13, 14, 1024, 15, 16, 1031, 1032, 17, 18, 19, 20, 21, 22, 23, 24, 25, 1042, 1043, 1044, 1045, 1100001, 1100002, 1100005, 1100003, 1100004, 1100018, 1100019, 1100016] g62) [1024, 11, 12, 13, 14, 1100019] g69) := sv_mod.sts md67 (by decide)
          have h := h r73 hr73 g69 hpo72
          refine sv_ghost sm_X 1100001 r73 (1 : Int) (by decide) ?_
          have ok75 : sm_ok (sv_up (sv_sts (sv_sts (sv_up (sv_sts S [1020, 1021, 1022, 1023, 5, 1011, 3, 4, 1007, 1009, 11, 12, 13, 14, 1024, 15, 16, 1031, 1032, 17, 18, 19, 20, 21, 22, 23, 24, 25, 1042, 1043, 1044, 1045, 1100001, 1100002, 1100005, 1100003, 1100004, 1100018, 1100019, 1100016] g5) 1020 0 ((g5 1020 0) + (1 : Int))) [1020, 1021, 1022, 1023, 5, 1011, 3, 4, 1007, 1009, 11, 12, 13, 14, 1024, 15, 16, 1031, 1032, 17, 18, 19, 20, 21, 22, 23, 24, 25, 1042, 1043, 1044, 1045, 1100001, 1100002, 1100005, 1100003, 1100004, 1100018, 1100019, 1100016] g62) [1024, 11, 12, 13, 14, 1100019] g69) 1100001 r73 (1 : Int)) := sm_upI ok70 sm_r1100001 (⟨by decide, by decide⟩ : sv_R (1 : Int))
          have md76 : sv_mod [1020, 1021, 1022, 1023, 5, 1011, 3, 4, 1007, 1009, 11, 12, 13, 14, 1024, 15, 16, 1031, 1032, 17, 18, 19, 20, 21, 22, 23, 24, 25, 1042, 1043, 1044, 1045, 1100001, 1100002, 1100005, 1100003, 1100004, 1100018, 1100019, 1100016] S (sv_up (sv_sts (sv_sts (sv_up (sv_sts S [1020, 1021, 1022, 1023, 5, 1011, 3, 4, 1007, 1009, 11, 12, 13, 14, 1024, 15, 16, 1031, 1032, 17, 18, 19, 20, 21, 22, 23, 24, 25, 1042, 1043, 1044, 1045, 1100001, 1100002, 1100005, 1100003, 1100004, 1100018, 1100019, 1100016] g5) 1020 0 ((g5 1020 0) + (1 : Int))) [1020, 1021, 1022, 1023, 5, 1011, 3, 4, 1007, 1009, 11, 12, 13, 14, 1024, 15, 16, 1031, 1032, 17, 18, 19, 20, 21, 22, 23, 24, 25, 1042, 1043, 1044, 1045, 1100001, 1100002, 1100005, 1100003, 1100004, 1100018, 1100019, 1100016] g62) [1024, 11, 12, 13, 14, 1100019] g69) 1100001 r73 (1 : Int)) := sv_mod.up md74 (by decide)
          obtain ⟨o77, h⟩ := h
          refine sv_ghost sm_X 1100002 r73 ((17 * (20 - (S 1023 0)) + 17)) (by decide) ?_
          have ok78 : sm_ok (sv_up (sv_up (sv_sts (sv_sts (sv_up (sv_sts S [1020, 1021, 1022, 1023, 5, 1011, 3, 4, 1007, 1009, 11, 12, 13, 14, 1024, 15, 16, 1031, 1032, 17, 18, 19, 20, 21, 22, 23, 24, 25, 1042, 1043, 1044, 1045, 1100001, 1100002, 1100005, 1100003, 1100004, 1100018, 1100019, 1100016] g5) 1020 0 ((g5 1020 0) + (1 : Int))) [1020, 1021, 1022, 1023, 5, 1011, 3, 4, 1007, 1009, 11, 12, 13, 14, 1024, 15, 16, 1031, 1032, 17, 18, 19, 20, 21, 22, 23, 24, 25, 1042, 1043, 1044, 1045, 1100001, 1100002, 1100005, 1100003, 1100004, 1100018, 1100019, 1100016] g62) [1024, 11, 12, 13, 14, 1100019] g69) 1100001 r73 (1 : Int)) 1100002 r73 ((17 * (20 - (S 1023 0)) + 17))) := sm_upI ok75 sm_r1100002 o77
          have md79 : sv_mod [1020, 1021, 1022, 1023, 5, 1011, 3, 4, 1007, 1009, 11, 12, 13, 14, 1024, 15, 16, 1031, 1032, 17, 18, 19, 20, 21, 22, 23, 24, 25, 1042, 1043, 1044, 1045, 1100001, 1100002, 1100005, 1100003, 1100004, 1100018, 1100019, 1100016] S (sv_up (sv_up (sv_sts (sv_sts (sv_up (sv_sts S [1020, 1021, 1022, 1023, 5, 1011, 3, 4, 1007, 1009, 11, 12, 13, 14, 1024, 15, 16, 1031, 1032, 17, 18, 19, 20, 21, 22, 23, 24, 25, 1042, 1043, 1044, 1045, 1100001, 1100002, 1100005, 1100003, 1100004, 1100018, 1100019, 1100016] g5) 1020 0 ((g5 1020 0) + (1 : Int))) [1020, 1021, 1022, 1023, 5, 1011, 3, 4, 1007, 1009, 11, 12, 13, 14, 1024, 15, 16, 1031, 1032, 17, 18, 19, 20, 21, 22, 23, 24, 25, 1042, 1043, 1044, 1045, 1100001, 1100002, 1100005, 1100003, 1100004, 1100018, 1100019, 1100016] g62) [1024, 11, 12, 13, 14, 1100019] g69) 1100001 r73 (1 : Int)) 1100002 r73 ((17 * (20 - (S 1023 0)) + 17))) := sv_mod.up md76 (by decide)
          obtain ⟨o80, h⟩ := h
          refine sv_ghost sm_X 1100005 r73 ((20 - (S 1023 0))) (by decide) ?_
          have ok81 : sm_ok (sv_up (sv_up (sv_up (sv_sts (sv_sts (sv_up (sv_sts S [1020, 1021, 1022, 1023, 5, 1011, 3, 4, 1007, 1009, 11, 12, 13, 14, 1024, 15, 16, 1031, 1032, 17, 18, 19, 20, 21, 22, 23, 24, 25, 1042, 1043, 1044, 1045, 1100001, 1100002, 1100005, 1100003, 1100004, 1100018, 1100019, 1100016] g5) 1020 0 ((g5 1020 0) + (1 : Int))) [1020, 1021, 1022, 1023, 5, 1011, 3, 4, 1007, 1009, 11, 12, 13, 14, 1024, 15, 16, 1031, 1032, 17, 18, 19, 20, 21, 22, 23, 24, 25, 1042, 1043, 1044, 1045, 1100001, 1100002, 1100005, 1100003, 1100004, 1100018, 1100019, 1100016] g62) [1024, 11, 12, 13, 14, 1100019] g69) 1100001 r73 (1 : Int)) 1100002 r73 ((17 * (20 - (S 1023 0)) + 17))) 1100005 r73 ((20 - (S 1023 0)))) := sm_upI ok78 sm_r1100005 o80
          have md82 : sv_mod [1020, 1021, 1022, 1023, 5, 1011, 3, 4, 1007, 1009, 11, 12, 13, 14, 1024, 15, 16, 1031, 1032, 17, 18, 19, 20, 21, 22, 23, 24, 25, 1042, 1043, 1044, 1045, 1100001, 1100002, 1100005, 1100003, 1100004, 1100018, 1100019, 1100016] S (sv_up (sv_up (sv_up (sv_sts (sv_sts (sv_up (sv_sts S [1020, 1021, 1022, 1023, 5, 1011, 3, 4, 1007, 1009, 11, 12, 13, 14, 1024, 15, 16, 1031, 1032, 17, 18, 19, 20, 21, 22, 23, 24, 25, 1042, 1043, 1044, 1045, 1100001, 1100002, 1100005, 1100003, 1100004, 1100018, 1100019, 1100016] g5) 1020 0 ((g5 1020 0) + (1 : Int))) [1020, 1021, 1022, 1023, 5, 1011, 3, 4, 1007, 1009, 11, 12, 13, 14, 1024, 15, 16, 1031, 1032, 17, 18, 19, 20, 21, 22, 23, 24, 25, 1042, 1043, 1044, 1045, 1100001, 1100002, 1100005, 1100003, 1100004, 1100018, 1100019, 1100016] g62) [1024, 11, 12, 13, 14, 1100019] g69) 1100001 r73 (1 : Int)) 1100002 r73 ((17 * (20 - (S 1023 0)) + 17))) 1100005 r73 ((20 - (S 1023 0)))) := sv_mod.up md79 (by decide)
          refine sv_ghost sm_X 1100003 r73 (0 : Int) (by decide) ?_
          have ok83 : sm_ok (sv_up (sv_up (sv_up (sv_up (sv_sts (sv_sts (sv_up (sv_sts S [1020, 1021, 1022, 1023, 5, 1011, 3, 4, 1007, 1009, 11, 12, 13, 14, 1024, 15, 16, 1031, 1032, 17, 18, 19, 20, 21, 22, 23, 24, 25, 1042, 1043, 1044, 1045, 1100001, 1100002, 1100005, 1100003, 1100004, 1100018, 1100019, 1100016] g5) 1020 0 ((g5 1020 0) + (1 : Int))) [1020, 1021, 1022, 1023, 5, 1011, 3, 4, 1007, 1009, 11, 12, 13, 14, 1024, 15, 16, 1031, 1032, 17, 18, 19, 20, 21, 22, 23, 24, 25, 1042, 1043, 1044, 1045, 1100001, 1100002, 1100005, 1100003, 1100004, 1100018, 1100019, 1100016] g62) [1024, 11, 12, 13, 14, 1100019] g69) 1100001 r73 (1 : Int)) 1100002 r73 ((17 * (20 - (S 1023 0)) + 17))) 1100005 r73 ((20 - (S 1023 0)))) 1100003 r73 (0 : Int)) := sm_upI ok81 sm_r1100003 (⟨by decide, by decide⟩ : sv_R (0 : Int))
          have md84 : sv_mod [1020, 1021, 1022, 1023, 5, 1011, 3, 4, 1007, 1009, 11, 12, 13, 14, 1024, 15, 16, 1031, 1032, 17, 18, 19, 20, 21, 22, 23, 24, 25, 1042, 1043, 1044, 1045, 1100001, 1100002, 1100005, 1100003, 1100004, 1100018, 1100019, 1100016] S (sv_up (sv_up (sv_up (sv_up (sv_sts (sv_sts (sv_up (sv_sts S [1020, 1021, 1022, 1023, 5, 1011, 3, 4, 1007, 1009, 11, 12, 13, 14, 1024, 15, 16, 1031, 1032, 17, 18, 19, 20, 21, 22, 23, 24, 25, 1042, 1043, 1044, 1045, 1100001, 1100002, 1100005, 1100003, 1100004, 1100018, 1100019, 1100016] g5) 1020 0 ((g5 1020 0) + (1 : Int))) [1020, 1021, 1022, 1023, 5, 1011, 3, 4, 1007, 1009, 11, 12, 13, 14, 1024, 15, 16, 1031, 1032, 17, 18, 19, 20, 21, 22, 23, 24, 25, 1042, 1043, 1044, 1045, 1100001, 1100002, 1100005, 1100003, 1100004, 1100018, 1100019, 1100016] g62) [1024, 11, 12, 13, 14, 1100019] g69) 1100001 r73 (1 : Int)) 1100002 r73 ((17 * (20 - (S 1023 0)) + 17))) 1100005 r73 ((20 - (S 1023 0)))) 1100003 r73 (0 : Int)) := sv_mod.up md82 (by decide)
          refine sv_ghost sm_X 1100004 r73 (0 : Int) (by decide) ?_
          have ok85 : sm_ok (sv_up (sv_up (sv_up (sv_up (sv_up (sv_sts (sv_sts (sv_up (sv_sts S [1020, 1021, 1022, 1023, 5, 1011, 3, 4, 1007, 1009, 11, 12, 13, 14, 1024, 15, 16, 1031, 1032, 17, 18, 19, 20, 21, 22, 23, 24, 25, 1042, 1043, 1044, 1045, 1100001, 1100002, 1100005, 1100003, 1100004, 1100018, 1100019, 1100016] g5) 1020 0 ((g5 1020 0) + (1 : Int))) [1020, 1021, 1022, 1023, 5, 1011, 3, 4, 1007, 1009, 11, 12, 13, 14, 1024, 15, 16, 1031, 1032, 17, 18, 19, 20, 21, 22, 23, 24, 25, 1042, 1043, 1044, 1045, 1100001, 1100002, 1100005, 1100003, 1100004, 1100018, 1100019, 1100016] g62) [1024, 11, 12, 13, 14, 1100019] g69) 1100001 r73 (1 : Int)) 1100002 r73 ((17 * (20 - (S 1023 0)) + 17))) 1100005 r73 ((20 - (S 1023 0)))) 1100003 r73 (0 : Int)) 1100004 r73 (0 : Int)) := sm_upI ok83 sm_r1100004 (⟨by decide, by decide⟩ : sv_R (0 : Int))
          have md86 : sv_mod [1020, 1021, 1022, 1023, 5, 1011, 3, 4, 1007, 1009, 11, 12, 13, 14, 1024, 15, 16, 1031, 1032, 17, 18, 19, 20, 21, 22, 23, 24, 25, 1042, 1043, 1044, 1045, 1100001, 1100002, 1100005, 1100003, 1100004, 1100018, 1100019, 1100016] S (sv_up (sv_up (sv_up (sv_up (sv_up (sv_sts (sv_sts (sv_up (sv_sts S [1020, 1021, 1022, 1023, 5, 1011, 3, 4, 1007, 1009, 11, 12, 13, 14, 1024, 15, 16, 1031, 1032, 17, 18, 19, 20, 21, 22, 23, 24, 25, 1042, 1043, 1044, 1045, 1100001, 1100002, 1100005, 1100003, 1100004, 1100018, 1100019, 1100016] g5) 1020 0 ((g5 1020 0) + (1 : Int))) [1020, 1021, 1022, 1023, 5, 1011, 3, 4, 1007, 1009, 11, 12, 13, 14, 1024, 15, 16, 1031, 1032, 17, 18, 19, 20, 21, 22, 23, 24, 25, 1042, 1043, 1044, 1045, 1100001, 1100002, 1100005, 1100003, 1100004, 1100018, 1100019, 1100016] g62) [1024, 11, 12, 13, 14, 1100019] g69) 1100001 r73 (1 : Int)) 1100002 r73 ((17 * (20 - (S 1023 0)) + 17))) 1100005 r73 ((20 - (S 1023 0)))) 1100003 r73 (0 : Int)) 1100004 r73 (0 : Int)) := sv_mod.up md84 (by decide)
          have k87 : ((g62 1021 0) = 0 → sm_WG (g62 1100001) (g69 1100019) (g62 1043 0) → (g69 1100019 r73) = (g62 1043 0) → sm_WG (fun i' : Int => if i' = r73 then (1 : Int) else (g62 1100001) i') (g69 1100019) (g62 1043 0)) := fun _ a b => sm_WG_C a b
          have h := h k87
          have k88 : ((g62 1021 0) = 0 → sm_WF (g69 11) (g69 12) (g69 13) (g62 1100001) (g62 1100002) (g62 1100005) (g62 1100003) (g62 1100004) (g69 1024 0) (g62 1007 0) (g62 1009 0) (sm_fn (g62 1032 0) (g62 21) (g62 1043 0)) → (g62 1100001 r73) = 0 → 0 ≤ r73 → r73 < (g69 1024 0) → (g69 13 r73) = -1 → (g69 11 r73) = 15 → (-1 ≤ (g69 12 (5 * r73)) ∧ (g69 12 (5 * r73)) ≤ 10) → (sm_ex (g62 1100001) (g62 1100002) (g62 1100005) (g69 1024 0) 1 (g69 12 (5 * r73 + 1)) ((17 * (20 - (S 1023 0)) + 17) - 3) (20 - (S 1023 0))) → ((g69 12 (5 * r73 + 1)) < r73) → ((g69 11 (g69 12 (5 * r73 + 1))) = 2 ∨ (g69 11 (g69 12 (5 * r73 + 1))) = 7) → (sm_ex (g62 1100001) (g62 1100002) (g62 1100005) (g69 1024 0) 1 (g69 12 (5 * r73 + 2)) ((17 * (20 - (S 1023 0)) + 17) - 3) ((20 - (S 1023 0)) - 1)) → (0 ≤ (17 * (20 - (S 1023 0)) + 17)) → (0 ≤ (20 - (S 1023 0))) → sm_WF (g69 11) (g69 12) (g69 13) (fun i' : Int => if i' = r73 then (1 : Int) else (g62 1100001) i') (fun i' : Int => if i' = r73 then ((17 * (20 - (S 1023 0)) + 17)) else (g62 1100002) i') (fun i' : Int => if i' = r73 then ((20 - (S 1023 0))) else (g62 1100005) i') (fun i' : Int => if i' = r73 then (0 : Int) else (g62 1100003) i') (fun i' : Int => if i' = r73 then (0 : Int) else (g62 1100004) i') (g69 1024 0) (g62 1007 0) (g62 1009 0) (sm_fn (g62 1032 0) (g62 21) (g62 1043 0))) := fun a0 aW a1 a2 a3 a4 aS c1 c2 c3 c4 c5 c6 c7 => (sm_mk1 aW a1 a2 a3 a4 (Or.inr ⟨rfl, sm_c1_15 aS c1 c2 c3 c4 c5⟩) ⟨c6, fun q => absurd (aS.symm.trans q) (by decide), fun q => absurd q (by omega), c7⟩).1
          have h := h k88
          exact sv_iret hM dX12_assigned_76 rfl rfl ⟨r73, rfl, hr73, ok85, md86, h⟩
      · have h := h.2 (hc)
        refine sv_aload_n hM dX12_assigned_35 rfl rfl ?_
        refine sv_iconst (d := (3 : Int)) hM dX12_assigned_36 rfl rfl ?_
        obtain ⟨o89, h⟩ := h
        refine sv_callV hM dX12_assigned_37 sm_iv_401 (by decide) (sm_a0 _) rfl rfl (Nat.le_of_ble_eq_true rfl) sm_h23 (Nat.le_of_ble_eq_true rfl) (Nat.le_of_ble_eq_true rfl) (F' := 0) (sv_Fn (n := 0) o13) rfl (t_fail (3 : Int) (sv_sts S [1020, 1021, 1022, 1023, 5, 1011, 3, 4, 1007, 1009, 11, 12, 13, 14, 1024, 15, 16, 1031, 1032, 17, 18, 19, 20, 21, 22, 23, 24, 25, 1042, 1043, 1044, 1045, 1100001, 1100002, 1100005, 1100003, 1100004, 1100018, 1100019, 1100016] g5) ok21 (⟨by decide, by decide⟩ : sv_R (3 : Int)) o89) (fun v S1 hq => ?_)
        obtain ⟨r94, rfl, hr94, ok91, md92, hpo93⟩ := hq
        obtain ⟨g90, rfl⟩ : ∃ g, S1 = sv_sts (sv_sts S [1020, 1021, 1022, 1023, 5, 1011, 3, 4, 1007, 1009, 11, 12, 13, 14, 1024, 15, 16, 1031, 1032, 17, 18, 19, 20, 21, 22, 23, 24, 25, 1042, 1043, 1044, 1045, 1100001, 1100002, 1100005, 1100003, 1100004, 1100018, 1100019, 1100016] g5) [1021, 1022] g := ⟨_, md92.eq⟩
        show sv_T sm_XS sm_cs sm_L sm_sh ((if 0 < (S 1021 0) then 12 else 30 * (20 - (S 1023 0)) + 25)).toNat (q_assigned p1 S) 47 40 [(0, .ref 0), (1, sv_I p1), (2, sv_I r9), (3, sv_I r18)] [sv_I r94] (sv_sts (sv_sts S [1020, 1021, 1022, 1023, 5, 1011, 3, 4, 1007, 1009, 11, 12, 13, 14, 1024, 15, 16, 1031, 1032, 17, 18, 19, 20, 21, 22, 23, 24, 25, 1042, 1043, 1044, 1045, 1100001, 1100002, 1100005, 1100003, 1100004, 1100018, 1100019, 1100016] g5) [1021, 1022] g90)
        have md95 : sv_mod [1020, 1021, 1022, 1023, 5, 1011, 3, 4, 1007, 1009, 11, 12, 13, 14, 1024, 15, 16, 1031, 1032, 17, 18, 19, 20, 21, 22, 23, 24, 25, 1042, 1043, 1044, 1045, 1100001, 1100002, 1100005, 1100003, 1100004, 1100018, 1100019, 1100016] S (sv_sts (sv_sts S [1020, 1021, 1022, 1023, 5, 1011, 3, 4, 1007, 1009, 11, 12, 13, 14, 1024, 15, 16, 1031, 1032, 17, 18, 19, 20, 21, 22, 23, 24, 25, 1042, 1043, 1044, 1045, 1100001, 1100002, 1100005, 1100003, 1100004, 1100018, 1100019, 1100016] g5) [1021, 1022] g90) := sv_mod.sts md10 (by decide)
        have h := h r94 hr94 g90 hpo93
        refine sv_popI hM dX12_assigned_40 rfl ?_
        refine sv_iconst (d := (-1 : Int)) hM dX12_assigned_41 rfl rfl ?_
        exact sv_iret hM dX12_assigned_42 rfl rfl ⟨(-1 : Int), rfl, (⟨by decide, by decide⟩ : sv_R (-1 : Int)), ok91, md95, h⟩
    · have h := h.2 (hc)
      refine sv_iload_n hM dX12_assigned_25 rfl rfl ?_
      exact sv_iret hM dX12_assigned_26 rfl rfl ⟨r9, rfl, hr9, ok15, md10, h⟩
  · have h := h.2 (hc)
    refine sv_iconst (d := (-1 : Int)) hM dX12_assigned_13 rfl rfl ?_
    exact sv_iret hM dX12_assigned_14 rfl rfl ⟨(-1 : Int), rfl, (⟨by decide, by decide⟩ : sv_R (-1 : Int)), ok6, md10, h⟩
theorem la_conditional_0 {x0 : Int} (h0 : 0 ≤ x0) (h1 : x0 ≤ 1) : 0 ≤ x0 ∧ x0 ≤ 1 := by omega
theorem la_conditional_1 : (0 : Int) ≤ 0 ∧ (0 : Int) ≤ 10 := by omega
theorem la_conditional_2 {x0 : Int} (h0 : 0 < x0) : ¬ x0 = 0 := by omega
theorem la_conditional_3 {x0 : Int} (h0 : x0 = 10) : 0 ≤ x0 := by omega
theorem la_conditional_4 {x0 : Int} (h0 : 0 ≤ x0) (h1 : ¬ 0 < x0) : x0 = 0 := by omega
theorem la_conditional_5 {x0 x1 : Int} (h0 : x0 = 30 * (20 - x1) + (23 - 0)) (h1 : x1 ≤ 20) : 0 ≤ x0 := by omega
theorem la_conditional_6 {x0 x1 x2 : Int} (h0 : x0 = x1) (h1 : x2 = 10) (h2 : x0 = 11) : x2 < x1 := by omega
theorem la_conditional_7 {x0 x1 x2 x3 : Int} (h0 : x0 = x1) (h1 : x2 = 30 * (20 - x3) + (23 - 0)) (h2 : x0 = 30 * (20 - x3) + 24) : x2 < x1 := by omega
theorem la_conditional_8 {x0 x1 : Int} (h0 : x0 = 10) (h1 : x1 = 11) : x0 + 1 ≤ x1 := by omega
theorem la_conditional_9 {x0 x1 x2 : Int} (h0 : x0 = 30 * (20 - x1) + (23 - 0)) (h1 : x2 = 30 * (20 - x1) + 24) : x0 + 1 ≤ x2 := by omega
theorem la_conditional_10 {x0 x1 x2 x3 x4 : Int} (h0 : x0 = 11) (h1 : x1 = x2) (h2 : x3 = x4) : x3 ≤ x4 + 2 * (x1 - x2) + 2 * x0 := by omega
theorem la_conditional_11 {x0 x1 x2 x3 x4 x5 x6 : Int} (h0 : x0 ≤ x1 + 2 * (x2 - x3) + 2 * x4) (h1 : x4 = 30 * (20 - x5) + (23 - 0)) (h2 : x6 = 30 * (20 - x5) + 24) : x0 ≤ x1 + 2 * (x2 - x3) + 2 * x6 := by omega
theorem la_conditional_12 {x0 x1 : Int} (h0 : 0 < x0) (h1 : x0 = 0) : 0 < x1 := by omega
theorem la_conditional_13 {x0 x1 : Int} (h0 : 0 < x0) (h1 : x0 = 0) : x1 = 0 := by omega
theorem la_conditional_14 {x0 : Int} (h0 : 0 < x0) (h1 : x0 = 0) : False := by omega
theorem la_conditional_15 {x0 x1 x2 : Int} (h0 : 0 ≤ x0) (h1 : x1 ≤ 4001) (h2 : x2 < x1) (h3 : x0 < x2) : 0 ≤ x2 ∧ x2 ≤ 4000 := by omega
theorem la_conditional_16 {x0 x1 : Int} (h0 : x0 = 30 * (20 - x1) + 24) (h1 : x1 ≤ 20) : 0 + 1 ≤ x0 := by omega
theorem la_conditional_17 {x0 x1 x2 : Int} (h0 : 0 ≤ x0) (h1 : x1 ≤ 4001) (h2 : x2 < x1) (h3 : x0 < x2) : sv_R (x2 + 1) := by omega
theorem la_conditional_18 {x0 x1 : Int} (h0 : 0 ≤ x0) (h1 : x0 < x1) : 0 ≤ x1 + 1 := by omega
theorem la_conditional_19 {x0 x1 : Int} (h0 : 0 ≤ x0) (h1 : x0 < x1) : 0 ≤ x1 := by omega
theorem la_conditional_20 {x0 : Int} (h0 : x0 = 5) : 1 ≤ x0 := by omega
theorem la_conditional_21 {x0 : Int} (h0 : x0 = 5) : x0 ≤ 5 := by omega
theorem la_conditional_22 {x0 x1 : Int} (h0 : 1 ≤ x0) (h1 : x0 ≤ x1) : 1 ≤ x1 := by omega
theorem la_conditional_23 {x0 x1 x2 x3 : Int} (h0 : x0 < x1) (h1 : x1 = x2) (h2 : x3 = x0) : x3 < x2 := by omega
theorem la_conditional_24 {x0 x1 x2 : Int} (h0 : x0 = 0) (h1 : x1 = x2) (h2 : x2 = x0) : x1 = 0 := by omega
theorem la_conditional_25 {x0 x1 : Int} (h0 : 0 ≤ x0) (h1 : x1 = x0) : 0 ≤ x1 := by omega
theorem la_conditional_26 {x0 x1 x2 x3 x4 x5 : Int} (h0 : x0 < x1) (h1 : x1 = x2) (h2 : x3 = x0) (h3 : x2 ≤ x4) (h4 : x5 = x4) : x3 < x5 := by omega
theorem la_conditional_27 {x0 x1 : Int} (h0 : x0 ≤ 1 + x1) : x0 ≤ 1 + (x1 + 1) := by omega
theorem la_conditional_28 {x0 x1 x2 : Int} (h0 : x0 = x1) (h1 : x2 ≤ 20) (h2 : x1 ≤ 3 * x2 + 5) : x0 ≤ 100 := by omega
theorem la_conditional_29 {x0 x1 x2 : Int} (h0 : x0 = x1) (h1 : x2 ≤ 20) (h2 : x1 ≤ x2) : x0 ≤ 30 := by omega
theorem la_conditional_30 {x0 x1 x2 x3 x4 x5 x6 x7 x8 x9 x10 x11 x12 : Int} (h0 : x0 = x1) (h1 : x2 = x3) (h2 : x4 = x5) (h3 : x6 = x7) (h4 : x8 + 1 ≤ x9 + 2 * (x10 - x11)) (h5 : 0 ≤ x7) (h6 : x7 ≤ 20) (h7 : x1 ≤ 3 * x7 + 5) (h8 : x9 ≤ 2 * x11) (h9 : x3 ≤ x7) (h10 : x5 ≤ x7) : x12 = 0 → 0 ≤ x6 ∧ x6 ≤ 20 ∧ x0 ≤ 3 * x6 + 5 ∧ x8 ≤ 2 * (x10 + 1) ∧ x2 ≤ x6 ∧ x4 ≤ x6 := by omega
theorem la_conditional_31 {x0 x1 x2 x3 : Int} (h0 : x0 = x1) (h1 : x2 = x3) (h2 : x0 = 30 * (20 - x3) + 24) (h3 : x3 ≤ 20) : 0 ≤ 30 * (20 - x2) + 14 ∧ 30 * (20 - x2) + 14 < x1 := by omega
theorem la_conditional_32 {x0 x1 x2 : Int} (h0 : x0 = x1) (h1 : x2 = 30 * (20 - x1) + 24) (h2 : x1 ≤ 20) : 0 ≤ 30 * (20 - x0) + 14 ∧ 30 * (20 - x0) + 14 + 1 ≤ x2 := by omega
theorem la_conditional_33 {x0 x1 x2 : Int} (h0 : 0 ≤ x0) (h1 : x0 < x1) (h2 : x1 + 1 ≤ x2) : 0 ≤ x2 := by omega
theorem la_conditional_34 {x0 x1 : Int} (h0 : x0 = 30 * (20 - x1) + 24) (h1 : x1 ≤ 20) : 1 + 1 ≤ x0 := by omega
theorem la_conditional_35 {x0 : Int} (h0 : x0 = 1) : 0 ≤ x0 := by omega
theorem la_conditional_36 {x0 : Int} (h0 : 0 ≤ x0) (h1 : ¬ x0 = 0) : 0 < x0 := by omega
theorem la_conditional_37 {x0 : Int} (h0 : x0 = 0) : ¬ 0 < x0 := by omega
theorem la_conditional_38 {x0 x1 x2 x3 : Int} (h0 : 0 ≤ x0) (h1 : x0 < x1) (h2 : x2 = x3 + 1) (h3 : x1 + 1 < x3) : 0 ≤ x2 := by omega
theorem la_conditional_39 {x0 : Int} (h0 : x0 = 0) : 0 ≤ x0 := by omega
theorem la_conditional_40 {x0 x1 x2 : Int} (h0 : 1 ≤ x0) (h1 : x0 ≤ x1) (h2 : x1 ≤ x2) : 1 ≤ x2 := by omega
theorem la_conditional_41 {x0 x1 x2 x3 x4 x5 : Int} (h0 : x0 < x1) (h1 : x1 = x2) (h2 : x3 = x0) (h3 : x2 ≤ x4) (h4 : x5 = x3) : x5 < x4 := by omega
theorem la_conditional_42 {x0 x1 x2 x3 x4 : Int} (h0 : x0 < x1) (h1 : x1 = x2) (h2 : x3 = x0) (h3 : x4 = x3) : x4 < x2 := by omega
theorem la_conditional_43 {x0 x1 x2 : Int} (h0 : 0 ≤ x0) (h1 : x0 < x1) (h2 : x1 + 1 < x2) : 0 ≤ x2 := by omega
theorem la_conditional_44 {x0 x1 x2 : Int} (h0 : x0 = x1) (h1 : x2 = x0) : x2 = x1 := by omega
theorem la_conditional_45 {x0 x1 x2 x3 : Int} (h0 : x0 = 0) (h1 : x1 = x2) (h2 : x2 = x3) (h3 : x3 = x0) : x1 = 0 := by omega
theorem la_conditional_46 {x0 x1 x2 : Int} (h0 : 0 ≤ x0) (h1 : x1 = x0) (h2 : x2 = x1) : 0 ≤ x2 := by omega
theorem la_conditional_47 {x0 x1 x2 x3 x4 x5 x6 x7 : Int} (h0 : x0 < x1) (h1 : x1 = x2) (h2 : x3 = x0) (h3 : x2 ≤ x4) (h4 : x5 = x3) (h5 : x4 ≤ x6) (h6 : x7 = x6) : x5 < x7 := by omega
theorem la_conditional_48 {x0 x1 x2 : Int} (h0 : x0 ≤ 1 + x1) (h1 : x2 = x1 + 1) : x0 ≤ 1 + x2 := by omega
theorem la_conditional_49 {x0 x1 x2 : Int} (h0 : x0 ≤ 100) (h1 : x1 = x0) (h2 : x2 = x1) : x2 ≤ 100 := by omega
theorem la_conditional_50 {x0 x1 x2 : Int} (h0 : x0 ≤ 30) (h1 : x1 = x0) (h2 : x2 = x1) : x2 ≤ 30 := by omega
theorem la_conditional_51 {x0 x1 x2 x3 x4 x5 x6 x7 x8 x9 x10 x11 x12 x13 x14 x15 x16 x17 x18 x19 : Int} (h0 : x0 = x1) (h1 : x2 = x3) (h2 : x4 = x5) (h3 : x6 = x7) (h4 : x8 + 1 ≤ x9 + 2 * (x10 - x11)) (h5 : 0 ≤ x7) (h6 : x7 ≤ 20) (h7 : x1 ≤ 3 * x7 + 5) (h8 : x9 ≤ 2 * x11) (h9 : x3 ≤ x7) (h10 : x5 ≤ x7) (h11 : x12 = x0) (h12 : x13 = x2) (h13 : x14 = x4) (h14 : x15 = x16 + 1) (h15 : x17 = x6) (h16 : x18 + 1 ≤ x8 + 2 * (x16 - (x10 + 1))) : x19 = 0 → 0 ≤ x17 ∧ x17 ≤ 20 ∧ x12 ≤ 3 * x17 + 5 ∧ x18 ≤ 2 * x15 ∧ x13 ≤ x17 ∧ x14 ≤ x17 := by omega
theorem la_conditional_52 {x0 x1 x2 x3 x4 : Int} (h0 : x0 = x1) (h1 : x2 = x3) (h2 : x0 = 30 * (20 - x3) + 24) (h3 : x3 ≤ 20) (h4 : x4 = x2) : 0 ≤ 30 * (20 - x4) + 14 ∧ 30 * (20 - x4) + 14 < x1 := by omega
theorem la_conditional_53 {x0 x1 x2 x3 : Int} (h0 : x0 = x1) (h1 : x2 = 30 * (20 - x1) + 24) (h2 : x1 ≤ 20) (h3 : x3 = x0) : 0 ≤ 30 * (20 - x3) + 14 ∧ 30 * (20 - x3) + 14 + 1 ≤ x2 := by omega
theorem la_conditional_54 {x0 x1 x2 : Int} (h0 : 0 ≤ x0) (h1 : x0 < x1) (h2 : x1 ≤ x2) : 0 ≤ x2 := by omega
theorem la_conditional_55 {x0 x1 x2 x3 x4 x5 x6 x7 x8 x9 x10 x11 x12 x13 x14 : Int} (h0 : x0 ≤ 4001) (h1 : x1 = x2) (h2 : x3 + 1 ≤ x4 + 2 * (x5 - x6)) (h3 : 0 ≤ x2) (h4 : x4 ≤ 2 * x6) (h5 : x7 = x8 + 1) (h6 : x9 = x1) (h7 : x10 + 1 ≤ x3 + 2 * (x8 - (x5 + 1))) (h8 : x11 < x0) (h9 : 0 ≤ x12) (h10 : x12 = 0 → x13 = x9 ∧ x14 + 1 ≤ x10 + 2 * (x11 - x7)) (h11 : 0 < x12 → x14 ≤ x10 + 2 * (x11 - x7) + 2 * (30 * (20 - x9) + 14)) : x14 < 12000 := by omega
theorem la_conditional_56 {x0 : Int} (h0 : 0 ≤ x0) (h1 : x0 ≤ 20) : sv_R (17 * (20 - x0) + 17) := by omega
theorem la_conditional_57 {x0 : Int} (h0 : 0 ≤ x0) (h1 : x0 ≤ 20) : sv_R (20 - x0) := by omega
theorem la_conditional_58 {x0 x1 x2 x3 x4 : Int} (h0 : x0 < x1) (h1 : x2 = x3 + 1) (h2 : x1 + 1 < x3) (h3 : x2 ≤ x4) : x0 ≤ x4 := by omega
theorem la_conditional_59 {x0 x1 : Int} (h0 : ¬ 0 < x0) : 0 < x0 → 0 < x1 := by omega
theorem la_conditional_60 {x0 x1 x2 x3 : Int} (h0 : x0 ≤ x1) (h1 : x1 ≤ x2) (h2 : x2 ≤ x3) : x0 ≤ x3 := by omega
theorem la_conditional_61 {x0 x1 x2 x3 : Int} (h0 : x0 = 1 → x1 = 1) (h1 : x1 = 1 → x2 = 1) (h2 : x2 = 1 → x3 = 1) : x0 = 1 → x3 = 1 := by omega
theorem la_conditional_62 {x0 x1 x2 : Int} (h0 : x0 = x1) (h1 : 0 ≤ x2) (h2 : x2 < x1) : 0 ≤ x0 := by omega
theorem la_conditional_63 {x0 x1 x2 : Int} (h0 : x0 = x1) (h1 : x2 = x1 + 1) : x0 < x2 := by omega
theorem la_conditional_64 {x0 : Int} : 17 * (20 - x0) + (15 - 0) ≤ 17 * (20 - x0) + 17 - 2 := by omega
theorem la_conditional_65 {x0 x1 x2 x3 : Int} (h0 : x0 ≤ x1) (h1 : x1 ≤ x2) (h2 : x3 = x2 + 1) : x0 ≤ x3 := by omega
theorem la_conditional_66 {x0 x1 : Int} (h0 : x0 = x1) : 17 * (20 - x0) ≤ 17 * (20 - x1) + 17 - 2 := by omega
theorem la_conditional_67 {x0 x1 : Int} (h0 : x0 = x1) : 19 - x0 ≤ 20 - x1 := by omega
theorem la_conditional_68 {x0 x1 x2 : Int} (h0 : x0 ≤ x1) (h1 : x2 = x1 + 1) : x0 ≤ x2 := by omega
theorem la_conditional_69 {x0 x1 x2 : Int} (h0 : x0 = x1) (h1 : x2 = x0) : 17 * (20 - x2) ≤ 17 * (20 - x1) + 17 - 2 := by omega
theorem la_conditional_70 {x0 x1 x2 : Int} (h0 : x0 = x1) (h1 : x2 = x0) : 19 - x2 ≤ 20 - x1 := by omega
theorem la_conditional_71 {x0 x1 : Int} (h0 : x0 = x1 + 1) : x1 ≤ x0 := by omega
theorem la_conditional_72 {x0 : Int} (h0 : x0 ≤ 20) : 0 ≤ 17 * (20 - x0) + 17 := by omega
theorem la_conditional_73 {x0 : Int} (h0 : x0 ≤ 20) : 0 ≤ 20 - x0 := by omega
theorem la_conditional_74 {x0 x1 x2 : Int} (h0 : x0 ≤ x1) (h1 : x1 ≤ x2) : x0 ≤ x2 := by omega
theorem la_conditional_75 {x0 x1 x2 x3 x4 : Int} (h0 : x0 ≤ x1) (h1 : x1 ≤ x2) (h2 : x2 ≤ x3) (h3 : x4 = x3) : x0 ≤ x4 := by omega
theorem la_conditional_76 {x0 x1 x2 : Int} (h0 : x0 ≤ x1) (h1 : x1 ≤ x2) : 8 * x0 ≤ 8 * x2 := by omega
theorem la_conditional_77 {x0 x1 : Int} (h0 : x0 ≤ x1) : 8 * x0 ≤ 8 * x1 := by omega
theorem la_conditional_78 {x0 x1 x2 : Int} (h0 : x0 = x1) (h1 : x2 = x0) : x1 ≤ x2 := by omega
theorem la_conditional_79 {x0 x1 : Int} (h0 : x0 = x1) : x1 ≤ x0 := by omega
theorem la_conditional_80 {x0 x1 x2 x3 : Int} (h0 : x0 = x1) (h1 : x2 = x0) (h2 : x3 = x2) : x3 = x1 := by omega
theorem la_conditional_81 {x0 x1 x2 x3 x4 : Int} (h0 : x0 ≤ x1) (h1 : x1 ≤ x2) (h2 : x2 ≤ x3) (h3 : x4 = x3 + 1) : x0 ≤ x4 := by omega
theorem la_conditional_82 {x0 x1 x2 x3 x4 x5 x6 x7 x8 x9 x10 x11 x12 x13 x14 : Int} (h0 : x0 = x1) (h1 : x2 + 1 ≤ x3 + 2 * (x4 - x5)) (h2 : x6 = x7 + 1) (h3 : x8 = x0) (h4 : x9 + 1 ≤ x2 + 2 * (x7 - (x4 + 1))) (h5 : 0 ≤ x10) (h6 : x10 = 0 → x11 = x8 ∧ x12 + 1 ≤ x9 + 2 * (x13 - x6)) (h7 : x14 = x12 + 1) : x10 = 0 → x11 = x1 ∧ x14 + 1 ≤ x3 + 2 * (x13 - x5) := by omega
theorem la_conditional_83 {x0 x1 x2 x3 x4 x5 x6 x7 x8 x9 x10 x11 x12 x13 x14 x15 : Int} (h0 : x0 = x1) (h1 : x2 + 1 ≤ x3 + 2 * (x4 - x5)) (h2 : x6 = 30 * (20 - x1) + 24) (h3 : x1 ≤ 20) (h4 : x7 = x8 + 1) (h5 : x9 = x0) (h6 : x10 + 1 ≤ x2 + 2 * (x8 - (x4 + 1))) (h7 : x11 = 0 → x12 = x9 ∧ x13 + 1 ≤ x10 + 2 * (x14 - x7)) (h8 : 0 < x11 → x13 ≤ x10 + 2 * (x14 - x7) + 2 * (30 * (20 - x9) + 14)) (h9 : x15 = x13 + 1) : 0 < x11 → x15 ≤ x3 + 2 * (x14 - x5) + 2 * x6 := by omega
theorem la_conditional_84 {x0 x1 x2 x3 : Int} (h0 : 0 ≤ x0) (h1 : x0 < x1) (h2 : x1 ≤ x2) (h3 : x3 = x2) : (-1) ≤ x3 := by omega
theorem la_conditional_85 {x0 x1 : Int} (h0 : x0 = x1) : ¬ x0 < x1 := by omega
theorem la_conditional_86 {x0 x1 x2 x3 x4 x5 x6 x7 x8 x9 x10 x11 x12 x13 x14 x15 : Int} (h0 : x0 ≤ 4001) (h1 : x1 = x2) (h2 : x3 + 1 ≤ x4 + 2 * (x5 - x6)) (h3 : 0 ≤ x2) (h4 : x4 ≤ 2 * x6) (h5 : x7 = x8 + 1) (h6 : x9 = x1) (h7 : x10 + 1 ≤ x3 + 2 * (x8 - (x5 + 1))) (h8 : x11 < x0) (h9 : 0 ≤ x12) (h10 : x12 = 0 → x13 = x9 ∧ x14 + 1 ≤ x10 + 2 * (x11 - x7)) (h11 : 0 < x12 → x14 ≤ x10 + 2 * (x11 - x7) + 2 * (30 * (20 - x9) + 14)) (h12 : x15 = x14) : x15 < 12000 := by omega
theorem la_conditional_87 {x0 x1 x2 x3 x4 : Int} (h0 : x0 < x1) (h1 : x2 = x3 + 1) (h2 : x1 + 1 < x3) (h3 : x2 < x4) : x0 < x4 := by omega
theorem la_conditional_88 : (1 : Int) = 1 := by omega
theorem la_conditional_89 {x0 : Int} : 17 * (20 - x0) + 17 ≤ 17 * (20 - x0) + 17 := by omega
theorem la_conditional_90 {x0 : Int} : 20 - x0 ≤ 20 - x0 := by omega
theorem la_conditional_91 {x0 : Int} (h0 : x0 = 14) : ¬ x0 = 2 := by omega
theorem la_conditional_92 {x0 x1 x2 : Int} (h0 : x0 < x1) (h1 : x2 = x0) : x2 < x1 := by omega
theorem la_conditional_93 {x0 x1 x2 x3 x4 : Int} (h0 : x0 < x1) (h1 : x1 ≤ x2) (h2 : x2 ≤ x3) (h3 : x4 = x0) : x4 < x3 := by omega
theorem la_conditional_94 {x0 x1 x2 x3 : Int} (h0 : x0 < x1) (h1 : x1 ≤ x2) (h2 : x2 ≤ x3) : x0 < x3 := by omega
theorem la_conditional_95 {x0 x1 x2 x3 : Int} (h0 : x0 < x1) (h1 : x1 ≤ x2) (h2 : x3 = x0) : x3 < x2 := by omega
theorem la_conditional_96 {x0 x1 x2 : Int} (h0 : x0 < x1) (h1 : x1 ≤ x2) : x0 < x2 := by omega
theorem la_conditional_97 {x0 : Int} : x0 = x0 := by omega
theorem la_conditional_98 {x0 x1 : Int} (h0 : x0 = x1) : x1 = x0 := by omega
theorem la_conditional_99 {x0 x1 : Int} (h0 : x0 = x1) : 5 * x1 = 5 * x0 := by omega
theorem la_conditional_100 {x0 x1 : Int} (h0 : x0 = x1) : 5 * x1 + 1 = 5 * x0 + 1 := by omega
theorem la_conditional_101 {x0 x1 : Int} (h0 : x0 = x1) : 5 * x1 + 2 = 5 * x0 + 2 := by omega
theorem la_conditional_102 {x0 x1 : Int} (h0 : x0 = x1) : 5 * x1 + 3 = 5 * x0 + 3 := by omega
theorem la_conditional_103 {x0 x1 : Int} (h0 : x0 = x1) : 5 * x1 + 4 = 5 * x0 + 4 := by omega
theorem la_conditional_104 {x0 : Int} (h0 : x0 = 14) (h1 : x0 = 7) : False := by omega
theorem la_conditional_105 {x0 : Int} (h0 : ¬ 0 < x0) (h1 : 0 < x0) : False := by omega
theorem la_conditional_106 {x0 x1 x2 x3 x4 x5 x6 : Int} (h0 : ¬ ¬ x0 = 0) : ¬ (x0 = 1 ∧ x1 = 0 ∧ x2 = 0 ∧ x3 = x4 + 1 ∧ x3 < x5 ∧ x6 = 5) := by omega
theorem la_conditional_107 {x0 x1 x2 x3 : Int} (h0 : x0 < x1) (h1 : x1 + 1 ≤ x2) (h2 : x3 = x2) : x0 ≤ x3 := by omega
theorem la_conditional_108 {x0 : Int} (h0 : 0 < x0) : 0 ≤ x0 := by omega
theorem la_conditional_109 {x0 x1 x2 : Int} (h0 : x0 = 1 → x1 = 1) (h1 : x1 = 1 → x2 = 1) : x0 = 1 → x2 = 1 := by omega
theorem la_conditional_110 {x0 x1 x2 : Int} (h0 : x0 ≤ 1 + x1) (h1 : x2 = x1) : x0 ≤ 1 + x2 := by omega
theorem la_conditional_111 {x0 x1 x2 x3 x4 x5 x6 : Int} (h0 : 0 < x0) : x0 = 0 → x1 = x2 ∧ x3 + 1 ≤ x4 + 2 * (x5 - x6) := by omega
theorem la_conditional_112 {x0 x1 x2 x3 x4 x5 x6 x7 x8 x9 x10 x11 x12 : Int} (h0 : x0 = x1) (h1 : x2 + 1 ≤ x3 + 2 * (x4 - x5)) (h2 : x6 = 30 * (20 - x1) + 24) (h3 : x1 ≤ 20) (h4 : 0 ≤ x7) (h5 : x7 = 0 → x8 = x0 ∧ x9 + 1 ≤ x2 + 2 * (x10 - (x4 + 1))) (h6 : 0 < x7 → x9 ≤ x2 + 2 * (x10 - (x4 + 1)) + 2 * (30 * (20 - x0) + 14)) (h7 : x11 = x10) : 0 < x12 → x9 ≤ x3 + 2 * (x11 - x5) + 2 * x6 := by omega
theorem la_conditional_113 : ((-1) : Int) ≤ (-1) := by omega
theorem la_conditional_114 : ((-1) : Int) < 12000 := by omega
theorem la_conditional_115 {x0 x1 x2 x3 : Int} (h0 : x0 < x1) (h1 : x1 + 1 ≤ x2) (h2 : x3 = x2) : x0 < x3 := by omega
theorem la_conditional_116 {x0 x1 x2 x3 x4 x5 : Int} (h0 : ¬ 0 < x0) : 0 < x0 → x1 ≤ x2 + 2 * (x3 - x4) + 2 * x5 := by omega
theorem la_conditional_117 {x0 : Int} : 17 * (20 - x0) + (15 - 0) ≤ 17 * (20 - x0) + 17 := by omega
set_option maxHeartbeats 8000000 in
theorem f_conditional : ∀ (d : Int) (p1 : Int) (S : sv_S), sm_ok S → (0 ≤ p1 ∧ p1 ≤ 1) → (0 ≤ (S 1020 0) ∧ (S 1020 0) < (S 1012 0) ∧ sm_TK (S 6) (S 8) (S 9) (S 10) (S 1012 0) ∧ 0 ≤ (S 1021 0) ∧ 0 ≤ (S 1004 0) ∧ (S 1004 0) ≤ 4000 ∧ 1 ≤ (S 1007 0) ∧ (S 1007 0) ≤ 90 ∧ sm_LN (S 4) 400 (S 1007 0) ∧ ((S 1021 0) = 0 → sm_WF (S 11) (S 12) (S 13) (S 1100001) (S 1100002) (S 1100005) (S 1100003) (S 1100004) (S 1024 0) (S 1007 0) (S 1009 0) (sm_fn (S 1032 0) (S 21) (S 1043 0)) ∧ sm_FT (S 11) (S 12) (S 13) (S 1100019) (S 17) (S 18) (S 21) (S 19) (S 20) (S 22) (S 1100016) (S 1024 0) (S 1007 0) (S 1009 0) (S 1032 0) (S 1032 0) ∧ sm_WG (S 1100001) (S 1100019) (S 1043 0) ∧ (S 1100016 (S 1043 0)) = 0) ∧ sm_HD (S 23) (S 24) (S 1100018 0) (S 1007 0) ∧ sm_HD (S 25) (fun _ : Int => (S 1042 0)) 1 (S 1007 0) ∧ 0 ≤ (S 1043 0) ∧ (S 1043 0) < (S 1100018 0) ∧ (S 1100018 0) = (S 1032 0) ∧ (S 1032 0) ≤ 1 + (S 1020 0) ∧ 0 ≤ (S 1031 0) ∧ (S 1031 0) ≤ 100 ∧ 0 ≤ (S 1044 0) ∧ (S 1044 0) ≤ 30 ∧ 0 ≤ (S 1045 0) ∧ (S 1045 0) ≤ 30 ∧ 0 ≤ (S 1024 0) ∧ ((S 1021 0) = 0 → 0 ≤ (S 1023 0) ∧ (S 1023 0) ≤ 20 ∧ (S 1031 0) ≤ 3 * (S 1023 0) + 5 ∧ (S 1024 0) ≤ 2 * (S 1020 0) ∧ (S 1044 0) ≤ (S 1023 0) ∧ (S 1045 0) ≤ (S 1023 0))) → ((if 0 < (S 1021 0) then 11 else 30 * (20 - (S 1023 0)) + 24)) = d → (0 ≤ p1 ∧ p1 ≤ 1) ∧ (0 ≤ (S 1020 0) ∧ (S 1020 0) < (S 1012 0) ∧ sm_TK (S 6) (S 8) (S 9) (S 10) (S 1012 0) ∧ 0 ≤ (S 1021 0) ∧ 0 ≤ (S 1004 0) ∧ (S 1004 0) ≤ 4000 ∧ 1 ≤ (S 1007 0) ∧ (S 1007 0) ≤ 90 ∧ sm_LN (S 4) 400 (S 1007 0) ∧ ((S 1021 0) = 0 → sm_WF (S 11) (S 12) (S 13) (S 1100001) (S 1100002) (S 1100005) (S 1100003) (S 1100004) (S 1024 0) (S 1007 0) (S 1009 0) (sm_fn (S 1032 0) (S 21) (S 1043 0)) ∧ sm_FT (S 11) (S 12) (S 13) (S 1100019) (S 17) (S 18) (S 21) (S 19) (S 20) (S 22) (S 1100016) (S 1024 0) (S 1007 0) (S 1009 0) (S 1032 0) (S 1032 0) ∧ sm_WG (S 1100001) (S 1100019) (S 1043 0) ∧ (S 1100016 (S 1043 0)) = 0) ∧ sm_HD (S 23) (S 24) (S 1100018 0) (S 1007 0) ∧ sm_HD (S 25) (fun _ : Int => (S 1042 0)) 1 (S 1007 0) ∧ 0 ≤ (S 1043 0) ∧ (S 1043 0) < (S 1100018 0) ∧ (S 1100018 0) = (S 1032 0) ∧ (S 1032 0) ≤ 1 + (S 1020 0) ∧ 0 ≤ (S 1031 0) ∧ (S 1031 0) ≤ 100 ∧ 0 ≤ (S 1044 0) ∧ (S 1044 0) ≤ 30 ∧ 0 ≤ (S 1045 0) ∧ (S 1045 0) ≤ 30 ∧ 0 ≤ (S 1024 0) ∧ ((S 1021 0) = 0 → 0 ≤ (S 1023 0) ∧ (S 1023 0) ≤ 20 ∧ (S 1031 0) ≤ 3 * (S 1023 0) + 5 ∧ (S 1024 0) ≤ 2 * (S 1020 0) ∧ (S 1044 0) ≤ (S 1023 0) ∧ (S 1045 0) ≤ (S 1023 0)) ∧ 0 ≤ (0 : Int) ∧ (0 : Int) ≤ 10) ∧ (0 ≤ ((if 0 < (S 1021 0) then 10 else 30 * (20 - (S 1023 0)) + (23 - (0 : Int)))) ∧ ((if 0 < (S 1021 0) then 10 else 30 * (20 - (S 1023 0)) + (23 - (0 : Int)))) < d) ∧ (0 ≤ ((if 0 < (S 1021 0) then 10 else 30 * (20 - (S 1023 0)) + (23 - (0 : Int)))) ∧ ((if 0 < (S 1021 0) then 10 else 30 * (20 - (S 1023 0)) + (23 - (0 : Int)))) + 1 ≤ ((if 0 < (S 1021 0) then 11 else 30 * (20 - (S 1023 0)) + 24))) ∧ (∀ r9 : Int, sv_R r9 → ∀ g5 : sv_S, ((S 1020 0) ≤ (g5 1020 0) ∧ (g5 1020 0) < (S 1012 0) ∧ 0 ≤ (g5 1021 0) ∧ (0 < (S 1021 0) → 0 < (g5 1021 0)) ∧ (S 1007 0) ≤ (g5 1007 0) ∧ (g5 1007 0) ≤ 90 ∧ sm_LN (g5 4) 400 (g5 1007 0) ∧ ((S 1009 0) = 1 → (g5 1009 0) = 1) ∧ ((g5 1021 0) = 0 → sm_WF (g5 11) (g5 12) (g5 13) (g5 1100001) (g5 1100002) (g5 1100005) (g5 1100003) (g5 1100004) (g5 1024 0) (g5 1007 0) (g5 1009 0) (sm_fn (g5 1032 0) (g5 21) (g5 1043 0)) ∧ sm_PX (S 11) (S 12) (S 13) (S 1100001) (S 1100002) (S 1100005) (S 1100003) (S 1100004) (g5 11) (g5 12) (g5 13) (g5 1100001) (g5 1100002) (g5 1100005) (g5 1100003) (g5 1100004) (S 1024 0) ∧ sm_FT (g5 11) (g5 12) (g5 13) (g5 1100019) (g5 17) (g5 18) (g5 21) (g5 19) (g5 20) (g5 22) (g5 1100016) (g5 1024 0) (g5 1007 0) (g5 1009 0) (g5 1032 0) (g5 1032 0) ∧ sm_WG (g5 1100001) (g5 1100019) (g5 1043 0) ∧ sm_F1 (S 1100019) (g5 1100019) (S 1024 0) ∧ sm_F1 (S 17) (g5 17) (S 1032 0) ∧ sm_F1 (S 18) (g5 18) (S 1032 0) ∧ sm_F1 (S 21) (g5 21) (S 1032 0) ∧ sm_F1 (S 20) (g5 20) (S 1032 0) ∧ sm_F1 (S 22) (g5 22) (S 1032 0) ∧ sm_F1 (S 1100016) (g5 1100016) (S 1032 0) ∧ sm_F1 (S 19) (g5 19) (8 * (S 1032 0)) ∧ sm_FN (g5 1100016) (S 1032 0) (g5 1032 0)) ∧ sm_KL (S 15) (S 16) (g5 15) (g5 16) (S 1031 0) ∧ sm_HD (g5 23) (g5 24) (g5 1100018 0) (g5 1007 0) ∧ sm_HD (g5 25) (fun _ : Int => (g5 1042 0)) 1 (g5 1007 0) ∧ (g5 1031 0) = (S 1031 0) ∧ (g5 1043 0) = (S 1043 0) ∧ (g5 1044 0) = (S 1044 0) ∧ (g5 1045 0) = (S 1045 0) ∧ (S 1032 0) ≤ (g5 1032 0) ∧ (g5 1032 0) ≤ 1 + (g5 1020 0) ∧ (g5 1100018 0) = (g5 1032 0) ∧ (S 1024 0) ≤ (g5 1024 0) ∧ ((g5 1021 0) = 0 → (g5 1023 0) = (S 1023 0) ∧ (g5 1024 0) + 1 ≤ (S 1024 0) + 2 * ((g5 1020 0) - (S 1020 0))) ∧ (0 < (g5 1021 0) → (g5 1024 0) ≤ (S 1024 0) + 2 * ((g5 1020 0) - (S 1020 0)) + 2 * ((if 0 < (S 1021 0) then 10 else 30 * (20 - (S 1023 0)) + (23 - (0 : Int))))) ∧ -1 ≤ r9 ∧ r9 < 12000 ∧ ((g5 1021 0) = 0 → (S 1020 0) < (g5 1020 0) ∧ 1 ≤ (S 6 (S 1020 0)) ∧ sm_ex (g5 1100001) (g5 1100002) (g5 1100005) (g5 1024 0) 1 r9 (17 * (20 - (S 1023 0)) + (15 - (0 : Int))) (20 - (S 1023 0)) ∧ ((g5 11 r9) = 2 ∨ (g5 11 r9) = 7 → (g5 1100002 r9) ≤ 17 * (20 - (S 1023 0)) + 2)) ∧ (0 < (S 1021 0) → (g5 1020 0) = (S 1020 0) ∧ (g5 1024 0) = (S 1024 0))) → (sv_R (g5 1021 0) → ((((0 : Int) < (g5 1021 0)) → ((S 1020 0) ≤ (g5 1020 0) ∧ (g5 1020 0) < (S 1012 0) ∧ 0 ≤ (g5 1021 0) ∧ (0 < (S 1021 0) → 0 < (g5 1021 0)) ∧ (S 1007 0) ≤ (g5 1007 0) ∧ (g5 1007 0) ≤ 90 ∧ sm_LN (g5 4) 400 (g5 1007 0) ∧ ((S 1009 0) = 1 → (g5 1009 0) = 1) ∧ ((g5 1021 0) = 0 → sm_WF (g5 11) (g5 12) (g5 13) (g5 1100001) (g5 1100002) (g5 1100005) (g5 1100003) (g5 1100004) (g5 1024 0) (g5 1007 0) (g5 1009 0) (sm_fn (g5 1032 0) (g5 21) (g5 1043 0)) ∧ sm_PX (S 11) (S 12) (S 13) (S 1100001) (S 1100002) (S 1100005) (S 1100003) (S 1100004) (g5 11) (g5 12) (g5 13) (g5 1100001) (g5 1100002) (g5 1100005) (g5 1100003) (g5 1100004) (S 1024 0) ∧ sm_FT (g5 11) (g5 12) (g5 13) (g5 1100019) (g5 17) (g5 18) (g5 21) (g5 19) (g5 20) (g5 22) (g5 1100016) (g5 1024 0) (g5 1007 0) (g5 1009 0) (g5 1032 0) (g5 1032 0) ∧ sm_WG (g5 1100001) (g5 1100019) (g5 1043 0) ∧ sm_F1 (S 1100019) (g5 1100019) (S 1024 0) ∧ sm_F1 (S 17) (g5 17) (S 1032 0) ∧ sm_F1 (S 18) (g5 18) (S 1032 0) ∧ sm_F1 (S 21) (g5 21) (S 1032 0) ∧ sm_F1 (S 20) (g5 20) (S 1032 0) ∧ sm_F1 (S 22) (g5 22) (S 1032 0) ∧ sm_F1 (S 1100016) (g5 1100016) (S 1032 0) ∧ sm_F1 (S 19) (g5 19) (8 * (S 1032 0)) ∧ sm_FN (g5 1100016) (S 1032 0) (g5 1032 0)) ∧ sm_KL (S 15) (S 16) (g5 15) (g5 16) (S 1031 0) ∧ sm_HD (g5 23) (g5 24) (g5 1100018 0) (g5 1007 0) ∧ sm_HD (g5 25) (fun _ : Int => (g5 1042 0)) 1 (g5 1007 0) ∧ (g5 1031 0) = (S 1031 0) ∧ (g5 1043 0) = (S 1043 0) ∧ (g5 1044 0) = (S 1044 0) ∧ (g5 1045 0) = (S 1045 0) ∧ (S 1032 0) ≤ (g5 1032 0) ∧ (g5 1032 0) ≤ 1 + (g5 1020 0) ∧ (g5 1100018 0) = (g5 1032 0) ∧ (S 1024 0) ≤ (g5 1024 0) ∧ ((g5 1021 0) = 0 → (g5 1023 0) = (S 1023 0) ∧ (g5 1024 0) + 1 ≤ (S 1024 0) + 2 * ((g5 1020 0) - (S 1020 0))) ∧ (0 < (g5 1021 0) → (g5 1024 0) ≤ (S 1024 0) + 2 * ((g5 1020 0) - (S 1020 0)) + 2 * ((if 0 < (S 1021 0) then 11 else 30 * (20 - (S 1023 0)) + 24))) ∧ -1 ≤ r9 ∧ r9 < 12000 ∧ ((g5 1021 0) = 0 → (S 1020 0) < (g5 1020 0) ∧ 1 ≤ (S 6 (S 1020 0)) ∧ sm_ex (g5 1100001) (g5 1100002) (g5 1100005) (g5 1024 0) 1 r9 (17 * (20 - (S 1023 0)) + 17) (20 - (S 1023 0)) ∧ ((g5 11 r9) = 2 ∨ (g5 11 r9) = 7 → (g5 1100002 r9) ≤ 17 * (20 - (S 1023 0)) + 2)) ∧ (0 < (S 1021 0) → (g5 1020 0) = (S 1020 0) ∧ (g5 1024 0) = (S 1024 0)))) ∧ ((¬ ((0 : Int) < (g5 1021 0))) → (0 ≤ (g5 1020 0) ∧ (g5 1020 0) ≤ 4000) ∧ (0 + 1 ≤ ((if 0 < (S 1021 0) then 11 else 30 * (20 - (S 1023 0)) + 24))) ∧ ((((S 6 (g5 1020 0)) = 5 ∧ (S 7 (g5 1020 0)) = (45 : Int)) → (sv_R (g5 1020 0) → (sv_R ((g5 1020 0) + (1 : Int))) ∧ (0 ≤ ((g5 1020 0) + (1 : Int)) ∧ ((g5 1020 0) + (1 : Int)) < (S 1012 0) ∧ sm_TK (S 6) (S 8) (S 9) (S 10) (S 1012 0) ∧ 0 ≤ (g5 1021 0) ∧ 0 ≤ (S 1004 0) ∧ (S 1004 0) ≤ 4000 ∧ 1 ≤ (g5 1007 0) ∧ (g5 1007 0) ≤ 90 ∧ sm_LN (g5 4) 400 (g5 1007 0) ∧ ((g5 1021 0) = 0 → sm_WF (g5 11) (g5 12) (g5 13) (g5 1100001) (g5 1100002) (g5 1100005) (g5 1100003) (g5 1100004) (g5 1024 0) (g5 1007 0) (g5 1009 0) (sm_fn (g5 1032 0) (g5 21) (g5 1043 0)) ∧ sm_FT (g5 11) (g5 12) (g5 13) (g5 1100019) (g5 17) (g5 18) (g5 21) (g5 19) (g5 20) (g5 22) (g5 1100016) (g5 1024 0) (g5 1007 0) (g5 1009 0) (g5 1032 0) (g5 1032 0) ∧ sm_WG (g5 1100001) (g5 1100019) (g5 1043 0) ∧ (g5 1100016 (g5 1043 0)) = 0) ∧ sm_HD (g5 23) (g5 24) (g5 1100018 0) (g5 1007 0) ∧ sm_HD (g5 25) (fun _ : Int => (g5 1042 0)) 1 (g5 1007 0) ∧ 0 ≤ (g5 1043 0) ∧ (g5 1043 0) < (g5 1100018 0) ∧ (g5 1100018 0) = (g5 1032 0) ∧ (g5 1032 0) ≤ 1 + ((g5 1020 0) + (1 : Int)) ∧ 0 ≤ (g5 1031 0) ∧ (g5 1031 0) ≤ 100 ∧ 0 ≤ (g5 1044 0) ∧ (g5 1044 0) ≤ 30 ∧ 0 ≤ (g5 1045 0) ∧ (g5 1045 0) ≤ 30 ∧ 0 ≤ (g5 1024 0) ∧ ((g5 1021 0) = 0 → 0 ≤ (g5 1023 0) ∧ (g5 1023 0) ≤ 20 ∧ (g5 1031 0) ≤ 3 * (g5 1023 0) + 5 ∧ (g5 1024 0) ≤ 2 * ((g5 1020 0) + (1 : Int)) ∧ (g5 1044 0) ≤ (g5 1023 0) ∧ (g5 1045 0) ≤ (g5 1023 0)) ∧ (g5 1021 0) = 0) ∧ (0 ≤ (30 * (20 - (g5 1023 0)) + 14) ∧ (30 * (20 - (g5 1023 0)) + 14) < d) ∧ (0 ≤ (30 * (20 - (g5 1023 0)) + 14) ∧ (30 * (20 - (g5 1023 0)) + 14) + 1 ≤ ((if 0 < (S 1021 0) then 11 else 30 * (20 - (S 1023 0)) + 24))) ∧ (∀ r25 : Int, sv_R r25 → ∀ g21 : sv_S, (((g5 1020 0) + (1 : Int)) ≤ (g21 1020 0) ∧ (g21 1020 0) < (S 1012 0) ∧ 0 ≤ (g21 1021 0) ∧ (0 < (g5 1021 0) → 0 < (g21 1021 0)) ∧ (g5 1007 0) ≤ (g21 1007 0) ∧ (g21 1007 0) ≤ 90 ∧ sm_LN (g21 4) 400 (g21 1007 0) ∧ ((g5 1009 0) = 1 → (g21 1009 0) = 1) ∧ ((g21 1021 0) = 0 → sm_WF (g21 11) (g21 12) (g21 13) (g21 1100001) (g21 1100002) (g21 1100005) (g21 1100003) (g21 1100004) (g21 1024 0) (g21 1007 0) (g21 1009 0) (sm_fn (g21 1032 0) (g21 21) (g21 1043 0)) ∧ sm_PX (g5 11) (g5 12) (g5 13) (g5 1100001) (g5 1100002) (g5 1100005) (g5 1100003) (g5 1100004) (g21 11) (g21 12) (g21 13) (g21 1100001) (g21 1100002) (g21 1100005) (g21 1100003) (g21 1100004) (g5 1024 0) ∧ sm_FT (g21 11) (g21 12) (g21 13) (g21 1100019) (g21 17) (g21 18) (g21 21) (g21 19) (g21 20) (g21 22) (g21 1100016) (g21 1024 0) (g21 1007 0) (g21 1009 0) (g21 1032 0) (g21 1032 0) ∧ sm_WG (g21 1100001) (g21 1100019) (g21 1043 0) ∧ sm_F1 (g5 1100019) (g21 1100019) (g5 1024 0) ∧ sm_F1 (g5 17) (g21 17) (g5 1032 0) ∧ sm_F1 (g5 18) (g21 18) (g5 1032 0) ∧ sm_F1 (g5 21) (g21 21) (g5 1032 0) ∧ sm_F1 (g5 20) (g21 20) (g5 1032 0) ∧ sm_F1 (g5 22) (g21 22) (g5 1032 0) ∧ sm_F1 (g5 1100016) (g21 1100016) (g5 1032 0) ∧ sm_F1 (g5 19) (g21 19) (8 * (g5 1032 0)) ∧ sm_FN (g21 1100016) (g5 1032 0) (g21 1032 0)) ∧ sm_KL (g5 15) (g5 16) (g21 15) (g21 16) (g5 1031 0) ∧ sm_HD (g21 23) (g21 24) (g21 1100018 0) (g21 1007 0) ∧ sm_HD (g21 25) (fun _ : Int => (g21 1042 0)) 1 (g21 1007 0) ∧ (g21 1031 0) = (g5 1031 0) ∧ (g21 1043 0) = (g5 1043 0) ∧ (g21 1044 0) = (g5 1044 0) ∧ (g21 1045 0) = (g5 1045 0) ∧ (g5 1032 0) ≤ (g21 1032 0) ∧ (g21 1032 0) ≤ 1 + (g21 1020 0) ∧ (g21 1100018 0) = (g21 1032 0) ∧ (g5 1024 0) ≤ (g21 1024 0) ∧ ((g21 1021 0) = 0 → (g21 1023 0) = (g5 1023 0) ∧ (g21 1024 0) + 1 ≤ (g5 1024 0) + 2 * ((g21 1020 0) - ((g5 1020 0) + (1 : Int)))) ∧ (0 < (g21 1021 0) → (g21 1024 0) ≤ (g5 1024 0) + 2 * ((g21 1020 0) - ((g5 1020 0) + (1 : Int))) + 2 * (30 * (20 - (g5 1023 0)) + 14)) ∧ -1 ≤ r25 ∧ r25 < 12000 ∧ ((g21 1021 0) = 0 → sm_ex (g21 1100001) (g21 1100002) (g21 1100005) (g21 1024 0) 1 r25 (17 * (20 - (g5 1023 0))) (19 - (g5 1023 0)) ∧ ((g5 1020 0) + (1 : Int)) < (g21 1020 0))) → (0 ≤ (g21 1020 0) ∧ (g21 1020 0) < (S 1012 0) ∧ sm_TK (S 6) (S 8) (S 9) (S 10) (S 1012 0) ∧ 0 ≤ (g21 1021 0)) ∧ (1 + 1 ≤ ((if 0 < (S 1021 0) then 11 else 30 * (20 - (S 1023 0)) + 24))) ∧ (∀ r33 : Int, sv_R r33 → ∀ g29 : sv_S, ((r33 = 0 ∧ 0 < (g29 1021 0) ∧ (g29 1020 0) = (g21 1020 0)) ∨ (r33 = 1 ∧ (g29 1021 0) = 0 ∧ (g21 1021 0) = 0 ∧ (g29 1020 0) = (g21 1020 0) + 1 ∧ (g29 1020 0) < (S 1012 0) ∧ (S 6 (g21 1020 0)) = 5)) → (((¬ r33 = (0 : Int)) → (0 ≤ (g29 1020 0) ∧ (g29 1020 0) < (S 1012 0) ∧ sm_TK (S 6) (S 8) (S 9) (S 10) (S 1012 0) ∧ 0 ≤ (g29 1021 0) ∧ 0 ≤ (S 1004 0) ∧ (S 1004 0) ≤ 4000 ∧ 1 ≤ (g21 1007 0) ∧ (g21 1007 0) ≤ 90 ∧ sm_LN (g21 4) 400 (g21 1007 0) ∧ ((g29 1021 0) = 0 → sm_WF (g21 11) (g21 12) (g21 13) (g21 1100001) (g21 1100002) (g21 1100005) (g21 1100003) (g21 1100004) (g21 1024 0) (g21 1007 0) (g21 1009 0) (sm_fn (g21 1032 0) (g21 21) (g21 1043 0)) ∧ sm_FT (g21 11) (g21 12) (g21 13) (g21 1100019) (g21 17) (g21 18) (g21 21) (g21 19) (g21 20) (g21 22) (g21 1100016) (g21 1024 0) (g21 1007 0) (g21 1009 0) (g21 1032 0) (g21 1032 0) ∧ sm_WG (g21 1100001) (g21 1100019) (g21 1043 0) ∧ (g21 1100016 (g21 1043 0)) = 0) ∧ sm_HD (g21 23) (g21 24) (g21 1100018 0) (g21 1007 0) ∧ sm_HD (g21 25) (fun _ : Int => (g21 1042 0)) 1 (g21 1007 0) ∧ 0 ≤ (g21 1043 0) ∧ (g21 1043 0) < (g21 1100018 0) ∧ (g21 1100018 0) = (g21 1032 0) ∧ (g21 1032 0) ≤ 1 + (g29 1020 0) ∧ 0 ≤ (g21 1031 0) ∧ (g21 1031 0) ≤ 100 ∧ 0 ≤ (g21 1044 0) ∧ (g21 1044 0) ≤ 30 ∧ 0 ≤ (g21 1045 0) ∧ (g21 1045 0) ≤ 30 ∧ 0 ≤ (g21 1024 0) ∧ ((g29 1021 0) = 0 → 0 ≤ (g21 1023 0) ∧ (g21 1023 0) ≤ 20 ∧ (g21 1031 0) ≤ 3 * (g21 1023 0) + 5 ∧ (g21 1024 0) ≤ 2 * (g29 1020 0) ∧ (g21 1044 0) ≤ (g21 1023 0) ∧ (g21 1045 0) ≤ (g21 1023 0)) ∧ (g29 1021 0) = 0) ∧ (0 ≤ (30 * (20 - (g21 1023 0)) + 14) ∧ (30 * (20 - (g21 1023 0)) + 14) < d) ∧ (0 ≤ (30 * (20 - (g21 1023 0)) + 14) ∧ (30 * (20 - (g21 1023 0)) + 14) + 1 ≤ ((if 0 < (S 1021 0) then 11 else 30 * (20 - (S 1023 0)) + 24))) ∧ (∀ r42 : Int, sv_R r42 → ∀ g38 : sv_S, ((g29 1020 0) ≤ (g38 1020 0) ∧ (g38 1020 0) < (S 1012 0) ∧ 0 ≤ (g38 1021 0) ∧ (0 < (g29 1021 0) → 0 < (g38 1021 0)) ∧ (g21 1007 0) ≤ (g38 1007 0) ∧ (g38 1007 0) ≤ 90 ∧ sm_LN (g38 4) 400 (g38 1007 0) ∧ ((g21 1009 0) = 1 → (g38 1009 0) = 1) ∧ ((g38 1021 0) = 0 → sm_WF (g38 11) (g38 12) (g38 13) (g38 1100001) (g38 1100002) (g38 1100005) (g38 1100003) (g38 1100004) (g38 1024 0) (g38 1007 0) (g38 1009 0) (sm_fn (g38 1032 0) (g38 21) (g38 1043 0)) ∧ sm_PX (g21 11) (g21 12) (g21 13) (g21 1100001) (g21 1100002) (g21 1100005) (g21 1100003) (g21 1100004) (g38 11) (g38 12) (g38 13) (g38 1100001) (g38 1100002) (g38 1100005) (g38 1100003) (g38 1100004) (g21 1024 0) ∧ sm_FT (g38 11) (g38 12) (g38 13) (g38 1100019) (g38 17) (g38 18) (g38 21) (g38 19) (g38 20) (g38 22) (g38 1100016) (g38 1024 0) (g38 1007 0) (g38 1009 0) (g38 1032 0) (g38 1032 0) ∧ sm_WG (g38 1100001) (g38 1100019) (g38 1043 0) ∧ sm_F1 (g21 1100019) (g38 1100019) (g21 1024 0) ∧ sm_F1 (g21 17) (g38 17) (g21 1032 0) ∧ sm_F1 (g21 18) (g38 18) (g21 1032 0) ∧ sm_F1 (g21 21) (g38 21) (g21 1032 0) ∧ sm_F1 (g21 20) (g38 20) (g21 1032 0) ∧ sm_F1 (g21 22) (g38 22) (g21 1032 0) ∧ sm_F1 (g21 1100016) (g38 1100016) (g21 1032 0) ∧ sm_F1 (g21 19) (g38 19) (8 * (g21 1032 0)) ∧ sm_FN (g38 1100016) (g21 1032 0) (g38 1032 0)) ∧ sm_KL (g21 15) (g21 16) (g38 15) (g38 16) (g21 1031 0) ∧ sm_HD (g38 23) (g38 24) (g38 1100018 0) (g38 1007 0) ∧ sm_HD (g38 25) (fun _ : Int => (g38 1042 0)) 1 (g38 1007 0) ∧ (g38 1031 0) = (g21 1031 0) ∧ (g38 1043 0) = (g21 1043 0) ∧ (g38 1044 0) = (g21 1044 0) ∧ (g38 1045 0) = (g21 1045 0) ∧ (g21 1032 0) ≤ (g38 1032 0) ∧ (g38 1032 0) ≤ 1 + (g38 1020 0) ∧ (g38 1100018 0) = (g38 1032 0) ∧ (g21 1024 0) ≤ (g38 1024 0) ∧ ((g38 1021 0) = 0 → (g38 1023 0) = (g21 1023 0) ∧ (g38 1024 0) + 1 ≤ (g21 1024 0) + 2 * ((g38 1020 0) - (g29 1020 0))) ∧ (0 < (g38 1021 0) → (g38 1024 0) ≤ (g21 1024 0) + 2 * ((g38 1020 0) - (g29 1020 0)) + 2 * (30 * (20 - (g21 1023 0)) + 14)) ∧ -1 ≤ r42 ∧ r42 < 12000 ∧ ((g38 1021 0) = 0 → sm_ex (g38 1100001) (g38 1100002) (g38 1100005) (g38 1024 0) 1 r42 (17 * (20 - (g21 1023 0))) (19 - (g21 1023 0)) ∧ (g29 1020 0) < (g38 1020 0))) → (0 ≤ (g38 1024 0) ∧ (g38 1024 0) < 12000) ∧ (∀ r49 : Int, sv_R r49 → ∀ g45 : sv_S, (r49 = (g38 1024 0) ∧ (g45 1024 0) = (g38 1024 0) + 1 ∧ (g45 11 r49) = (14 : Int) ∧ (g45 12 (5 * r49)) = r9 ∧ (g45 12 (5 * r49 + 1)) = r25 ∧ (g45 12 (5 * r49 + 2)) = r42 ∧ (g45 12 (5 * r49 + 3)) = -1 ∧ (g45 12 (5 * r49 + 4)) = -1 ∧ (g45 13 r49) = -1 ∧ (g45 14 r49) = 0 ∧ (∀ n : Int, n < (g38 1024 0) → (g45 14 n) = (g38 14 n)) ∧ (sm_WF (g38 11) (g38 12) (g38 13) (g38 1100001) (g38 1100002) (g38 1100005) (g38 1100003) (g38 1100004) (g38 1024 0) (g38 1007 0) (g38 1009 0) (sm_fn (g38 1032 0) (g38 21) (g38 1043 0)) → sm_WF (g45 11) (g45 12) (g45 13) (g38 1100001) (g38 1100002) (g38 1100005) (g38 1100003) (g38 1100004) (g45 1024 0) (g38 1007 0) (g38 1009 0) (sm_fn (g38 1032 0) (g38 21) (g38 1043 0)) ∧ (g38 1100001 r49) = 0) ∧ sm_PX (g38 11) (g38 12) (g38 13) (g38 1100001) (g38 1100002) (g38 1100005) (g38 1100003) (g38 1100004) (g45 11) (g45 12) (g45 13) (g38 1100001) (g38 1100002) (g38 1100005) (g38 1100003) (g38 1100004) (g38 1024 0) ∧ (g45 1100019 r49) = (g38 1043 0) ∧ sm_F1 (g38 1100019) (g45 1100019) (g38 1024 0) ∧ (sm_WG (g38 1100001) (g38 1100019) (g38 1043 0) → sm_WG (g38 1100001) (g45 1100019) (g38 1043 0)) ∧ (sm_FT (g38 11) (g38 12) (g38 13) (g38 1100019) (g38 17) (g38 18) (g38 21) (g38 19) (g38 20) (g38 22) (g38 1100016) (g38 1024 0) (g38 1007 0) (g38 1009 0) (g38 1032 0) (g38 1032 0) → sm_FT (g45 11) (g45 12) (g45 13) (g45 1100019) (g38 17) (g38 18) (g38 21) (g38 19) (g38 20) (g38 22) (g38 1100016) (g45 1024 0) (g38 1007 0) (g38 1009 0) (g38 1032 0) (g38 1032 0))) → (sv_R ((17 * (20 - (S 1023 0)) + 17))) ∧ (sv_R ((20 - (S 1023 0)))) ∧ (((g38 1021 0) = 0 → sm_WG (g38 1100001) (g45 1100019) (g38 1043 0) → (g45 1100019 r49) = (g38 1043 0) → sm_WG (fun i' : Int => if i' = r49 then (1 : Int) else (g38 1100001) i') (g45 1100019) (g38 1043 0)) → (((g38 1021 0) = 0 → sm_WF (g45 11) (g45 12) (g45 13) (g38 1100001) (g38 1100002) (g38 1100005) (g38 1100003) (g38 1100004) (g45 1024 0) (g38 1007 0) (g38 1009 0) (sm_fn (g38 1032 0) (g38 21) (g38 1043 0)) → (g38 1100001 r49) = 0 → 0 ≤ r49 → r49 < (g45 1024 0) → (g45 13 r49) = -1 → (g45 11 r49) = 14 → (sm_ex (g38 1100001) (g38 1100002) (g38 1100005) (g45 1024 0) 1 (g45 12 (5 * r49)) ((17 * (20 - (S 1023 0)) + 17) - 2) (20 - (S 1023 0))) → (sm_ex (g38 1100001) (g38 1100002) (g38 1100005) (g45 1024 0) 1 (g45 12 (5 * r49 + 1)) ((17 * (20 - (S 1023 0)) + 17) - 2) (20 - (S 1023 0))) → (sm_ex (g38 1100001) (g38 1100002) (g38 1100005) (g45 1024 0) 1 (g45 12 (5 * r49 + 2)) ((17 * (20 - (S 1023 0)) + 17) - 2) (20 - (S 1023 0))) → (0 ≤ (17 * (20 - (S 1023 0)) + 17)) → (0 ≤ (20 - (S 1023 0))) → sm_WF (g45 11) (g45 12) (g45 13) (fun i' : Int => if i' = r49 then (1 : Int) else (g38 1100001) i') (fun i' : Int => if i' = r49 then ((17 * (20 - (S 1023 0)) + 17)) else (g38 1100002) i') (fun i' : Int => if i' = r49 then ((20 - (S 1023 0))) else (g38 1100005) i') (fun i' : Int => if i' = r49 then (0 : Int) else (g38 1100003) i') (fun i' : Int => if i' = r49 then (0 : Int) else (g38 1100004) i') (g45 1024 0) (g38 1007 0) (g38 1009 0) (sm_fn (g38 1032 0) (g38 21) (g38 1043 0))) → ((S 1020 0) ≤ (g38 1020 0) ∧ (g38 1020 0) < (S 1012 0) ∧ 0 ≤ (g38 1021 0) ∧ (0 < (S 1021 0) → 0 < (g38 1021 0)) ∧ (S 1007 0) ≤ (g38 1007 0) ∧ (g38 1007 0) ≤ 90 ∧ sm_LN (g38 4) 400 (g38 1007 0) ∧ ((S 1009 0) = 1 → (g38 1009 0) = 1) ∧ ((g38 1021 0) = 0 → sm_WF (g45 11) (g45 12) (g45 13) (fun i' : Int => if i' = r49 then (1 : Int) else (g38 1100001) i') (fun i' : Int => if i' = r49 then ((17 * (20 - (S 1023 0)) + 17)) else (g38 1100002) i') (fun i' : Int => if i' = r49 then ((20 - (S 1023 0))) else (g38 1100005) i') (fun i' : Int => if i' = r49 then (0 : Int) else (g38 1100003) i') (fun i' : Int => if i' = r49 then (0 : Int) else (g38 1100004) i') (g45 1024 0) (g38 1007 0) (g38 1009 0) (sm_fn (g38 1032 0) (g38 21) (g38 1043 0)) ∧ sm_PX (S 11) (S 12) (S 13) (S 1100001) (S 1100002) (S 1100005) (S 1100003) (S 1100004) (g45 11) (g45 12) (g45 13) (fun i' : Int => if i' = r49 then (1 : Int) else (g38 1100001) i') (fun i' : Int => if i' = r49 then ((17 * (20 - (S 1023 0)) + 17)) else (g38 1100002) i') (fun i' : Int => if i' = r49 then ((20 - (S 1023 0))) else (g38 1100005) i') (fun i' : Int => if i' = r49 then (0 : Int) else (g38 1100003) i') (fun i' : Int => if i' = r49 then (0 : Int) else (g38 1100004) i') (S 1024 0) ∧ sm_FT (g45 11) (g45 12) (g45 13) (g45 1100019) (g38 17) (g38 18) (g38 21) (g38 19) (g38 20) (g38 22) (g38 1100016) (g45 1024 0) (g38 1007 0) (g38 1009 0) (g38 1032 0) (g38 1032 0) ∧ sm_WG (fun i' : Int => if i' = r49 then (1 : Int) else (g38 1100001) i') (g45 1100019) (g38 1043 0) ∧ sm_F1 (S 1100019) (g45 1100019) (S 1024 0) ∧ sm_F1 (S 17) (g38 17) (S 1032 0) ∧ sm_F1 (S 18) (g38 18) (S 1032 0) ∧ sm_F1 (S 21) (g38 21) (S 1032 0) ∧ sm_F1 (S 20) (g38 20) (S 1032 0) ∧ sm_F1 (S 22) (g38 22) (S 1032 0) ∧ sm_F1 (S 1100016) (g38 1100016) (S 1032 0) ∧ sm_F1 (S 19) (g38 19) (8 * (S 1032 0)) ∧ sm_FN (g38 1100016) (S 1032 0) (g38 1032 0)) ∧ sm_KL (S 15) (S 16) (g38 15) (g38 16) (S 1031 0) ∧ sm_HD (g38 23) (g38 24) (g38 1100018 0) (g38 1007 0) ∧ sm_HD (g38 25) (fun _ : Int => (g38 1042 0)) 1 (g38 1007 0) ∧ (g38 1031 0) = (S 1031 0) ∧ (g38 1043 0) = (S 1043 0) ∧ (g38 1044 0) = (S 1044 0) ∧ (g38 1045 0) = (S 1045 0) ∧ (S 1032 0) ≤ (g38 1032 0) ∧ (g38 1032 0) ≤ 1 + (g38 1020 0) ∧ (g38 1100018 0) = (g38 1032 0) ∧ (S 1024 0) ≤ (g45 1024 0) ∧ ((g38 1021 0) = 0 → (g38 1023 0) = (S 1023 0) ∧ (g45 1024 0) + 1 ≤ (S 1024 0) + 2 * ((g38 1020 0) - (S 1020 0))) ∧ (0 < (g38 1021 0) → (g45 1024 0) ≤ (S 1024 0) + 2 * ((g38 1020 0) - (S 1020 0)) + 2 * ((if 0 < (S 1021 0) then 11 else 30 * (20 - (S 1023 0)) + 24))) ∧ -1 ≤ r49 ∧ r49 < 12000 ∧ ((g38 1021 0) = 0 → (S 1020 0) < (g38 1020 0) ∧ 1 ≤ (S 6 (S 1020 0)) ∧ sm_ex (fun i' : Int => if i' = r49 then (1 : Int) else (g38 1100001) i') (fun i' : Int => if i' = r49 then ((17 * (20 - (S 1023 0)) + 17)) else (g38 1100002) i') (fun i' : Int => if i' = r49 then ((20 - (S 1023 0))) else (g38 1100005) i') (g45 1024 0) 1 r49 (17 * (20 - (S 1023 0)) + 17) (20 - (S 1023 0)) ∧ ((g45 11 r49) = 2 ∨ (g45 11 r49) = 7 → (if r49 = r49 then ((17 * (20 - (S 1023 0)) + 17)) else (g38 1100002 r49)) ≤ 17 * (20 - (S 1023 0)) + 2)) ∧ (0 < (S 1021 0) → (g38 1020 0) = (S 1020 0) ∧ (g45 1024 0) = (S 1024 0)))))))) ∧ ((¬ (¬ r33 = (0 : Int))) → ((S 1020 0) ≤ (g29 1020 0) ∧ (g29 1020 0) < (S 1012 0) ∧ 0 ≤ (g29 1021 0) ∧ (0 < (S 1021 0) → 0 < (g29 1021 0)) ∧ (S 1007 0) ≤ (g21 1007 0) ∧ (g21 1007 0) ≤ 90 ∧ sm_LN (g21 4) 400 (g21 1007 0) ∧ ((S 1009 0) = 1 → (g21 1009 0) = 1) ∧ ((g29 1021 0) = 0 → sm_WF (g21 11) (g21 12) (g21 13) (g21 1100001) (g21 1100002) (g21 1100005) (g21 1100003) (g21 1100004) (g21 1024 0) (g21 1007 0) (g21 1009 0) (sm_fn (g21 1032 0) (g21 21) (g21 1043 0)) ∧ sm_PX (S 11) (S 12) (S 13) (S 1100001) (S 1100002) (S 1100005) (S 1100003) (S 1100004) (g21 11) (g21 12) (g21 13) (g21 1100001) (g21 1100002) (g21 1100005) (g21 1100003) (g21 1100004) (S 1024 0) ∧ sm_FT (g21 11) (g21 12) (g21 13) (g21 1100019) (g21 17) (g21 18) (g21 21) (g21 19) (g21 20) (g21 22) (g21 1100016) (g21 1024 0) (g21 1007 0) (g21 1009 0) (g21 1032 0) (g21 1032 0) ∧ sm_WG (g21 1100001) (g21 1100019) (g21 1043 0) ∧ sm_F1 (S 1100019) (g21 1100019) (S 1024 0) ∧ sm_F1 (S 17) (g21 17) (S 1032 0) ∧ sm_F1 (S 18) (g21 18) (S 1032 0) ∧ sm_F1 (S 21) (g21 21) (S 1032 0) ∧ sm_F1 (S 20) (g21 20) (S 1032 0) ∧ sm_F1 (S 22) (g21 22) (S 1032 0) ∧ sm_F1 (S 1100016) (g21 1100016) (S 1032 0) ∧ sm_F1 (S 19) (g21 19) (8 * (S 1032 0)) ∧ sm_FN (g21 1100016) (S 1032 0) (g21 1032 0)) ∧ sm_KL (S 15) (S 16) (g21 15) (g21 16) (S 1031 0) ∧ sm_HD (g21 23) (g21 24) (g21 1100018 0) (g21 1007 0) ∧ sm_HD (g21 25) (fun _ : Int => (g21 1042 0)) 1 (g21 1007 0) ∧ (g21 1031 0) = (S 1031 0) ∧ (g21 1043 0) = (S 1043 0) ∧ (g21 1044 0) = (S 1044 0) ∧ (g21 1045 0) = (S 1045 0) ∧ (S 1032 0) ≤ (g21 1032 0) ∧ (g21 1032 0) ≤ 1 + (g29 1020 0) ∧ (g21 1100018 0) = (g21 1032 0) ∧ (S 1024 0) ≤ (g21 1024 0) ∧ ((g29 1021 0) = 0 → (g21 1023 0) = (S 1023 0) ∧ (g21 1024 0) + 1 ≤ (S 1024 0) + 2 * ((g29 1020 0) - (S 1020 0))) ∧ (0 < (g29 1021 0) → (g21 1024 0) ≤ (S 1024 0) + 2 * ((g29 1020 0) - (S 1020 0)) + 2 * ((if 0 < (S 1021 0) then 11 else 30 * (20 - (S 1023 0)) + 24))) ∧ -1 ≤ (-1 : Int) ∧ (-1 : Int) < 12000 ∧ ((g29 1021 0) = 0 → (S 1020 0) < (g29 1020 0) ∧ 1 ≤ (S 6 (S 1020 0)) ∧ sm_ex (g21 1100001) (g21 1100002) (g21 1100005) (g21 1024 0) 1 (-1 : Int) (17 * (20 - (S 1023 0)) + 17) (20 - (S 1023 0)) ∧ ((g21 11 (-1 : Int)) = 2 ∨ (g21 11 (-1 : Int)) = 7 → (g21 1100002 (-1 : Int)) ≤ 17 * (20 - (S 1023 0)) + 2)) ∧ (0 < (S 1021 0) → (g29 1020 0) = (S 1020 0) ∧ (g21 1024 0) = (S 1024 0))))))))) ∧ ((¬ ((S 6 (g5 1020 0)) = 5 ∧ (S 7 (g5 1020 0)) = (45 : Int))) → ((S 1020 0) ≤ (g5 1020 0) ∧ (g5 1020 0) < (S 1012 0) ∧ 0 ≤ (g5 1021 0) ∧ (0 < (S 1021 0) → 0 < (g5 1021 0)) ∧ (S 1007 0) ≤ (g5 1007 0) ∧ (g5 1007 0) ≤ 90 ∧ sm_LN (g5 4) 400 (g5 1007 0) ∧ ((S 1009 0) = 1 → (g5 1009 0) = 1) ∧ ((g5 1021 0) = 0 → sm_WF (g5 11) (g5 12) (g5 13) (g5 1100001) (g5 1100002) (g5 1100005) (g5 1100003) (g5 1100004) (g5 1024 0) (g5 1007 0) (g5 1009 0) (sm_fn (g5 1032 0) (g5 21) (g5 1043 0)) ∧ sm_PX (S 11) (S 12) (S 13) (S 1100001) (S 1100002) (S 1100005) (S 1100003) (S 1100004) (g5 11) (g5 12) (g5 13) (g5 1100001) (g5 1100002) (g5 1100005) (g5 1100003) (g5 1100004) (S 1024 0) ∧ sm_FT (g5 11) (g5 12) (g5 13) (g5 1100019) (g5 17) (g5 18) (g5 21) (g5 19) (g5 20) (g5 22) (g5 1100016) (g5 1024 0) (g5 1007 0) (g5 1009 0) (g5 1032 0) (g5 1032 0) ∧ sm_WG (g5 1100001) (g5 1100019) (g5 1043 0) ∧ sm_F1 (S 1100019) (g5 1100019) (S 1024 0) ∧ sm_F1 (S 17) (g5 17) (S 1032 0) ∧ sm_F1 (S 18) (g5 18) (S 1032 0) ∧ sm_F1 (S 21) (g5 21) (S 1032 0) ∧ sm_F1 (S 20) (g5 20) (S 1032 0) ∧ sm_F1 (S 22) (g5 22) (S 1032 0) ∧ sm_F1 (S 1100016) (g5 1100016) (S 1032 0) ∧ sm_F1 (S 19) (g5 19) (8 * (S 1032 0)) ∧ sm_FN (g5 1100016) (S 1032 0) (g5 1032 0)) ∧ sm_KL (S 15) (S 16) (g5 15) (g5 16) (S 1031 0) ∧ sm_HD (g5 23) (g5 24) (g5 1100018 0) (g5 1007 0) ∧ sm_HD (g5 25) (fun _ : Int => (g5 1042 0)) 1 (g5 1007 0) ∧ (g5 1031 0) = (S 1031 0) ∧ (g5 1043 0) = (S 1043 0) ∧ (g5 1044 0) = (S 1044 0) ∧ (g5 1045 0) = (S 1045 0) ∧ (S 1032 0) ≤ (g5 1032 0) ∧ (g5 1032 0) ≤ 1 + (g5 1020 0) ∧ (g5 1100018 0) = (g5 1032 0) ∧ (S 1024 0) ≤ (g5 1024 0) ∧ ((g5 1021 0) = 0 → (g5 1023 0) = (S 1023 0) ∧ (g5 1024 0) + 1 ≤ (S 1024 0) + 2 * ((g5 1020 0) - (S 1020 0))) ∧ (0 < (g5 1021 0) → (g5 1024 0) ≤ (S 1024 0) + 2 * ((g5 1020 0) - (S 1020 0)) + 2 * ((if 0 < (S 1021 0) then 11 else 30 * (20 - (S 1023 0)) + 24))) ∧ -1 ≤ r9 ∧ r9 < 12000 ∧ ((g5 1021 0) = 0 → (S 1020 0) < (g5 1020 0) ∧ 1 ≤ (S 6 (S 1020 0)) ∧ sm_ex (g5 1100001) (g5 1100002) (g5 1100005) (g5 1024 0) 1 r9 (17 * (20 - (S 1023 0)) + 17) (20 - (S 1023 0)) ∧ ((g5 11 r9) = 2 ∨ (g5 11 r9) = 7 → (g5 1100002 r9) ≤ 17 * (20 - (S 1023 0)) + 2)) ∧ (0 < (S 1021 0) → (g5 1020 0) = (S 1020 0) ∧ (g5 1024 0) = (S 1024 0))))))))) := by
  intro d
  intro p1
  intro S
  intro h1_
  rintro ⟨h2_, h3_⟩
  rintro ⟨h4_, ⟨h5_, ⟨h6_, ⟨h7_, ⟨h8_, ⟨h9_, ⟨h10_, ⟨h11_, ⟨h12_, ⟨h13_, ⟨h14_, ⟨h15_, ⟨h16_, ⟨h17_, ⟨h18_, ⟨h19_, ⟨h20_, ⟨h21_, ⟨h22_, ⟨h23_, ⟨h24_, ⟨h25_, ⟨h26_, h27_⟩⟩⟩⟩⟩⟩⟩⟩⟩⟩⟩⟩⟩⟩⟩⟩⟩⟩⟩⟩⟩⟩⟩
  intro h28_
  refine ⟨(la_conditional_0 h2_ h3_), ?_⟩
  refine ⟨⟨h4_, ⟨h5_, ⟨h6_, ⟨h7_, ⟨h8_, ⟨h9_, ⟨h10_, ⟨h11_, ⟨h12_, ⟨h13_, ⟨h14_, ⟨h15_, ⟨h16_, ⟨h17_, ⟨h18_, ⟨h19_, ⟨h20_, ⟨h21_, ⟨h22_, ⟨h23_, ⟨h24_, ⟨h25_, ⟨h26_, ⟨h27_, la_conditional_1⟩⟩⟩⟩⟩⟩⟩⟩⟩⟩⟩⟩⟩⟩⟩⟩⟩⟩⟩⟩⟩⟩⟩⟩, ?_⟩
  refine ⟨?_, ?_⟩
  · skip
    refine ⟨?_, ?_⟩
    · skip
      by_cases c29_ : 0 < S 1021 0
      · skip
        have e30_ : (if 0 < S 1021 0 then 10 else 30 * (20 - S 1023 0) + (23 - 0) : Int) = 10 := if_pos c29_
        have e31_ : (if 0 < S 1021 0 then 11 else 30 * (20 - S 1023 0) + 24 : Int) = 11 := if_pos c29_
        exact (la_conditional_3 e30_)
      · skip
        have e32_ : (if 0 < S 1021 0 then 10 else 30 * (20 - S 1023 0) + (23 - 0) : Int) = 30 * (20 - S 1023 0) + (23 - 0) := if_neg c29_
        have e33_ : (if 0 < S 1021 0 then 11 else 30 * (20 - S 1023 0) + 24 : Int) = 30 * (20 - S 1023 0) + 24 := if_neg c29_
        obtain ⟨h34_, ⟨h35_, ⟨h36_, ⟨h37_, ⟨h38_, h39_⟩⟩⟩⟩⟩ := (h27_ (la_conditional_4 h7_ c29_))
        obtain ⟨h40_, ⟨h41_, ⟨h42_, h43_⟩⟩⟩ := (h13_ (la_conditional_4 h7_ c29_))
        exact (la_conditional_5 e32_ h35_)
    by_cases c44_ : 0 < S 1021 0
    · skip
      have e45_ : (if 0 < S 1021 0 then 10 else 30 * (20 - S 1023 0) + (23 - 0) : Int) = 10 := if_pos c44_
      have e46_ : (if 0 < S 1021 0 then 11 else 30 * (20 - S 1023 0) + 24 : Int) = 11 := if_pos c44_
      exact (la_conditional_6 h28_ e45_ e46_)
    · skip
      have e47_ : (if 0 < S 1021 0 then 10 else 30 * (20 - S 1023 0) + (23 - 0) : Int) = 30 * (20 - S 1023 0) + (23 - 0) := if_neg c44_
      have e48_ : (if 0 < S 1021 0 then 11 else 30 * (20 - S 1023 0) + 24 : Int) = 30 * (20 - S 1023 0) + 24 := if_neg c44_
      obtain ⟨h49_, ⟨h50_, ⟨h51_, ⟨h52_, ⟨h53_, h54_⟩⟩⟩⟩⟩ := (h27_ (la_conditional_4 h7_ c44_))
      obtain ⟨h55_, ⟨h56_, ⟨h57_, h58_⟩⟩⟩ := (h13_ (la_conditional_4 h7_ c44_))
      exact (la_conditional_7 h28_ e47_ e48_)
  refine ⟨?_, ?_⟩
  · skip
    refine ⟨?_, ?_⟩
    · skip
      by_cases c59_ : 0 < S 1021 0
      · skip
        have e60_ : (if 0 < S 1021 0 then 10 else 30 * (20 - S 1023 0) + (23 - 0) : Int) = 10 := if_pos c59_
        have e61_ : (if 0 < S 1021 0 then 11 else 30 * (20 - S 1023 0) + 24 : Int) = 11 := if_pos c59_
        exact (la_conditional_3 e60_)
      · skip
        have e62_ : (if 0 < S 1021 0 then 10 else 30 * (20 - S 1023 0) + (23 - 0) : Int) = 30 * (20 - S 1023 0) + (23 - 0) := if_neg c59_
        have e63_ : (if 0 < S 1021 0 then 11 else 30 * (20 - S 1023 0) + 24 : Int) = 30 * (20 - S 1023 0) + 24 := if_neg c59_
        obtain ⟨h64_, ⟨h65_, ⟨h66_, ⟨h67_, ⟨h68_, h69_⟩⟩⟩⟩⟩ := (h27_ (la_conditional_4 h7_ c59_))
        obtain ⟨h70_, ⟨h71_, ⟨h72_, h73_⟩⟩⟩ := (h13_ (la_conditional_4 h7_ c59_))
        exact (la_conditional_5 e62_ h65_)
    by_cases c74_ : 0 < S 1021 0
    · skip
      have e75_ : (if 0 < S 1021 0 then 10 else 30 * (20 - S 1023 0) + (23 - 0) : Int) = 10 := if_pos c74_
      have e76_ : (if 0 < S 1021 0 then 11 else 30 * (20 - S 1023 0) + 24 : Int) = 11 := if_pos c74_
      exact (la_conditional_8 e75_ e76_)
    · skip
      have e77_ : (if 0 < S 1021 0 then 10 else 30 * (20 - S 1023 0) + (23 - 0) : Int) = 30 * (20 - S 1023 0) + (23 - 0) := if_neg c74_
      have e78_ : (if 0 < S 1021 0 then 11 else 30 * (20 - S 1023 0) + 24 : Int) = 30 * (20 - S 1023 0) + 24 := if_neg c74_
      obtain ⟨h79_, ⟨h80_, ⟨h81_, ⟨h82_, ⟨h83_, h84_⟩⟩⟩⟩⟩ := (h27_ (la_conditional_4 h7_ c74_))
      obtain ⟨h85_, ⟨h86_, ⟨h87_, h88_⟩⟩⟩ := (h13_ (la_conditional_4 h7_ c74_))
      exact (la_conditional_9 e77_ e78_)
  intro r9
  intro h89_
  intro g5
  rintro ⟨h90_, ⟨h91_, ⟨h92_, ⟨h93_, ⟨h94_, ⟨h95_, ⟨h96_, ⟨h97_, ⟨h98_, ⟨h99_, ⟨h100_, ⟨h101_, ⟨h102_, ⟨h103_, ⟨h104_, ⟨h105_, ⟨h106_, ⟨h107_, ⟨h108_, ⟨h109_, ⟨h110_, ⟨h111_, ⟨h112_, ⟨h113_, ⟨h114_, h115_⟩⟩⟩⟩⟩⟩⟩⟩⟩⟩⟩⟩⟩⟩⟩⟩⟩⟩⟩⟩⟩⟩⟩⟩⟩
  intro h116_
  refine ⟨?_, ?_⟩
  · skip
    intro h117_
    have h118_ := (h111_ h117_)
    refine ⟨h90_, ?_⟩
    refine ⟨h91_, ?_⟩
    refine ⟨h92_, ?_⟩
    refine ⟨h93_, ?_⟩
    refine ⟨h94_, ?_⟩
    refine ⟨h95_, ?_⟩
    refine ⟨h96_, ?_⟩
    refine ⟨h97_, ?_⟩
    refine ⟨h98_, ?_⟩
    refine ⟨h99_, ?_⟩
    refine ⟨h100_, ?_⟩
    refine ⟨h101_, ?_⟩
    refine ⟨h102_, ?_⟩
    refine ⟨h103_, ?_⟩
    refine ⟨h104_, ?_⟩
    refine ⟨h105_, ?_⟩
    refine ⟨h106_, ?_⟩
    refine ⟨h107_, ?_⟩
    refine ⟨h108_, ?_⟩
    refine ⟨h109_, ?_⟩
    refine ⟨h110_, ?_⟩
    refine ⟨?_, ?_⟩
    · skip
      intro h119_
      by_cases c120_ : 0 < S 1021 0
      · skip
        have e121_ : (if 0 < S 1021 0 then 10 else 30 * (20 - S 1023 0) + (23 - 0) : Int) = 10 := if_pos c120_
        have e122_ : (if 0 < S 1021 0 then 11 else 30 * (20 - S 1023 0) + 24 : Int) = 11 := if_pos c120_
        have h123_ := (h93_ c120_)
        obtain ⟨h124_, h125_⟩ := (h115_ c120_)
        exact (la_conditional_10 e122_ h124_ h125_)
      · skip
        have e126_ : (if 0 < S 1021 0 then 10 else 30 * (20 - S 1023 0) + (23 - 0) : Int) = 30 * (20 - S 1023 0) + (23 - 0) := if_neg c120_
        have e127_ : (if 0 < S 1021 0 then 11 else 30 * (20 - S 1023 0) + 24 : Int) = 30 * (20 - S 1023 0) + 24 := if_neg c120_
        obtain ⟨h128_, ⟨h129_, ⟨h130_, ⟨h131_, ⟨h132_, h133_⟩⟩⟩⟩⟩ := (h27_ (la_conditional_4 h7_ c120_))
        obtain ⟨h134_, ⟨h135_, ⟨h136_, h137_⟩⟩⟩ := (h13_ (la_conditional_4 h7_ c120_))
        exact (la_conditional_11 h118_ e126_ e127_)
    refine ⟨h112_, ?_⟩
    refine ⟨h113_, ?_⟩
    refine ⟨?_, ?_⟩
    · skip
      intro h138_
      have e139_ : (if 0 < S 1021 0 then 10 else 30 * (20 - S 1023 0) + (23 - 0) : Int) = 10 := if_pos (la_conditional_12 h117_ h138_)
      have e140_ : (if 0 < S 1021 0 then 11 else 30 * (20 - S 1023 0) + 24 : Int) = 11 := if_pos (la_conditional_12 h117_ h138_)
      obtain ⟨h141_, ⟨h142_, ⟨h143_, ⟨h144_, ⟨h145_, h146_⟩⟩⟩⟩⟩ := (h27_ (la_conditional_13 h117_ h138_))
      have h147_ := (h93_ (la_conditional_12 h117_ h138_))
      refine ⟨?_, ?_⟩
      · skip
        exact ((la_conditional_14 h117_ h138_)).elim
      refine ⟨?_, ?_⟩
      · skip
        exact ((la_conditional_14 h117_ h138_)).elim
      refine ⟨?_, ?_⟩
      · skip
        exact ((la_conditional_14 h117_ h138_)).elim
      intro h148_
      exact ((la_conditional_14 h117_ h138_)).elim
    intro h149_
    have e150_ : (if 0 < S 1021 0 then 10 else 30 * (20 - S 1023 0) + (23 - 0) : Int) = 10 := if_pos h149_
    have e151_ : (if 0 < S 1021 0 then 11 else 30 * (20 - S 1023 0) + 24 : Int) = 11 := if_pos h149_
    have h152_ := (h93_ h149_)
    obtain ⟨h153_, h154_⟩ := (h115_ h149_)
    refine ⟨h153_, ?_⟩
    exact h154_
  intro h155_
  have h156_ : ¬ (0 < S 1021 0) := fun q_ => h155_ (h93_ q_)
  obtain ⟨h157_, h158_⟩ := (h110_ (la_conditional_4 h92_ h155_))
  obtain ⟨h159_, ⟨h160_, ⟨h161_, h162_⟩⟩⟩ := (h13_ (la_conditional_4 h7_ h156_))
  obtain ⟨h163_, ⟨h164_, ⟨h165_, ⟨h166_, ⟨h167_, ⟨h168_, ⟨h169_, ⟨h170_, ⟨h171_, ⟨h172_, ⟨h173_, ⟨h174_, h175_⟩⟩⟩⟩⟩⟩⟩⟩⟩⟩⟩⟩ := (h98_ (la_conditional_4 h92_ h155_))
  obtain ⟨h176_, ⟨h177_, ⟨h178_, h179_⟩⟩⟩ := (h114_ (la_conditional_4 h92_ h155_))
  have e180_ : (if 0 < S 1021 0 then 10 else 30 * (20 - S 1023 0) + (23 - 0) : Int) = 30 * (20 - S 1023 0) + (23 - 0) := if_neg h156_
  have e181_ : (if 0 < S 1021 0 then 11 else 30 * (20 - S 1023 0) + 24 : Int) = 30 * (20 - S 1023 0) + 24 := if_neg h156_
  obtain ⟨h182_, ⟨h183_, ⟨h184_, ⟨h185_, ⟨h186_, h187_⟩⟩⟩⟩⟩ := (h27_ (la_conditional_4 h7_ h156_))
  refine ⟨(la_conditional_15 h4_ (sm_TK_t h6_).2 h91_ h176_), ?_⟩
  refine ⟨(la_conditional_16 e181_ h183_), ?_⟩
  refine ⟨?_, ?_⟩
  · skip
    rintro ⟨h188_, h189_⟩
    intro h190_
    refine ⟨(la_conditional_17 h4_ (sm_TK_t h6_).2 h91_ h176_), ?_⟩
    refine ⟨?_, ?_⟩
    · skip
      refine ⟨(la_conditional_18 h4_ h176_), ?_⟩
      refine ⟨?_, ?_⟩
      · skip
        have h191_ := ((sm_TK_go h6_ (g5 1020 0) (la_conditional_19 h4_ h176_) h91_) (la_conditional_20 h188_))
        have h192_ := ((sm_TK_go h6_ (S 1020 0) h4_ h5_) h177_)
        have h193_ := (h191_ (la_conditional_21 h188_))
        exact h193_
      refine ⟨h6_, ?_⟩
      refine ⟨h92_, ?_⟩
      refine ⟨h8_, ?_⟩
      refine ⟨h9_, ?_⟩
      refine ⟨(la_conditional_22 h10_ h94_), ?_⟩
      refine ⟨h95_, ?_⟩
      refine ⟨h96_, ?_⟩
      refine ⟨?_, ?_⟩
      · skip
        intro h194_
        refine ⟨h163_, ?_⟩
        refine ⟨h165_, ?_⟩
        refine ⟨h166_, ?_⟩
        have h195_ := ((sm_TK_go h6_ (g5 1020 0) (la_conditional_19 h4_ h176_) h91_) (la_conditional_20 h188_))
        have h196_ := ((sm_TK_go h6_ (S 1020 0) h4_ h5_) h177_)
        have h197_ := (h195_ (la_conditional_21 h188_))
        have e198_ : S 1100016 (g5 1043 0) = S 1100016 (S 1043 0) := congrArg ((S 1100016)) h103_
        exact (la_conditional_24 h162_ (sm_F1_at h173_ (g5 1043 0) (la_conditional_23 h17_ h18_ h103_)) e198_)
      refine ⟨h100_, ?_⟩
      refine ⟨h101_, ?_⟩
      refine ⟨(la_conditional_25 h16_ h103_), ?_⟩
      refine ⟨(la_conditional_26 h17_ h18_ h103_ h106_ h108_), ?_⟩
      refine ⟨h108_, ?_⟩
      refine ⟨(la_conditional_27 h107_), ?_⟩
      refine ⟨(la_conditional_25 h20_ h102_), ?_⟩
      refine ⟨(la_conditional_28 h102_ h183_ h184_), ?_⟩
      refine ⟨(la_conditional_25 h22_ h104_), ?_⟩
      refine ⟨(la_conditional_29 h104_ h183_ h186_), ?_⟩
      refine ⟨(la_conditional_25 h24_ h105_), ?_⟩
      refine ⟨(la_conditional_29 h105_ h183_ h187_), ?_⟩
      refine ⟨(la_conditional_19 (sm_ex_e h178_).1 (sm_ex_e h178_).2.1), ?_⟩
      refine ⟨(la_conditional_30 h102_ h104_ h105_ h157_ h158_ h182_ h183_ h184_ h185_ h186_ h187_), ?_⟩
      exact (la_conditional_4 h92_ h155_)
    refine ⟨(la_conditional_31 h28_ h157_ e181_ h183_), ?_⟩
    refine ⟨(la_conditional_32 h157_ e181_ h183_), ?_⟩
    intro r25
    intro h199_
    intro g21
    rintro ⟨h200_, ⟨h201_, ⟨h202_, ⟨h203_, ⟨h204_, ⟨h205_, ⟨h206_, ⟨h207_, ⟨h208_, ⟨h209_, ⟨h210_, ⟨h211_, ⟨h212_, ⟨h213_, ⟨h214_, ⟨h215_, ⟨h216_, ⟨h217_, ⟨h218_, ⟨h219_, ⟨h220_, ⟨h221_, ⟨h222_, ⟨h223_, h224_⟩⟩⟩⟩⟩⟩⟩⟩⟩⟩⟩⟩⟩⟩⟩⟩⟩⟩⟩⟩⟩⟩⟩⟩
    refine ⟨⟨(la_conditional_33 h4_ h176_ h200_), ⟨h201_, ⟨h6_, h202_⟩⟩⟩, ?_⟩
    refine ⟨(la_conditional_34 e181_ h183_), ?_⟩
    intro r33
    intro h225_
    intro g29
    intro h226_
    refine ⟨?_, ?_⟩
    · skip
      intro h227_
      obtain ⟨h228_, ⟨h229_, ⟨h230_, ⟨h231_, ⟨h232_, h233_⟩⟩⟩⟩⟩ := (h226_.resolve_left (fun q_ => h227_ q_.1))
      obtain ⟨h234_, ⟨h235_, ⟨h236_, ⟨h237_, ⟨h238_, ⟨h239_, ⟨h240_, ⟨h241_, ⟨h242_, ⟨h243_, ⟨h244_, ⟨h245_, h246_⟩⟩⟩⟩⟩⟩⟩⟩⟩⟩⟩⟩ := (h208_ h230_)
      obtain ⟨h247_, h248_⟩ := (h224_ h230_)
      obtain ⟨h249_, h250_⟩ := (h220_ h230_)
      refine ⟨?_, ?_⟩
      · skip
        refine ⟨(la_conditional_38 h4_ h176_ h231_ h248_), ?_⟩
        refine ⟨h232_, ?_⟩
        refine ⟨h6_, ?_⟩
        refine ⟨(la_conditional_39 h229_), ?_⟩
        refine ⟨h8_, ?_⟩
        refine ⟨h9_, ?_⟩
        refine ⟨(la_conditional_40 h10_ h94_ h204_), ?_⟩
        refine ⟨h205_, ?_⟩
        refine ⟨h206_, ?_⟩
        refine ⟨?_, ?_⟩
        · skip
          intro h251_
          refine ⟨h234_, ?_⟩
          refine ⟨h236_, ?_⟩
          refine ⟨h237_, ?_⟩
          have h252_ := ((sm_TK_go h6_ (g21 1020 0) (la_conditional_43 h4_ h176_ h248_) h201_) (la_conditional_20 h233_))
          have h253_ := ((sm_TK_go h6_ (g5 1020 0) (la_conditional_19 h4_ h176_) h91_) (la_conditional_20 h188_))
          have h254_ := ((sm_TK_go h6_ (S 1020 0) h4_ h5_) h177_)
          have h255_ := (h252_ (la_conditional_21 h233_))
          have h256_ := (h253_ (la_conditional_21 h188_))
          have e257_ : S 1100016 (g21 1043 0) = S 1100016 (S 1043 0) := congrArg ((S 1100016)) (la_conditional_44 h103_ h213_)
          exact (la_conditional_45 h162_ (sm_F1_at h244_ (g21 1043 0) (la_conditional_41 h17_ h18_ h103_ h106_ h213_)) (sm_F1_at h173_ (g21 1043 0) (la_conditional_42 h17_ h18_ h103_ h213_)) e257_)
        refine ⟨h210_, ?_⟩
        refine ⟨h211_, ?_⟩
        refine ⟨(la_conditional_46 h16_ h103_ h213_), ?_⟩
        refine ⟨(la_conditional_47 h17_ h18_ h103_ h106_ h213_ h216_ h218_), ?_⟩
        refine ⟨h218_, ?_⟩
        refine ⟨(la_conditional_48 h217_ h231_), ?_⟩
        refine ⟨(la_conditional_46 h20_ h102_ h212_), ?_⟩
        refine ⟨(la_conditional_49 h21_ h102_ h212_), ?_⟩
        refine ⟨(la_conditional_46 h22_ h104_ h214_), ?_⟩
        refine ⟨(la_conditional_50 h23_ h104_ h214_), ?_⟩
        refine ⟨(la_conditional_46 h24_ h105_ h215_), ?_⟩
        refine ⟨(la_conditional_50 h25_ h105_ h215_), ?_⟩
        refine ⟨(la_conditional_19 (sm_ex_e h247_).1 (sm_ex_e h247_).2.1), ?_⟩
        refine ⟨(la_conditional_51 h102_ h104_ h105_ h157_ h158_ h182_ h183_ h184_ h185_ h186_ h187_ h212_ h214_ h215_ h231_ h249_ h250_), ?_⟩
        exact h229_
      refine ⟨(la_conditional_52 h28_ h157_ e181_ h183_ h249_), ?_⟩
      refine ⟨(la_conditional_53 h157_ e181_ h183_ h249_), ?_⟩
      intro r42
      intro h258_
      intro g38
      rintro ⟨h259_, ⟨h260_, ⟨h261_, ⟨h262_, ⟨h263_, ⟨h264_, ⟨h265_, ⟨h266_, ⟨h267_, ⟨h268_, ⟨h269_, ⟨h270_, ⟨h271_, ⟨h272_, ⟨h273_, ⟨h274_, ⟨h275_, ⟨h276_, ⟨h277_, ⟨h278_, ⟨h279_, ⟨h280_, ⟨h281_, ⟨h282_, h283_⟩⟩⟩⟩⟩⟩⟩⟩⟩⟩⟩⟩⟩⟩⟩⟩⟩⟩⟩⟩⟩⟩⟩⟩
      refine ⟨?_, ?_⟩
      · skip
        refine ⟨(la_conditional_54 (sm_ex_e h247_).1 (sm_ex_e h247_).2.1 h278_), ?_⟩
        have h284_ := ((sm_TK_go h6_ (g21 1020 0) (la_conditional_43 h4_ h176_ h248_) h201_) (la_conditional_20 h233_))
        have h285_ := ((sm_TK_go h6_ (g5 1020 0) (la_conditional_19 h4_ h176_) h91_) (la_conditional_20 h188_))
        have h286_ := ((sm_TK_go h6_ (S 1020 0) h4_ h5_) h177_)
        have h287_ := (h284_ (la_conditional_21 h233_))
        have h288_ := (h285_ (la_conditional_21 h188_))
        exact (la_conditional_55 (sm_TK_t h6_).2 h157_ h158_ h182_ h185_ h231_ h249_ h250_ h260_ h261_ h279_ h280_)
      intro r49
      intro h289_
      intro g45
      rintro ⟨h290_, ⟨h291_, ⟨h292_, ⟨h293_, ⟨h294_, ⟨h295_, ⟨h296_, ⟨h297_, ⟨h298_, ⟨h299_, ⟨h300_, ⟨h301_, ⟨h302_, ⟨h303_, ⟨h304_, ⟨h305_, h306_⟩⟩⟩⟩⟩⟩⟩⟩⟩⟩⟩⟩⟩⟩⟩⟩
      refine ⟨(la_conditional_56 h182_ h183_), ?_⟩
      refine ⟨(la_conditional_57 h182_ h183_), ?_⟩
      intro h307_
      intro h308_
      refine ⟨(la_conditional_58 h176_ h231_ h248_ h259_), ?_⟩
      refine ⟨h260_, ?_⟩
      refine ⟨h261_, ?_⟩
      refine ⟨(la_conditional_59 h156_), ?_⟩
      refine ⟨(la_conditional_60 h94_ h204_ h263_), ?_⟩
      refine ⟨h264_, ?_⟩
      refine ⟨h265_, ?_⟩
      refine ⟨(la_conditional_61 h97_ h207_ h266_), ?_⟩
      refine ⟨?_, ?_⟩
      · skip
        intro h309_
        obtain ⟨h310_, h311_⟩ := (h279_ h309_)
        obtain ⟨h312_, ⟨h313_, ⟨h314_, ⟨h315_, ⟨h316_, ⟨h317_, ⟨h318_, ⟨h319_, ⟨h320_, ⟨h321_, ⟨h322_, ⟨h323_, h324_⟩⟩⟩⟩⟩⟩⟩⟩⟩⟩⟩⟩ := (h267_ h309_)
        obtain ⟨h325_, h326_⟩ := (h283_ h309_)
        obtain ⟨h327_, h328_⟩ := (h301_ h312_)
        have h329_ := (h305_ h315_)
        have h330_ := (h306_ h314_)
        have h331_ := (h307_ h309_)
        have h332_ := (h308_ h309_)
        have h333_ := (h331_ h329_)
        have h334_ := (h332_ h327_)
        have h335_ := (h333_ h303_)
        have h336_ := (h334_ h328_)
        have h337_ := (h336_ (la_conditional_62 h290_ (sm_ex_e h325_).1 (sm_ex_e h325_).2.1))
        have h338_ := (h337_ (la_conditional_63 h290_ h291_))
        have h339_ := (h338_ h298_)
        have h340_ := (h339_ h292_)
        have h341_ := (h340_ (sm_ex_eq h293_ (sm_ex_N (sm_ex_w (sm_ex_px (sm_PX_le h313_ h219_) (sm_ex_px (sm_PX_le h235_ (Int.le_refl _)) h178_)) la_conditional_64 (Int.le_refl _)) (la_conditional_65 h219_ h278_ h291_))))
        have h342_ := (h341_ (sm_ex_eq h294_ (sm_ex_N (sm_ex_w (sm_ex_px (sm_PX_le h313_ (Int.le_refl _)) h247_) (la_conditional_66 h157_) (la_conditional_67 h157_)) (la_conditional_68 h278_ h291_))))
        have h343_ := (h342_ (sm_ex_eq h295_ (sm_ex_N (sm_ex_w h325_ (la_conditional_69 h157_ h249_) (la_conditional_70 h157_ h249_)) (la_conditional_71 h291_))))
        have h344_ := (h343_ (la_conditional_72 h183_))
        have h345_ := (h344_ (la_conditional_73 h183_))
        refine ⟨h345_, ?_⟩
        refine ⟨(sm_PX_up_Ws (sm_PX_up_Lp (sm_PX_up_V (sm_PX_up_M (sm_PX_up_C (sm_PX_tr (sm_PX_tr (sm_PX_tr (sm_PX_le h164_ (Int.le_refl _)) h235_ h109_) h313_ (la_conditional_74 h109_ h219_)) h302_ (la_conditional_60 h109_ h219_ h278_)) (la_conditional_75 h109_ h219_ h278_ h290_)) (la_conditional_75 h109_ h219_ h278_ h290_)) (la_conditional_75 h109_ h219_ h278_ h290_)) (la_conditional_75 h109_ h219_ h278_ h290_)) (la_conditional_75 h109_ h219_ h278_ h290_)), ?_⟩
        refine ⟨h330_, ?_⟩
        refine ⟨h335_, ?_⟩
        refine ⟨(sm_F1_tr (sm_F1_tr (sm_F1_tr (sm_F1_le h167_ (Int.le_refl _)) h238_ h109_) h316_ (la_conditional_74 h109_ h219_)) h304_ (la_conditional_60 h109_ h219_ h278_)), ?_⟩
        refine ⟨(sm_F1_tr (sm_F1_tr (sm_F1_le h168_ (Int.le_refl _)) h239_ h106_) h317_ (la_conditional_74 h106_ h216_)), ?_⟩
        refine ⟨(sm_F1_tr (sm_F1_tr (sm_F1_le h169_ (Int.le_refl _)) h240_ h106_) h318_ (la_conditional_74 h106_ h216_)), ?_⟩
        refine ⟨(sm_F1_tr (sm_F1_tr (sm_F1_le h170_ (Int.le_refl _)) h241_ h106_) h319_ (la_conditional_74 h106_ h216_)), ?_⟩
        refine ⟨(sm_F1_tr (sm_F1_tr (sm_F1_le h171_ (Int.le_refl _)) h242_ h106_) h320_ (la_conditional_74 h106_ h216_)), ?_⟩
        refine ⟨(sm_F1_tr (sm_F1_tr (sm_F1_le h172_ (Int.le_refl _)) h243_ h106_) h321_ (la_conditional_74 h106_ h216_)), ?_⟩
        refine ⟨(sm_F1_tr (sm_F1_tr (sm_F1_le h173_ (Int.le_refl _)) h244_ h106_) h322_ (la_conditional_74 h106_ h216_)), ?_⟩
        refine ⟨(sm_F1_tr (sm_F1_tr (sm_F1_le h174_ (Int.le_refl _)) h245_ (la_conditional_77 h106_)) h323_ (la_conditional_76 h106_ h216_)), ?_⟩
        exact (sm_FN_cat (sm_FN_F h175_ (sm_F1_tr (sm_F1_le h244_ (Int.le_refl _)) h322_ h216_) (Int.le_refl _)) (sm_FN_cat (sm_FN_F h246_ (sm_F1_le h322_ (Int.le_refl _)) (Int.le_refl _)) (sm_FN_w h324_ (Int.le_refl _) (Int.le_refl _)) (Int.le_refl _) (Int.le_refl _)) (Int.le_refl _) (Int.le_refl _))
      refine ⟨(sm_KL_tr (sm_KL_le h99_ (Int.le_refl _)) (sm_KL_tr (sm_KL_le h209_ (la_conditional_79 h102_)) (sm_KL_le h268_ (la_conditional_78 h102_ h212_)) (Int.le_refl _)) (Int.le_refl _)), ?_⟩
      refine ⟨h269_, ?_⟩
      refine ⟨h270_, ?_⟩
      refine ⟨(la_conditional_80 h102_ h212_ h271_), ?_⟩
      refine ⟨(la_conditional_80 h103_ h213_ h272_), ?_⟩
      refine ⟨(la_conditional_80 h104_ h214_ h273_), ?_⟩
      refine ⟨(la_conditional_80 h105_ h215_ h274_), ?_⟩
      refine ⟨(la_conditional_60 h106_ h216_ h275_), ?_⟩
      refine ⟨h276_, ?_⟩
      refine ⟨h277_, ?_⟩
      refine ⟨(la_conditional_81 h109_ h219_ h278_ h291_), ?_⟩
      refine ⟨(la_conditional_82 h157_ h158_ h231_ h249_ h250_ h261_ h279_ h291_), ?_⟩
      refine ⟨(la_conditional_83 h157_ h158_ e181_ h183_ h231_ h249_ h250_ h279_ h280_ h291_), ?_⟩
      refine ⟨(la_conditional_84 (sm_ex_e h247_).1 (sm_ex_e h247_).2.1 h278_ h290_), ?_⟩
      refine ⟨?_, ?_⟩
      · skip
        have h346_ := (h300_ r49)
        have h347_ := ((sm_TK_go h6_ (g21 1020 0) (la_conditional_43 h4_ h176_ h248_) h201_) (la_conditional_20 h233_))
        have h348_ := ((sm_TK_go h6_ (g5 1020 0) (la_conditional_19 h4_ h176_) h91_) (la_conditional_20 h188_))
        have h349_ := ((sm_TK_go h6_ (S 1020 0) h4_ h5_) h177_)
        have h350_ := (h347_ (la_conditional_21 h233_))
        have h351_ := (h348_ (la_conditional_21 h188_))
        exact (la_conditional_86 (sm_TK_t h6_).2 h157_ h158_ h182_ h185_ h231_ h249_ h250_ h260_ h261_ h279_ h280_ h290_)
      refine ⟨?_, ?_⟩
      · skip
        intro h352_
        obtain ⟨h353_, h354_⟩ := (h279_ h352_)
        obtain ⟨h355_, ⟨h356_, ⟨h357_, ⟨h358_, ⟨h359_, ⟨h360_, ⟨h361_, ⟨h362_, ⟨h363_, ⟨h364_, ⟨h365_, ⟨h366_, h367_⟩⟩⟩⟩⟩⟩⟩⟩⟩⟩⟩⟩ := (h267_ h352_)
        obtain ⟨h368_, h369_⟩ := (h283_ h352_)
        obtain ⟨h370_, h371_⟩ := (h301_ h355_)
        have h372_ := (h305_ h358_)
        have h373_ := (h306_ h357_)
        have h374_ := (h307_ h352_)
        have h375_ := (h308_ h352_)
        have h376_ := (h374_ h372_)
        have h377_ := (h375_ h370_)
        have h378_ := (h376_ h303_)
        have h379_ := (h377_ h371_)
        have h380_ := (h379_ (la_conditional_62 h290_ (sm_ex_e h368_).1 (sm_ex_e h368_).2.1))
        have h381_ := (h380_ (la_conditional_63 h290_ h291_))
        have h382_ := (h381_ h298_)
        have h383_ := (h382_ h292_)
        have h384_ := (h383_ (sm_ex_eq h293_ (sm_ex_N (sm_ex_w (sm_ex_px (sm_PX_le h356_ h219_) (sm_ex_px (sm_PX_le h235_ (Int.le_refl _)) h178_)) la_conditional_64 (Int.le_refl _)) (la_conditional_65 h219_ h278_ h291_))))
        have h385_ := (h384_ (sm_ex_eq h294_ (sm_ex_N (sm_ex_w (sm_ex_px (sm_PX_le h356_ (Int.le_refl _)) h247_) (la_conditional_66 h157_) (la_conditional_67 h157_)) (la_conditional_68 h278_ h291_))))
        have h386_ := (h385_ (sm_ex_eq h295_ (sm_ex_N (sm_ex_w h368_ (la_conditional_69 h157_ h249_) (la_conditional_70 h157_ h249_)) (la_conditional_71 h291_))))
        have h387_ := (h386_ (la_conditional_72 h183_))
        have h388_ := (h387_ (la_conditional_73 h183_))
        refine ⟨(la_conditional_87 h176_ h231_ h248_ h369_), ?_⟩
        refine ⟨h177_, ?_⟩
        refine ⟨(sm_ex_if (la_conditional_62 h290_ (sm_ex_e h368_).1 (sm_ex_e h368_).2.1) (la_conditional_63 h290_ h291_) la_conditional_88 la_conditional_89 la_conditional_90), ?_⟩
        intro h389_
        have h390_ := (h389_.resolve_left (la_conditional_91 h292_))
        have h391_ := (h300_ r49)
        have e392_ : (if r49 = r49 then 17 * (20 - S 1023 0) + 17 else g38 1100002 r49 : Int) = 17 * (20 - S 1023 0) + 17 := if_pos la_conditional_97
        have h393_ := ((sm_TK_go h6_ (S 1020 0) h4_ h5_) h177_)
        have h394_ := ((sm_TK_go h6_ (g21 1020 0) (la_conditional_43 h4_ h176_ h248_) h201_) (la_conditional_20 h233_))
        have h395_ := ((sm_TK_go h6_ (g5 1020 0) (la_conditional_19 h4_ h176_) h91_) (la_conditional_20 h188_))
        have h396_ := (h394_ (la_conditional_21 h233_))
        have h397_ := (h395_ (la_conditional_21 h188_))
        have e398_ : g21 11 r9 = g21 11 (g45 12 (5 * r49)) := congrArg ((g21 11)) (la_conditional_98 h293_)
        have e399_ : g21 1100001 r9 = g21 1100001 (g45 12 (5 * r49)) := congrArg ((g21 1100001)) (la_conditional_98 h293_)
        have e400_ : g21 1100002 r9 = g21 1100002 (g45 12 (5 * r49)) := congrArg ((g21 1100002)) (la_conditional_98 h293_)
        have e401_ : g21 1100003 r9 = g21 1100003 (g45 12 (5 * r49)) := congrArg ((g21 1100003)) (la_conditional_98 h293_)
        have e402_ : g21 1100004 r9 = g21 1100004 (g45 12 (5 * r49)) := congrArg ((g21 1100004)) (la_conditional_98 h293_)
        have e403_ : g21 1100005 r9 = g21 1100005 (g45 12 (5 * r49)) := congrArg ((g21 1100005)) (la_conditional_98 h293_)
        have e404_ : g21 12 (5 * r9) = g21 12 (5 * g45 12 (5 * r49)) := congrArg ((g21 12)) (la_conditional_99 h293_)
        have e405_ : g21 12 (5 * r9 + 1) = g21 12 (5 * g45 12 (5 * r49) + 1) := congrArg ((g21 12)) (la_conditional_100 h293_)
        have e406_ : g21 12 (5 * r9 + 2) = g21 12 (5 * g45 12 (5 * r49) + 2) := congrArg ((g21 12)) (la_conditional_101 h293_)
        have e407_ : g21 12 (5 * r9 + 3) = g21 12 (5 * g45 12 (5 * r49) + 3) := congrArg ((g21 12)) (la_conditional_102 h293_)
        have e408_ : g21 12 (5 * r9 + 4) = g21 12 (5 * g45 12 (5 * r49) + 4) := congrArg ((g21 12)) (la_conditional_103 h293_)
        have e409_ : g21 13 r9 = g21 13 (g45 12 (5 * r49)) := congrArg ((g21 13)) (la_conditional_98 h293_)
        have e410_ : g38 11 r9 = g38 11 (g45 12 (5 * r49)) := congrArg ((g38 11)) (la_conditional_98 h293_)
        have e411_ : g38 1100001 r9 = g38 1100001 (g45 12 (5 * r49)) := congrArg ((g38 1100001)) (la_conditional_98 h293_)
        have e412_ : g38 1100002 r9 = g38 1100002 (g45 12 (5 * r49)) := congrArg ((g38 1100002)) (la_conditional_98 h293_)
        have e413_ : g38 1100003 r9 = g38 1100003 (g45 12 (5 * r49)) := congrArg ((g38 1100003)) (la_conditional_98 h293_)
        have e414_ : g38 1100004 r9 = g38 1100004 (g45 12 (5 * r49)) := congrArg ((g38 1100004)) (la_conditional_98 h293_)
        have e415_ : g38 1100005 r9 = g38 1100005 (g45 12 (5 * r49)) := congrArg ((g38 1100005)) (la_conditional_98 h293_)
        have e416_ : g38 12 (5 * r9) = g38 12 (5 * g45 12 (5 * r49)) := congrArg ((g38 12)) (la_conditional_99 h293_)
        have e417_ : g38 12 (5 * r9 + 1) = g38 12 (5 * g45 12 (5 * r49) + 1) := congrArg ((g38 12)) (la_conditional_100 h293_)
        have e418_ : g38 12 (5 * r9 + 2) = g38 12 (5 * g45 12 (5 * r49) + 2) := congrArg ((g38 12)) (la_conditional_101 h293_)
        have e419_ : g38 12 (5 * r9 + 3) = g38 12 (5 * g45 12 (5 * r49) + 3) := congrArg ((g38 12)) (la_conditional_102 h293_)
        have e420_ : g38 12 (5 * r9 + 4) = g38 12 (5 * g45 12 (5 * r49) + 4) := congrArg ((g38 12)) (la_conditional_103 h293_)
        have e421_ : g38 13 r9 = g38 13 (g45 12 (5 * r49)) := congrArg ((g38 13)) (la_conditional_98 h293_)
        have e422_ : g45 11 r9 = g45 11 (g45 12 (5 * r49)) := congrArg ((g45 11)) (la_conditional_98 h293_)
        have e423_ : g45 13 r9 = g45 13 (g45 12 (5 * r49)) := congrArg ((g45 13)) (la_conditional_98 h293_)
        have e424_ : g5 11 r9 = g5 11 (g45 12 (5 * r49)) := congrArg ((g5 11)) (la_conditional_98 h293_)
        have e425_ : g5 1100001 r9 = g5 1100001 (g45 12 (5 * r49)) := congrArg ((g5 1100001)) (la_conditional_98 h293_)
        have e426_ : g5 1100002 r9 = g5 1100002 (g45 12 (5 * r49)) := congrArg ((g5 1100002)) (la_conditional_98 h293_)
        have e427_ : g5 1100003 r9 = g5 1100003 (g45 12 (5 * r49)) := congrArg ((g5 1100003)) (la_conditional_98 h293_)
        have e428_ : g5 1100004 r9 = g5 1100004 (g45 12 (5 * r49)) := congrArg ((g5 1100004)) (la_conditional_98 h293_)
        have e429_ : g5 1100005 r9 = g5 1100005 (g45 12 (5 * r49)) := congrArg ((g5 1100005)) (la_conditional_98 h293_)
        have e430_ : g5 12 (5 * r9) = g5 12 (5 * g45 12 (5 * r49)) := congrArg ((g5 12)) (la_conditional_99 h293_)
        have e431_ : g5 12 (5 * r9 + 1) = g5 12 (5 * g45 12 (5 * r49) + 1) := congrArg ((g5 12)) (la_conditional_100 h293_)
        have e432_ : g5 12 (5 * r9 + 2) = g5 12 (5 * g45 12 (5 * r49) + 2) := congrArg ((g5 12)) (la_conditional_101 h293_)
        have e433_ : g5 12 (5 * r9 + 3) = g5 12 (5 * g45 12 (5 * r49) + 3) := congrArg ((g5 12)) (la_conditional_102 h293_)
        have e434_ : g5 12 (5 * r9 + 4) = g5 12 (5 * g45 12 (5 * r49) + 4) := congrArg ((g5 12)) (la_conditional_103 h293_)
        have e435_ : g5 13 r9 = g5 13 (g45 12 (5 * r49)) := congrArg ((g5 13)) (la_conditional_98 h293_)
        exact ((la_conditional_104 h292_ h390_)).elim
      intro h436_
      refine ⟨?_, ?_⟩
      · skip
        have h437_ := (h300_ r49)
        have h438_ := ((sm_TK_go h6_ (g21 1020 0) (la_conditional_43 h4_ h176_ h248_) h201_) (la_conditional_20 h233_))
        have h439_ := ((sm_TK_go h6_ (g5 1020 0) (la_conditional_19 h4_ h176_) h91_) (la_conditional_20 h188_))
        have h440_ := ((sm_TK_go h6_ (S 1020 0) h4_ h5_) h177_)
        have h441_ := (h438_ (la_conditional_21 h233_))
        have h442_ := (h439_ (la_conditional_21 h188_))
        exact ((la_conditional_105 h156_ h436_)).elim
      have h443_ := (h300_ r49)
      have h444_ := ((sm_TK_go h6_ (g21 1020 0) (la_conditional_43 h4_ h176_ h248_) h201_) (la_conditional_20 h233_))
      have h445_ := ((sm_TK_go h6_ (g5 1020 0) (la_conditional_19 h4_ h176_) h91_) (la_conditional_20 h188_))
      have h446_ := ((sm_TK_go h6_ (S 1020 0) h4_ h5_) h177_)
      have h447_ := (h444_ (la_conditional_21 h233_))
      have h448_ := (h445_ (la_conditional_21 h188_))
      exact ((la_conditional_105 h156_ h436_)).elim
    intro h449_
    obtain ⟨h450_, ⟨h451_, h452_⟩⟩ := (h226_.resolve_right (la_conditional_106 h449_))
    refine ⟨(la_conditional_107 h176_ h200_ h452_), ?_⟩
    refine ⟨(la_conditional_92 h201_ h452_), ?_⟩
    refine ⟨(la_conditional_108 h451_), ?_⟩
    refine ⟨(la_conditional_59 h156_), ?_⟩
    refine ⟨(la_conditional_74 h94_ h204_), ?_⟩
    refine ⟨h205_, ?_⟩
    refine ⟨h206_, ?_⟩
    refine ⟨(la_conditional_109 h97_ h207_), ?_⟩
    refine ⟨?_, ?_⟩
    · skip
      intro h453_
      refine ⟨?_, ?_⟩
      · skip
        have h454_ := ((sm_TK_go h6_ (g5 1020 0) (la_conditional_19 h4_ h176_) h91_) (la_conditional_20 h188_))
        have h455_ := ((sm_TK_go h6_ (S 1020 0) h4_ h5_) h177_)
        have h456_ := (h454_ (la_conditional_21 h188_))
        have h457_ : g21 1021 0 = 0 := by
          exact ((la_conditional_14 h451_ h453_)).elim
        obtain ⟨h458_, ⟨h459_, ⟨h460_, ⟨h461_, ⟨h462_, ⟨h463_, ⟨h464_, ⟨h465_, ⟨h466_, ⟨h467_, ⟨h468_, ⟨h469_, h470_⟩⟩⟩⟩⟩⟩⟩⟩⟩⟩⟩⟩ := (h208_ h457_)
        exact h458_
      refine ⟨?_, ?_⟩
      · skip
        have h471_ := ((sm_TK_go h6_ (g5 1020 0) (la_conditional_19 h4_ h176_) h91_) (la_conditional_20 h188_))
        have h472_ := ((sm_TK_go h6_ (S 1020 0) h4_ h5_) h177_)
        have h473_ := (h471_ (la_conditional_21 h188_))
        exact ((la_conditional_14 h451_ h453_)).elim
      refine ⟨?_, ?_⟩
      · skip
        have h474_ := ((sm_TK_go h6_ (g5 1020 0) (la_conditional_19 h4_ h176_) h91_) (la_conditional_20 h188_))
        have h475_ := ((sm_TK_go h6_ (S 1020 0) h4_ h5_) h177_)
        have h476_ := (h474_ (la_conditional_21 h188_))
        have h477_ : g21 1021 0 = 0 := by
          exact ((la_conditional_14 h451_ h453_)).elim
        obtain ⟨h478_, ⟨h479_, ⟨h480_, ⟨h481_, ⟨h482_, ⟨h483_, ⟨h484_, ⟨h485_, ⟨h486_, ⟨h487_, ⟨h488_, ⟨h489_, h490_⟩⟩⟩⟩⟩⟩⟩⟩⟩⟩⟩⟩ := (h208_ h477_)
        exact h480_
      refine ⟨?_, ?_⟩
      · skip
        have h491_ := ((sm_TK_go h6_ (g5 1020 0) (la_conditional_19 h4_ h176_) h91_) (la_conditional_20 h188_))
        have h492_ := ((sm_TK_go h6_ (S 1020 0) h4_ h5_) h177_)
        have h493_ := (h491_ (la_conditional_21 h188_))
        have h494_ : g21 1021 0 = 0 := by
          exact ((la_conditional_14 h451_ h453_)).elim
        obtain ⟨h495_, ⟨h496_, ⟨h497_, ⟨h498_, ⟨h499_, ⟨h500_, ⟨h501_, ⟨h502_, ⟨h503_, ⟨h504_, ⟨h505_, ⟨h506_, h507_⟩⟩⟩⟩⟩⟩⟩⟩⟩⟩⟩⟩ := (h208_ h494_)
        exact h498_
      refine ⟨?_, ?_⟩
      · skip
        have h508_ := ((sm_TK_go h6_ (g5 1020 0) (la_conditional_19 h4_ h176_) h91_) (la_conditional_20 h188_))
        have h509_ := ((sm_TK_go h6_ (S 1020 0) h4_ h5_) h177_)
        have h510_ := (h508_ (la_conditional_21 h188_))
        exact ((la_conditional_14 h451_ h453_)).elim
      refine ⟨?_, ?_⟩
      · skip
        have h511_ := ((sm_TK_go h6_ (g5 1020 0) (la_conditional_19 h4_ h176_) h91_) (la_conditional_20 h188_))
        have h512_ := ((sm_TK_go h6_ (S 1020 0) h4_ h5_) h177_)
        have h513_ := (h511_ (la_conditional_21 h188_))
        exact ((la_conditional_14 h451_ h453_)).elim
      refine ⟨?_, ?_⟩
      · skip
        have h514_ := ((sm_TK_go h6_ (g5 1020 0) (la_conditional_19 h4_ h176_) h91_) (la_conditional_20 h188_))
        have h515_ := ((sm_TK_go h6_ (S 1020 0) h4_ h5_) h177_)
        have h516_ := (h514_ (la_conditional_21 h188_))
        exact ((la_conditional_14 h451_ h453_)).elim
      refine ⟨?_, ?_⟩
      · skip
        have h517_ := ((sm_TK_go h6_ (g5 1020 0) (la_conditional_19 h4_ h176_) h91_) (la_conditional_20 h188_))
        have h518_ := ((sm_TK_go h6_ (S 1020 0) h4_ h5_) h177_)
        have h519_ := (h517_ (la_conditional_21 h188_))
        exact ((la_conditional_14 h451_ h453_)).elim
      refine ⟨?_, ?_⟩
      · skip
        have h520_ := ((sm_TK_go h6_ (g5 1020 0) (la_conditional_19 h4_ h176_) h91_) (la_conditional_20 h188_))
        have h521_ := ((sm_TK_go h6_ (S 1020 0) h4_ h5_) h177_)
        have h522_ := (h520_ (la_conditional_21 h188_))
        exact ((la_conditional_14 h451_ h453_)).elim
      refine ⟨?_, ?_⟩
      · skip
        have h523_ := ((sm_TK_go h6_ (g5 1020 0) (la_conditional_19 h4_ h176_) h91_) (la_conditional_20 h188_))
        have h524_ := ((sm_TK_go h6_ (S 1020 0) h4_ h5_) h177_)
        have h525_ := (h523_ (la_conditional_21 h188_))
        exact ((la_conditional_14 h451_ h453_)).elim
      refine ⟨?_, ?_⟩
      · skip
        have h526_ := ((sm_TK_go h6_ (g5 1020 0) (la_conditional_19 h4_ h176_) h91_) (la_conditional_20 h188_))
        have h527_ := ((sm_TK_go h6_ (S 1020 0) h4_ h5_) h177_)
        have h528_ := (h526_ (la_conditional_21 h188_))
        exact ((la_conditional_14 h451_ h453_)).elim
      refine ⟨?_, ?_⟩
      · skip
        have h529_ := ((sm_TK_go h6_ (g5 1020 0) (la_conditional_19 h4_ h176_) h91_) (la_conditional_20 h188_))
        have h530_ := ((sm_TK_go h6_ (S 1020 0) h4_ h5_) h177_)
        have h531_ := (h529_ (la_conditional_21 h188_))
        exact ((la_conditional_14 h451_ h453_)).elim
      have h532_ := ((sm_TK_go h6_ (g5 1020 0) (la_conditional_19 h4_ h176_) h91_) (la_conditional_20 h188_))
      have h533_ := ((sm_TK_go h6_ (S 1020 0) h4_ h5_) h177_)
      have h534_ := (h532_ (la_conditional_21 h188_))
      exact ((la_conditional_14 h451_ h453_)).elim
    refine ⟨(sm_KL_tr (sm_KL_le h99_ (Int.le_refl _)) (sm_KL_le h209_ (la_conditional_79 h102_)) (Int.le_refl _)), ?_⟩
    refine ⟨h210_, ?_⟩
    refine ⟨h211_, ?_⟩
    refine ⟨(la_conditional_44 h102_ h212_), ?_⟩
    refine ⟨(la_conditional_44 h103_ h213_), ?_⟩
    refine ⟨(la_conditional_44 h104_ h214_), ?_⟩
    refine ⟨(la_conditional_44 h105_ h215_), ?_⟩
    refine ⟨(la_conditional_74 h106_ h216_), ?_⟩
    refine ⟨(la_conditional_110 h217_ h452_), ?_⟩
    refine ⟨h218_, ?_⟩
    refine ⟨(la_conditional_74 h109_ h219_), ?_⟩
    refine ⟨(la_conditional_111 h451_), ?_⟩
    refine ⟨(la_conditional_112 h157_ h158_ e181_ h183_ h202_ h220_ h221_ h452_), ?_⟩
    refine ⟨la_conditional_113, ?_⟩
    refine ⟨la_conditional_114, ?_⟩
    refine ⟨?_, ?_⟩
    · skip
      intro h535_
      refine ⟨(la_conditional_115 h176_ h200_ h452_), ?_⟩
      refine ⟨h177_, ?_⟩
      refine ⟨?_, ?_⟩
      · skip
        have h536_ := ((sm_TK_go h6_ (g5 1020 0) (la_conditional_19 h4_ h176_) h91_) (la_conditional_20 h188_))
        have h537_ := ((sm_TK_go h6_ (S 1020 0) h4_ h5_) h177_)
        have h538_ := (h536_ (la_conditional_21 h188_))
        exact ((la_conditional_14 h451_ h535_)).elim
      intro h539_
      have h540_ := ((sm_TK_go h6_ (g5 1020 0) (la_conditional_19 h4_ h176_) h91_) (la_conditional_20 h188_))
      have h541_ := ((sm_TK_go h6_ (S 1020 0) h4_ h5_) h177_)
      have h542_ := (h540_ (la_conditional_21 h188_))
      exact ((la_conditional_14 h451_ h535_)).elim
    intro h543_
    refine ⟨?_, ?_⟩
    · skip
      have h544_ := ((sm_TK_go h6_ (g5 1020 0) (la_conditional_19 h4_ h176_) h91_) (la_conditional_20 h188_))
      have h545_ := ((sm_TK_go h6_ (S 1020 0) h4_ h5_) h177_)
      have h546_ := (h544_ (la_conditional_21 h188_))
      exact ((la_conditional_105 h156_ h543_)).elim
    have h547_ := ((sm_TK_go h6_ (g5 1020 0) (la_conditional_19 h4_ h176_) h91_) (la_conditional_20 h188_))
    have h548_ := ((sm_TK_go h6_ (S 1020 0) h4_ h5_) h177_)
    have h549_ := (h547_ (la_conditional_21 h188_))
    exact ((la_conditional_105 h156_ h543_)).elim
  intro h550_
  refine ⟨h90_, ?_⟩
  refine ⟨h91_, ?_⟩
  refine ⟨h92_, ?_⟩
  refine ⟨h93_, ?_⟩
  refine ⟨h94_, ?_⟩
  refine ⟨h95_, ?_⟩
  refine ⟨h96_, ?_⟩
  refine ⟨h97_, ?_⟩
  refine ⟨h98_, ?_⟩
  refine ⟨h99_, ?_⟩
  refine ⟨h100_, ?_⟩
  refine ⟨h101_, ?_⟩
  refine ⟨h102_, ?_⟩
  refine ⟨h103_, ?_⟩
  refine ⟨h104_, ?_⟩
  refine ⟨h105_, ?_⟩
  refine ⟨h106_, ?_⟩
  refine ⟨h107_, ?_⟩
  refine ⟨h108_, ?_⟩
  refine ⟨h109_, ?_⟩
  refine ⟨h110_, ?_⟩
  refine ⟨(la_conditional_116 h155_), ?_⟩
  refine ⟨h112_, ?_⟩
  refine ⟨h113_, ?_⟩
  refine ⟨?_, ?_⟩
  · skip
    intro h551_
    refine ⟨h176_, ?_⟩
    refine ⟨h177_, ?_⟩
    refine ⟨(sm_ex_N (sm_ex_w h178_ la_conditional_117 (Int.le_refl _)) (Int.le_refl _)), ?_⟩
    intro h552_
    have h553_ := (h179_ h552_)
    exact h553_
  intro h554_
  refine ⟨?_, ?_⟩
  · skip
    have h555_ := ((sm_TK_go h6_ (S 1020 0) h4_ h5_) h177_)
    exact ((la_conditional_105 h156_ h554_)).elim
  have h556_ := ((sm_TK_go h6_ (S 1020 0) h4_ h5_) h177_)
  exact ((la_conditional_105 h156_ h554_)).elim
set_option maxRecDepth 8000 in
set_option maxHeartbeats 2000000 in
theorem s_conditional (d : Int) (h0 : 0 ≤ d) (IH : ∀ d' : Int, 0 ≤ d' → d' < d → P_P d') : T_conditional d := by
  intro p1 S hok hp1 hpre hd
  have h := f_conditional d p1 S hok hp1 hpre hd
  have hM := sm_h48
  show sv_T sm_XS sm_cs sm_L sm_sh ((if 0 < (S 1021 0) then 11 else 30 * (20 - (S 1023 0)) + 24)).toNat (q_conditional p1 S) 48 0 [(0, .ref 0), (1, sv_I p1)] [] S
  refine sv_aload_n hM dX12_conditional_0 rfl rfl ?_
  refine sv_iconst (d := (0 : Int)) hM dX12_conditional_1 rfl rfl ?_
  refine sv_iload_n hM dX12_conditional_2 rfl rfl ?_
  obtain ⟨o1, h⟩ := h
  obtain ⟨o2, h⟩ := h
  obtain ⟨o3, h⟩ := h
  obtain ⟨o4, h⟩ := h
  refine sv_callV hM dX12_conditional_3 sm_iv_469 (by decide) (sm_a0 _) rfl rfl (Nat.le_of_ble_eq_true rfl) sm_h51 (Nat.le_of_ble_eq_true rfl) (Nat.le_of_ble_eq_true rfl) (F' := (((if 0 < (S 1021 0) then 10 else 30 * (20 - (S 1023 0)) + (23 - (0 : Int))))).toNat) (sv_Fe o4) rfl ((IH ((if 0 < (S 1021 0) then 10 else 30 * (20 - (S 1023 0)) + (23 - (0 : Int)))) o3.1 o3.2).2.2.2.2.1 (0 : Int) p1 S hok (⟨by decide, by decide⟩ : sv_R (0 : Int)) o1 o2 rfl) (fun v S1 hq => ?_)
  obtain ⟨r9, rfl, hr9, ok6, md7, hpo8⟩ := hq
  obtain ⟨g5, rfl⟩ : ∃ g, S1 = sv_sts S [1020, 1021, 1022, 1023, 5, 1011, 3, 4, 1007, 1009, 11, 12, 13, 14, 1024, 15, 16, 1031, 1032, 17, 18, 19, 20, 21, 22, 23, 24, 25, 1042, 1043, 1044, 1045, 1100001, 1100002, 1100005, 1100003, 1100004, 1100018, 1100019, 1100016] g := ⟨_, md7.eq⟩
  show sv_T sm_XS sm_cs sm_L sm_sh ((if 0 < (S 1021 0) then 11 else 30 * (20 - (S 1023 0)) + 24)).toNat (q_conditional p1 S) 48 6 [(0, .ref 0), (1, sv_I p1)] [sv_I r9] (sv_sts S [1020, 1021, 1022, 1023, 5, 1011, 3, 4, 1007, 1009, 11, 12, 13, 14, 1024, 15, 16, 1031, 1032, 17, 18, 19, 20, 21, 22, 23, 24, 25, 1042, 1043, 1044, 1045, 1100001, 1100002, 1100005, 1100003, 1100004, 1100018, 1100019, 1100016] g5)
  have md10 : sv_mod [1020, 1021, 1022, 1023, 5, 1011, 3, 4, 1007, 1009, 11, 12, 13, 14, 1024, 15, 16, 1031, 1032, 17, 18, 19, 20, 21, 22, 23, 24, 25, 1042, 1043, 1044, 1045, 1100001, 1100002, 1100005, 1100003, 1100004, 1100018, 1100019, 1100016] S (sv_sts S [1020, 1021, 1022, 1023, 5, 1011, 3, 4, 1007, 1009, 11, 12, 13, 14, 1024, 15, 16, 1031, 1032, 17, 18, 19, 20, 21, 22, 23, 24, 25, 1042, 1043, 1044, 1045, 1100001, 1100002, 1100005, 1100003, 1100004, 1100018, 1100019, 1100016] g5) := sv_mod.sts sv_mod.rf (by decide)
  have h := h r9 hr9 g5 hpo8
  refine sv_istore_n hM dX12_conditional_6 (by decide) rfl ?_
  show sv_T sm_XS sm_cs sm_L sm_sh ((if 0 < (S 1021 0) then 11 else 30 * (20 - (S 1023 0)) + 24)).toNat (q_conditional p1 S) 48 7 [(0, .ref 0), (1, sv_I p1), (2, sv_I r9)] [] (sv_sts S [1020, 1021, 1022, 1023, 5, 1011, 3, 4, 1007, 1009, 11, 12, 13, 14, 1024, 15, 16, 1031, 1032, 17, 18, 19, 20, 21, 22, 23, 24, 25, 1042, 1043, 1044, 1045, 1100001, 1100002, 1100005, 1100003, 1100004, 1100018, 1100019, 1100016] g5)
  refine sv_aload_n hM dX12_conditional_7 rfl rfl ?_
  have k11 : sv_R (g5 1021 0) := sm_okI ok6 sm_r1021 0
  have h := h k11
  refine sv_getI hM dX12_conditional_8 sm_fl_389 (sm_a0 _) sm_k21 rfl (x := (g5 1021 0)) rfl ?_
  refine sv_cond_gt hM dX12_conditional_11 k11 (t := 23) rfl rfl (fun hc => ?_) (fun hc => ?_)
  · have h := h.1 (hc)
    refine sv_iload_n hM dX12_conditional_23 rfl rfl ?_
    exact sv_iret hM dX12_conditional_24 rfl rfl ⟨r9, rfl, hr9, ok6, md10, h⟩
  · have h := h.2 (hc)
    refine sv_aload_n hM dX12_conditional_14 rfl rfl ?_
    refine sv_bipush (d := (45 : Int)) hM dX12_conditional_15 rfl rfl ?_
    obtain ⟨o12, h⟩ := h
    obtain ⟨o13, h⟩ := h
    refine sv_callV hM dX12_conditional_17 sm_iv_398 (by decide) (sm_a0 _) rfl rfl (Nat.le_of_ble_eq_true rfl) sm_h24 (Nat.le_of_ble_eq_true rfl) (Nat.le_of_ble_eq_true rfl) (F' := 0) (sv_Fn (n := 0) o13) rfl (t_isSign (45 : Int) (sv_sts S [1020, 1021, 1022, 1023, 5, 1011, 3, 4, 1007, 1009, 11, 12, 13, 14, 1024, 15, 16, 1031, 1032, 17, 18, 19, 20, 21, 22, 23, 24, 25, 1042, 1043, 1044, 1045, 1100001, 1100002, 1100005, 1100003, 1100004, 1100018, 1100019, 1100016] g5) ok6 (⟨by decide, by decide⟩ : sv_R (45 : Int)) o12) (fun v S1 hq => ?_)
    obtain ⟨rfl, hS1⟩ := hq
    obtain rfl : (sv_sts S [1020, 1021, 1022, 1023, 5, 1011, 3, 4, 1007, 1009, 11, 12, 13, 14, 1024, 15, 16, 1031, 1032, 17, 18, 19, 20, 21, 22, 23, 24, 25, 1042, 1043, 1044, 1045, 1100001, 1100002, 1100005, 1100003, 1100004, 1100018, 1100019, 1100016] g5) = S1 := hS1.symm
    show sv_T sm_XS sm_cs sm_L sm_sh ((if 0 < (S 1021 0) then 11 else 30 * (20 - (S 1023 0)) + 24)).toNat (q_conditional p1 S) 48 20 [(0, .ref 0), (1, sv_I p1), (2, sv_I r9)] [sv_I (if (S 6 (g5 1020 0)) = 5 ∧ (S 7 (g5 1020 0)) = (45 : Int) then 1 else 0)] (sv_sts S [1020, 1021, 1022, 1023, 5, 1011, 3, 4, 1007, 1009, 11, 12, 13, 14, 1024, 15, 16, 1031, 1032, 17, 18, 19, 20, 21, 22, 23, 24, 25, 1042, 1043, 1044, 1045, 1100001, 1100002, 1100005, 1100003, 1100004, 1100018, 1100019, 1100016] g5)
    refine sv_cond_ne hM dX12_conditional_20 (sv_Rite : sv_R (if (S 6 (g5 1020 0)) = 5 ∧ (S 7 (g5 1020 0)) = (45 : Int) then 1 else 0)) (t := 25) rfl rfl (fun hc => ?_) (fun hc => ?_)
    · have h := h.1 (sv_itep hc)
      refine sv_aload_n hM dX12_conditional_25 rfl rfl ?_
      refine sv_dupA hM dX12_conditional_26 rfl ?_
      have k14 : sv_R (g5 1020 0) := sm_okI ok6 sm_r1020 0
      have h := h k14
      refine sv_getI hM dX12_conditional_27 sm_fl_392 (sm_a0 _) sm_k20 rfl (x := (g5 1020 0)) rfl ?_
      refine sv_iconst (d := (1 : Int)) hM dX12_conditional_30 rfl rfl ?_
      refine sv_iadd hM dX12_conditional_31 rfl ?_
      obtain ⟨o15, h⟩ := h
      refine sv_putI sm_X hM dX12_conditional_32 sm_fp_392 (sm_a0 _) sm_q20 (Or.inl rfl) rfl rfl rfl rfl ?_
      have ok16 : sm_ok (sv_up (sv_sts S [1020, 1021, 1022, 1023, 5, 1011, 3, 4, 1007, 1009, 11, 12, 13, 14, 1024, 15, 16, 1031, 1032, 17, 18, 19, 20, 21, 22, 23, 24, 25, 1042, 1043, 1044, 1045, 1100001, 1100002, 1100005, 1100003, 1100004, 1100018, 1100019, 1100016] g5) 1020 0 ((g5 1020 0) + (1 : Int))) := sm_upI ok6 sm_r1020 o15
      have md17 : sv_mod [1020, 1021, 1022, 1023, 5, 1011, 3, 4, 1007, 1009, 11, 12, 13, 14, 1024, 15, 16, 1031, 1032, 17, 18, 19, 20, 21, 22, 23, 24, 25, 1042, 1043, 1044, 1045, 1100001, 1100002, 1100005, 1100003, 1100004, 1100018, 1100019, 1100016] S (sv_up (sv_sts S [1020, 1021, 1022, 1023, 5, 1011, 3, 4, 1007, 1009, 11, 12, 13, 14, 1024, 15, 16, 1031, 1032, 17, 18, 19, 20, 21, 22, 23, 24, 25, 1042, 1043, 1044, 1045, 1100001, 1100002, 1100005, 1100003, 1100004, 1100018, 1100019, 1100016] g5) 1020 0 ((g5 1020 0) + (1 : Int))) := sv_mod.up md10 (by decide)
      refine sv_aload_n hM dX12_conditional_35 rfl rfl ?_
      refine sv_iload_n hM dX12_conditional_36 rfl rfl ?_
      obtain ⟨o18, h⟩ := h
      obtain ⟨o19, h⟩ := h
      obtain ⟨o20, h⟩ := h
      refine sv_callV hM dX12_conditional_37 sm_iv_466 (by decide) (sm_a0 _) rfl rfl (Nat.le_of_ble_eq_true rfl) sm_h46 (Nat.le_of_ble_eq_true rfl) (Nat.le_of_ble_eq_true rfl) (F' := ((30 * (20 - (g5 1023 0)) + 14)).toNat) (sv_Fe o20) rfl ((IH (30 * (20 - (g5 1023 0)) + 14) o19.1 o19.2).2.1 p1 (sv_up (sv_sts S [1020, 1021, 1022, 1023, 5, 1011, 3, 4, 1007, 1009, 11, 12, 13, 14, 1024, 15, 16, 1031, 1032, 17, 18, 19, 20, 21, 22, 23, 24, 25, 1042, 1043, 1044, 1045, 1100001, 1100002, 1100005, 1100003, 1100004, 1100018, 1100019, 1100016] g5) 1020 0 ((g5 1020 0) + (1 : Int))) ok16 o1 o18 rfl) (fun v S1 hq => ?_)
      obtain ⟨r25, rfl, hr25, ok22, md23, hpo24⟩ := hq
      obtain ⟨g21, rfl⟩ : ∃ g, S1 = sv_sts (sv_up (sv_sts S [1020, 1021, 1022, 1023, 5, 1011, 3, 4, 1007, 1009, 11, 12, 13, 14, 1024, 15, 16, 1031, 1032, 17, 18, 19, 20, 21, 22, 23, 24, 25, 1042, 1043, 1044, 1045, 1100001, 1100002, 1100005, 1100003, 1100004, 1100018, 1100019, 1100016] g5) 1020 0 ((g5 1020 0) + (1 : Int))) [1020, 1021, 1022, 1023, 5, 1011, 3, 4, 1007, 1009, 11, 12, 13, 14, 1024, 15, 16, 1031, 1032, 17, 18, 19, 20, 21, 22, 23, 24, 25, 1042, 1043, 1044, 1045, 1100001, 1100002, 1100005, 1100003, 1100004, 1100018, 1100019, 1100016] g := ⟨_, md23.eq⟩
      show sv_T sm_XS sm_cs sm_L sm_sh ((if 0 < (S 1021 0) then 11 else 30 * (20 - (S 1023 0)) + 24)).toNat (q_conditional p1 S) 48 40 [(0, .ref 0), (1, sv_I p1), (2, sv_I r9)] [sv_I r25] (sv_sts (sv_up (sv_sts S [1020, 1021, 1022, 1023, 5, 1011, 3, 4, 1007, 1009, 11, 12, 13, 14, 1024, 15, 16, 1031, 1032, 17, 18, 19, 20, 21, 22, 23, 24, 25, 1042, 1043, 1044, 1045, 1100001, 1100002, 1100005, 1100003, 1100004, 1100018, 1100019, 1100016] g5) 1020 0 ((g5 1020 0) + (1 : Int))) [1020, 1021, 1022, 1023, 5, 1011, 3, 4, 1007, 1009, 11, 12, 13, 14, 1024, 15, 16, 1031, 1032, 17, 18, 19, 20, 21, 22, 23, 24, 25, 1042, 1043, 1044, 1045, 1100001, 1100002, 1100005, 1100003, 1100004, 1100018, 1100019, 1100016] g21)
      have md26 : sv_mod [1020, 1021, 1022, 1023, 5, 1011, 3, 4, 1007, 1009, 11, 12, 13, 14, 1024, 15, 16, 1031, 1032, 17, 18, 19, 20, 21, 22, 23, 24, 25, 1042, 1043, 1044, 1045, 1100001, 1100002, 1100005, 1100003, 1100004, 1100018, 1100019, 1100016] S (sv_sts (sv_up (sv_sts S [1020, 1021, 1022, 1023, 5, 1011, 3, 4, 1007, 1009, 11, 12, 13, 14, 1024, 15, 16, 1031, 1032, 17, 18, 19, 20, 21, 22, 23, 24, 25, 1042, 1043, 1044, 1045, 1100001, 1100002, 1100005, 1100003, 1100004, 1100018, 1100019, 1100016] g5) 1020 0 ((g5 1020 0) + (1 : Int))) [1020, 1021, 1022, 1023, 5, 1011, 3, 4, 1007, 1009, 11, 12, 13, 14, 1024, 15, 16, 1031, 1032, 17, 18, 19, 20, 21, 22, 23, 24, 25, 1042, 1043, 1044, 1045, 1100001, 1100002, 1100005, 1100003, 1100004, 1100018, 1100019, 1100016] g21) := sv_mod.sts md17 (by decide)
      have h := h r25 hr25 g21 hpo24
      refine sv_istore_n hM dX12_conditional_40 (by decide) rfl ?_
      show sv_T sm_XS sm_cs sm_L sm_sh ((if 0 < (S 1021 0) then 11 else 30 * (20 - (S 1023 0)) + 24)).toNat (q_conditional p1 S) 48 41 [(0, .ref 0), (1, sv_I p1), (2, sv_I r9), (3, sv_I r25)] [] (sv_sts (sv_up (sv_sts S [1020, 1021, 1022, 1023, 5, 1011, 3, 4, 1007, 1009, 11, 12, 13, 14, 1024, 15, 16, 1031, 1032, 17, 18, 19, 20, 21, 22, 23, 24, 25, 1042, 1043, 1044, 1045, 1100001, 1100002, 1100005, 1100003, 1100004, 1100018, 1100019, 1100016] g5) 1020 0 ((g5 1020 0) + (1 : Int))) [1020, 1021, 1022, 1023, 5, 1011, 3, 4, 1007, 1009, 11, 12, 13, 14, 1024, 15, 16, 1031, 1032, 17, 18, 19, 20, 21, 22, 23, 24, 25, 1042, 1043, 1044, 1045, 1100001, 1100002, 1100005, 1100003, 1100004, 1100018, 1100019, 1100016] g21)
      refine sv_aload_n hM dX12_conditional_41 rfl rfl ?_
      refine sv_bipush (d := (46 : Int)) hM dX12_conditional_42 rfl rfl ?_
      obtain ⟨o27, h⟩ := h
      obtain ⟨o28, h⟩ := h
      refine sv_callV hM dX12_conditional_44 sm_iv_473 (by decide) (sm_a0 _) rfl rfl (Nat.le_of_ble_eq_true rfl) sm_h26 (Nat.le_of_ble_eq_true rfl) (Nat.le_of_ble_eq_true rfl) (F' := 1) (sv_Fn (n := 1) o28) rfl (t_must (46 : Int) (sv_sts (sv_up (sv_sts S [1020, 1021, 1022, 1023, 5, 1011, 3, 4, 1007, 1009, 11, 12, 13, 14, 1024, 15, 16, 1031, 1032, 17, 18, 19, 20, 21, 22, 23, 24, 25, 1042, 1043, 1044, 1045, 1100001, 1100002, 1100005, 1100003, 1100004, 1100018, 1100019, 1100016] g5) 1020 0 ((g5 1020 0) + (1 : Int))) [1020, 1021, 1022, 1023, 5, 1011, 3, 4, 1007, 1009, 11, 12, 13, 14, 1024, 15, 16, 1031, 1032, 17, 18, 19, 20, 21, 22, 23, 24, 25, 1042, 1043, 1044, 1045, 1100001, 1100002, 1100005, 1100003, 1100004, 1100018, 1100019, 1100016] g21) ok22 (⟨by decide, by decide⟩ : sv_R (46 : Int)) o27) (fun v S1 hq => ?_)
      obtain ⟨r33, rfl, hr33, ok30, md31, hpo32⟩ := hq
      obtain ⟨g29, rfl⟩ : ∃ g, S1 = sv_sts (sv_sts (sv_up (sv_sts S [1020, 1021, 1022, 1023, 5, 1011, 3, 4, 1007, 1009, 11, 12, 13, 14, 1024, 15, 16, 1031, 1032, 17, 18, 19, 20, 21, 22, 23, 24, 25, 1042, 1043, 1044, 1045, 1100001, 1100002, 1100005, 1100003, 1100004, 1100018, 1100019, 1100016] g5) 1020 0 ((g5 1020 0) + (1 : Int))) [1020, 1021, 1022, 1023, 5, 1011, 3, 4, 1007, 1009, 11, 12, 13, 14, 1024, 15, 16, 1031, 1032, 17, 18, 19, 20, 21, 22, 23, 24, 25, 1042, 1043, 1044, 1045, 1100001, 1100002, 1100005, 1100003, 1100004, 1100018, 1100019, 1100016] g21) [1021, 1022, 1020] g := ⟨_, md31.eq⟩
      show sv_T sm_XS sm_cs sm_L sm_sh ((if 0 < (S 1021 0) then 11 else 30 * (20 - (S 1023 0)) + 24)).toNat (q_conditional p1 S) 48 47 [(0, .ref 0), (1, sv_I p1), (2, sv_I r9), (3, sv_I r25)] [sv_I r33] (sv_sts (sv_sts (sv_up (sv_sts S [1020, 1021, 1022, 1023, 5, 1011, 3, 4, 1007, 1009, 11, 12, 13, 14, 1024, 15, 16, 1031, 1032, 17, 18, 19, 20, 21, 22, 23, 24, 25, 1042, 1043, 1044, 1045, 1100001, 1100002, 1100005, 1100003, 1100004, 1100018, 1100019, 1100016] g5) 1020 0 ((g5 1020 0) + (1 : Int))) [1020, 1021, 1022, 1023, 5, 1011, 3, 4, 1007, 1009, 11, 12, 13, 14, 1024, 15, 16, 1031, 1032, 17, 18, 19, 20, 21, 22, 23, 24, 25, 1042, 1043, 1044, 1045, 1100001, 1100002, 1100005, 1100003, 1100004, 1100018, 1100019, 1100016] g21) [1021, 1022, 1020] g29)
      have md34 : sv_mod [1020, 1021, 1022, 1023, 5, 1011, 3, 4, 1007, 1009, 11, 12, 13, 14, 1024, 15, 16, 1031, 1032, 17, 18, 19, 20, 21, 22, 23, 24, 25, 1042, 1043, 1044, 1045, 1100001, 1100002, 1100005, 1100003, 1100004, 1100018, 1100019, 1100016] S (sv_sts (sv_sts (sv_up (sv_sts S [1020, 1021, 1022, 1023, 5, 1011, 3, 4, 1007, 1009, 11, 12, 13, 14, 1024, 15, 16, 1031, 1032, 17, 18, 19, 20, 21, 22, 23, 24, 25, 1042, 1043, 1044, 1045, 1100001, 1100002, 1100005, 1100003, 1100004, 1100018, 1100019, 1100016] g5) 1020 0 ((g5 1020 0) + (1 : Int))) [1020, 1021, 1022, 1023, 5, 1011, 3, 4, 1007, 1009, 11, 12, 13, 14, 1024, 15, 16, 1031, 1032, 17, 18, 19, 20, 21, 22, 23, 24, 25, 1042, 1043, 1044, 1045, 1100001, 1100002, 1100005, 1100003, 1100004, 1100018, 1100019, 1100016] g21) [1021, 1022, 1020] g29) := sv_mod.sts md26 (by decide)
      have h := h r33 hr33 g29 hpo32
      refine sv_cond_ne hM dX12_conditional_47 hr33 (t := 52) rfl rfl (fun hc => ?_) (fun hc => ?_)
      · have h := h.1 (hc)
        refine sv_aload_n hM dX12_conditional_52 rfl rfl ?_
        refine sv_bipush (d := (14 : Int)) hM dX12_conditional_53 rfl rfl ?_
        refine sv_iload_n hM dX12_conditional_55 rfl rfl ?_
        refine sv_iload_n hM dX12_conditional_56 rfl rfl ?_
        refine sv_aload_n hM dX12_conditional_57 rfl rfl ?_
        refine sv_iload_n hM dX12_conditional_58 rfl rfl ?_
        obtain ⟨o35, h⟩ := h
        obtain ⟨o36, h⟩ := h
        obtain ⟨o37, h⟩ := h
        refine sv_callV hM dX12_conditional_59 sm_iv_466 (by decide) (sm_a0 _) rfl rfl (Nat.le_of_ble_eq_true rfl) sm_h46 (Nat.le_of_ble_eq_true rfl) (Nat.le_of_ble_eq_true rfl) (F' := ((30 * (20 - (g21 1023 0)) + 14)).toNat) (sv_Fe o37) rfl ((IH (30 * (20 - (g21 1023 0)) + 14) o36.1 o36.2).2.1 p1 (sv_sts (sv_sts (sv_up (sv_sts S [1020, 1021, 1022, 1023, 5, 1011, 3, 4, 1007, 1009, 11, 12, 13, 14, 1024, 15, 16, 1031, 1032, 17, 18, 19, 20, 21, 22, 23, 24, 25, 1042, 1043, 1044, 1045, 1100001, 1100002, 1100005, 1100003, 1100004, 1100018, 1100019, 1100016] g5) 1020 0 ((g5 1020 0) + (1 : Int))) [1020, 1021, 1022, 1023, 5, 1011, 3, 4, 1007, 1009, 11, 12, 13, 14, 1024, 15, 16, 1031, 1032, 17, 18, 19, 20, 21, 22, 23, 24, 25, 1042, 1043, 1044, 1045, 1100001, 1100002, 1100005, 1100003, 1100004, 1100018, 1100019, 1100016] g21) [1021, 1022, 1020] g29) ok30 o1 o35 rfl) (fun v S1 hq => ?_)
        obtain ⟨r42, rfl, hr42, ok39, md40, hpo41⟩ := hq
        obtain ⟨g38, rfl⟩ : ∃ g, S1 = sv_sts (sv_sts (sv_sts (sv_up (sv_sts S [1020, 1021, 1022, 1023, 5, 1011, 3, 4, 1007, 1009, 11, 12, 13, 14, 1024, 15, 16, 1031, 1032, 17, 18, 19, 20, 21, 22, 23, 24, 25, 1042, 1043, 1044, 1045, 1100001, 1100002, 1100005, 1100003, 1100004, 1100018, 1100019, 1100016] g5) 1020 0 ((g5 1020 0) + (1 : Int))) [1020, 1021, 1022, 1023, 5, 1011, 3, 4, 1007, 1009, 11, 12, 13, 14, 1024, 15, 16, 1031, 1032, 17, 18, 19, 20, 21, 22, 23, 24, 25, 1042, 1043, 1044, 1045, 1100001, 1100002, 1100005, 1100003, 1100004, 1100018, 1100019, 1100016] g21) [1021, 1022, 1020] g29) [1020, 1021, 1022, 1023, 5, 1011, 3, 4, 1007, 1009, 11, 12, 13, 14, 1024, 15, 16, 1031, 1032, 17, 18, 19, 20, 21, 22, 23, 24, 25, 1042, 1043, 1044, 1045, 1100001, 1100002, 1100005, 1100003, 1100004, 1100018, 1100019, 1100016] g := ⟨_, md40.eq⟩
        show sv_T sm_XS sm_cs sm_L sm_sh ((if 0 < (S 1021 0) then 11 else 30 * (20 - (S 1023 0)) + 24)).toNat (q_conditional p1 S) 48 62 [(0, .ref 0), (1, sv_I p1), (2, sv_I r9), (3, sv_I r25)] [sv_I r42, sv_I r25, sv_I r9, sv_I (14 : Int), .ref 0] (sv_sts (sv_sts (sv_sts (sv_up (sv_sts S [1020, 1021, 1022, 1023, 5, 1011, 3, 4, 1007, 1009, 11, 12, 13, 14, 1024, 15, 16, 1031, 1032, 17, 18, 19, 20, 21, 22, 23, 24, 25, 1042, 1043, 1044, 1045, 1100001, 1100002, 1100005, 1100003, 1100004, 1100018, 1100019, 1100016] g5) 1020 0 ((g5 1020 0) + (1 : Int))) [1020, 1021, 1022, 1023, 5, 1011, 3, 4, 1007, 1009, 11, 12, 13, 14, 1024, 15, 16, 1031, 1032, 17, 18, 19, 20, 21, 22, 23, 24, 25, 1042, 1043, 1044, 1045, 1100001, 1100002, 1100005, 1100003, 1100004, 1100018, 1100019, 1100016] g21) [1021, 1022, 1020] g29) [1020, 1021, 1022, 1023, 5, 1011, 3, 4, 1007, 1009, 11, 12, 13, 14, 1024, 15, 16, 1031, 1032, 17, 18, 19, 20, 21, 22, 23, 24, 25, 1042, 1043, 1044, 1045, 1100001, 1100002, 1100005, 1100003, 1100004, 1100018, 1100019, 1100016] g38)
        have md43 : sv_mod [1020, 1021, 1022, 1023, 5, 1011, 3, 4, 1007, 1009, 11, 12, 13, 14, 1024, 15, 16, 1031, 1032, 17, 18, 19, 20, 21, 22, 23, 24, 25, 1042, 1043, 1044, 1045, 1100001, 1100002, 1100005, 1100003, 1100004, 1100018, 1100019, 1100016] S (sv_sts (sv_sts (sv_sts (sv_up (sv_sts S [1020, 1021, 1022, 1023, 5, 1011, 3, 4, 1007, 1009, 11, 12, 13, 14, 1024, 15, 16, 1031, 1032, 17, 18, 19, 20, 21, 22, 23, 24, 25, 1042, 1043, 1044, 1045, 1100001, 1100002, 1100005, 1100003, 1100004, 1100018, 1100019, 1100016] g5) 1020 0 ((g5 1020 0) + (1 : Int))) [1020, 1021, 1022, 1023, 5, 1011, 3, 4, 1007, 1009, 11, 12, 13, 14, 1024, 15, 16, 1031, 1032, 17, 18, 19, 20, 21, 22, 23, 24, 25, 1042, 1043, 1044, 1045, 1100001, 1100002, 1100005, 1100003, 1100004, 1100018, 1100019, 1100016] g21) [1021, 1022, 1020] g29) [1020, 1021, 1022, 1023, 5, 1011, 3, 4, 1007, 1009, 11, 12, 13, 14, 1024, 15, 16, 1031, 1032, 17, 18, 19, 20, 21, 22, 23, 24, 25, 1042, 1043, 1044, 1045, 1100001, 1100002, 1100005, 1100003, 1100004, 1100018, 1100019, 1100016] g38) := sv_mod.sts md34 (by decide)
        have h := h r42 hr42 g38 hpo41
        obtain ⟨o44, h⟩ := h
        refine sv_callV hM dX12_conditional_62 sm_iv_446 (by decide) (sm_a0 _) rfl rfl (Nat.le_of_ble_eq_true rfl) sm_h33 (Nat.le_of_ble_eq_true rfl) (Nat.le_of_ble_eq_true rfl) (F' := 0) (sv_Fn (n := 0) o13) rfl (t_node (14 : Int) r9 r25 r42 (sv_sts (sv_sts (sv_sts (sv_up (sv_sts S [1020, 1021, 1022, 1023, 5, 1011, 3, 4, 1007, 1009, 11, 12, 13, 14, 1024, 15, 16, 1031, 1032, 17, 18, 19, 20, 21, 22, 23, 24, 25, 1042, 1043, 1044, 1045, 1100001, 1100002, 1100005, 1100003, 1100004, 1100018, 1100019, 1100016] g5) 1020 0 ((g5 1020 0) + (1 : Int))) [1020, 1021, 1022, 1023, 5, 1011, 3, 4, 1007, 1009, 11, 12, 13, 14, 1024, 15, 16, 1031, 1032, 17, 18, 19, 20, 21, 22, 23, 24, 25, 1042, 1043, 1044, 1045, 1100001, 1100002, 1100005, 1100003, 1100004, 1100018, 1100019, 1100016] g21) [1021, 1022, 1020] g29) [1020, 1021, 1022, 1023, 5, 1011, 3, 4, 1007, 1009, 11, 12, 13, 14, 1024, 15, 16, 1031, 1032, 17, 18, 19, 20, 21, 22, 23, 24, 25, 1042, 1043, 1044, 1045, 1100001, 1100002, 1100005, 1100003, 1100004, 1100018, 1100019, 1100016] g38) ok39 (⟨by decide, by decide⟩ : sv_R (14 : Int)) hr9 hr25 hr42 o44) (fun v S1 hq => ?_)
        obtain ⟨r49, rfl, hr49, ok46, md47, hpo48⟩ := hq
        obtain ⟨g45, rfl⟩ : ∃ g, S1 = sv_sts (sv_sts (sv_sts (sv_sts (sv_up (sv_sts S [1020, 1021, 1022, 1023, 5, 1011, 3, 4, 1007, 1009, 11, 12, 13, 14, 1024, 15, 16, 1031, 1032, 17, 18, 19, 20, 21, 22, 23, 24, 25, 1042, 1043, 1044, 1045, 1100001, 1100002, 1100005, 1100003, 1100004, 1100018, 1100019, 1100016] g5) 1020 0 ((g5 1020 0) + (1 : Int))) [1020, 1021, 1022, 1023, 5, 1011, 3, 4, 1007, 1009, 11, 12, 13, 14, 1024, 15, 16, 1031, 1032, 17, 18, 19, 20, 21, 22, 23, 24, 25, 1042, 1043, 1044, 1045, 1100001, 1100002, 1100005, 1100003, 1100004, 1100018, 1100019, 1100016] g21) [1021, 1022, 1020] g29) [1020, 1021, 1022, 1023, 5, 1011, 3, 4, 1007, 1009, 11, 12, 13, 14, 1024, 15, 16, 1031, 1032, 17, 18, 19, 20, 21, 22, 23, 24, 25, 1042, 1043, 1044, 1045, 1100001, 1100002, 1100005, 1100003, 1100004, 1100018, 1100019, 1100016] g38) [1024, 11, 12, 13, 14, 1100019] g := ⟨_, md47.eq⟩
        show sv_T sm_XS sm_cs sm_L sm_sh ((if 0 < (S 1021 0) then 11 else 30 * (20 - (S 1023 0)) + 24)).toNat (q_conditional p1 S) 48 65 [(0, .ref 0), (1, sv_I p1), (2, sv_I r9), (3, sv_I r25)] [sv_I r49] (sv_sts (sv_sts (sv_sts (sv_sts (sv_up (sv_sts S [1020, 1021, 1022, 1023, 5, 1011, 3, 4, 1007, 1009, 11, 12, 13, 14, 1024, 15, 16, 1031, 1032, 17, 18, 19, 20, 21, 22, 23, 24, 25, 1042, 1043, 1044, 1045, 1100001, 1100002, 1100005, 1100003, 1100004, 1100018, 1100019, 1100016] g5) 1020 0 ((g5 1020 0) + (1 : Int))) [1020, 1021, 1022, 1023, 5, 1011, 3, 4, 1007, 1009, 11, 12, 13, 14, 1024, 15, 16, 1031, 1032, 17, 18, 19, 20, 21, 22, 23, 24, 25, 1042, 1043, 1044, 1045, 1100001, 1100002, 1100005, 1100003, 1100004, 1100018, 1100019, 1100016] g21) [1021, 1022, 1020] g29) [1020, 1021, 1022, 1023, 5, 1011, 3, 4, 1007, 1009, 11, 12, 13, 14, 1024, 15, 16, 1031, 1032, 17, 18, 19, 20, 21, 22, 23, 24, 25, 1042, 1043, 1044, 1045, 1100001, 1100002, 1100005, 1100003, 1100004, 1100018, 1100019, 1100016] g38) [1024, 11, 12, 13, 14, 1100019] g45)
        have md50 : sv_mod [1020, 1021, 1022, 1023, 5, 1011, 3, 4, 1007, 1009, 11, 12, 13, 14, 1024, 15, 16, 1031, 1032, 17, 18, 19, 20, 21, 22, 23, 24, 25, 1042, 1043, 1044, 1045, 1100001, 1100002, 1100005, 1100003, 1100004, 1100018, 1100019, 1100016] S (sv_sts (sv_sts (sv_sts (sv_sts (sv_up (sv_sts S [1020, 1021, 1022, 1023, 5, 1011, 3, 4, 1007, 1009, 11, 12, 13, 14, 1024, 15, 16, 1031, 1032, 17, 18, 19, 20, 21, 22, 23, 24, 25, 1042, 1043, 1044, 1045, 1100001, 1100002, 1100005, 1100003, 1100004, 1100018, 1100019, 1100016] g5) 1020 0 ((g5 1020 0) + (1 : Int))) [1020, 1021, 1022, 1023, 5, 1011, 3, 4, 1007, 1009, 11, 12, 13, 14, 1024, 15, 16, 1031, 1032, 17, 18, 19, 20, 21, 22, 23, 24, 25, 1042, 1043, 1044, 1045, 1100001, 1100002, 1100005, 1100003, 1100004, 1100018, 1100019, 1100016] g21) [1021, 1022, 1020] g29) [1020, 1021, 1022, 1023, 5, 1011, 3, 4, 1007, 1009, 11, 12, 13, 14, 1024, 15, 16, 1031, 1032, 17, 18, 19, 20, 21, 22, 23, 24, 25, 1042, 1043, 1044, 1045, 1100001, 1100002, 1100005, 1100003, 1100004, 1100018, 1100019, 1100016] g38) [1024, 11, 12, 13, 14, 1100019] g45) := sv_mod.sts md43 (by decide)
        have h := h r49 hr49 g45 hpo48
        refine sv_ghost sm_X 1100001 r49 (1 : Int) (by decide) ?_
        have ok51 : sm_ok (sv_up (sv_sts (sv_sts (sv_sts (sv_sts (sv_up (sv_sts S [1020, 1021, 1022, 1023, 5, 1011, 3, 4, 1007, 1009, 11, 12, 13, 14, 1024, 15, 16, 1031, 1032, 17, 18, 19, 20, 21, 22, 23, 24, 25, 1042, 1043, 1044, 1045, 1100001, 1100002, 1100005, 1100003, 1100004, 1100018, 1100019, 1100016] g5) 1020 0 ((g5 1020 0) + (1 : Int))) [1020, 1021, 1022, 1023, 5, 1011, 3, 4, 1007, 1009, 11, 12, 13, 14, 1024, 15, 16, 1031, 1032, 17, 18, 19, 20, 21, 22, 23, 24, 25, 1042, 1043, 1044, 1045, 1100001, 1100002, 1100005, 1100003, 1100004, 1100018, 1100019, 1100016] g21) [1021, 1022, 1020] g29) [1020, 1021, 1022, 1023, 5, 1011, 3, 4, 1007, 1009, 11, 12, 13, 14, 1024, 15, 16, 1031, 1032, 17, 18, 19, 20, 21, 22, 23, 24, 25, 1042, 1043, 1044, 1045, 1100001, 1100002, 1100005, 1100003, 1100004, 1100018, 1100019, 1100016] g38) [1024, 11, 12, 13, 14, 1100019] g45) 1100001 r49 (1 : Int)) := sm_upI ok46 sm_r1100001 (⟨by decide, by decide⟩ : sv_R (1 : Int))
        have md52 : sv_mod [1020, 1021, 1022, 1023, 5, 1011, 3, 4, 1007, 1009, 11, 12, 13, 14, 1024, 15, 16, 1031, 1032, 17, 18, 19, 20, 21, 22, 23, 24, 25, 1042, 1043, 1044, 1045, 1100001, 1100002, 1100005, 1100003, 1100004, 1100018, 1100019, 1100016] S (sv_up (sv_sts (sv_sts (sv_sts (sv_sts (sv_up (sv_sts S [1020, 1021, 1022, 1023, 5, 1011, 3, 4, 1007, 1009, 11, 12, 13, 14, 1024, 15, 16, 1031, 1032, 17, 18, 19, 20, 21, 22, 23, 24, 25, 1042, 1043, 1044, 1045, 1100001, 1100002, 1100005, 1100003, 1100004, 1100018, 1100019, 1100016] g5) 1020 0 ((g5 1020 0) + (1 : Int))) [1020, 1021, 1022, 1023, 5, 1011, 3, 4, 1007, 1009, 11, 12, 13, 14, 1024, 15, 16, 1031, 1032, 17, 18, 19, 20, 21, 22, 23, 24, 25, 1042, 1043, 1044, 1045, 1100001, 1100002, 1100005, 1100003, 1100004, 1100018, 1100019, 1100016] g21) [1021, 1022, 1020] g29) [1020, 1021, 1022, 1023, 5, 1011, 3, 4, 1007, 1009, 11, 12, 13, 14, 1024, 15, 16, 1031, 1032, 17, 18, 19, 20, 21, 22, 23, 24, 25, 1042, 1043, 1044, 1045, 1100001, 1100002, 1100005, 1100003, 1100004, 1100018, 1100019, 1100016] g38) [1024, 11, 12, 13, 14, 1100019] g45) 1100001 r49 (1 : Int)) := sv_mod.up md50 (by decide)
        obtain ⟨o53, h⟩ := h
        refine sv_ghost sm_X 1100002 r49 ((17 * (20 - (S 1023 0)) + 17)) (by decide) ?_
        have ok54 : sm_ok (sv_up (sv_up (sv_sts (sv_sts (sv_sts (sv_sts (sv_up (sv_sts S [1020, 1021, 1022, 1023, 5, 1011, 3, 4, 1007, 1009, 11, 12, 13, 14, 1024, 15, 16, 1031, 1032, 17, 18, 19, 20, 21, 22, 23, 24, 25, 1042, 1043, 1044, 1045, 1100001, 1100002, 1100005, 1100003, 1100004, 1100018, 1100019, 1100016] g5) 1020 0 ((g5 1020 0) + (1 : Int))) [1020, 1021, 1022, 1023, 5, 1011, 3, 4, 1007, 1009, 11, 12, 13, 14, 1024, 15, 16, 1031, 1032, 17, 18, 19, 20, 21, 22, 23, 24, 25, 1042, 1043, 1044, 1045, 1100001, 1100002, 1100005, 1100003, 1100004, 1100018, 1100019, 1100016] g21) [1021, 1022, 1020] g29) [1020, 1021, 1022, 1023, 5, 1011, 3, 4, 1007, 1009, 11, 12, 13, 14, 1024, 15, 16, 1031, 1032, 17, 18, 19, 20, 21, 22, 23, 24, 25, 1042, 1043, 1044, 1045, 1100001, 1100002, 1100005, 1100003, 1100004, 1100018, 1100019, 1100016] g38) [1024, 11, 12, 13, 14, 1100019] g45) 1100001 r49 (1 : Int)) 1100002 r49 ((17 * (20 - (S 1023 0)) + 17))) := sm_upI ok51 sm_r1100002 o53
        have md55 : sv_mod [1020, 1021, 1022, 1023, 5, 1011, 3, 4, 1007, 1009, 11, 12, 13, 14, 1024, 15, 16, 1031, 1032, 17, 18, 19, 20, 21, 22, 23, 24, 25, 1042, 1043, 1044, 1045, 1100001, 1100002, 1100005, 1100003, 1100004, 1100018, 1100019, 1100016] S (sv_up (sv_up (sv_sts (sv_sts (sv_sts (sv_sts (sv_up (sv_sts S [1020, 1021, 1022, 1023, 5, 1011, 3, 4, 1007, 1009, 11, 12, 13, 14, 1024, 15, 16, 1031, 1032, 17, 18, 19, 20, 21, 22, 23, 24, 25, 1042, 1043, 1044, 1045, 1100001, 1100002, 1100005, 1100003, 1100004, 1100018, 1100019, 1100016] g5) 1020 0 ((g5 1020 0) + (1 : Int))) [1020, 1021, 1022, 1023, 5, 1011, 3, 4, 1007, 1009, 11, 12, 13, 14, 1024, 15, 16, 1031, 1032, 17, 18, 19, 20, 21, 22, 23, 24, 25, 1042, 1043, 1044, 1045, 1100001, 1100002, 1100005, 1100003, 1100004, 1100018, 1100019, 1100016] g21) [1021, 1022, 1020] g29) [1020, 1021, 1022, 1023, 5, 1011, 3, 4, 1007, 1009, 11, 12, 13, 14, 1024, 15, 16, 1031, 1032, 17, 18, 19, 20, 21, 22, 23, 24, 25, 1042, 1043, 1044, 1045, 1100001, 1100002, 1100005, 1100003, 1100004, 1100018, 1100019, 1100016] g38) [1024, 11, 12, 13, 14, 1100019] g45) 1100001 r49 (1 : Int)) 1100002 r49 ((17 * (20 - (S 1023 0)) + 17))) := sv_mod.up md52 (by decide)
        obtain ⟨o56, h⟩ := h
        refine sv_ghost sm_X 1100005 r49 ((20 - (S 1023 0))) (by decide) ?_
        have ok57 : sm_ok (sv_up (sv_up (sv_up (sv_sts (sv_sts (sv_sts (sv_sts (sv_up (sv_sts S [1020, 1021, 1022, 1023, 5, 1011, 3, 4, 1007, 1009, 11, 12, 13, 14, 1024, 15, 16, 1031, 1032, 17, 18, 19, 20, 21, 22, 23, 24, 25, 1042, 1043, 1044, 1045, 1100001, 1100002, 1100005, 1100003, 1100004, 1100018, 1100019, 1100016] g5) 1020 0 ((g5 1020 0) + (1 : Int))) [1020, 1021, 1022, 1023, 5, 1011, 3, 4, 1007, 1009, 11, 12, 13, 14, 1024, 15, 16, 1031, 1032, 17, 18, 19, 20, 21, 22, 23, 24, 25, 1042, 1043, 1044, 1045, 1100001, 1100002, 1100005, 1100003, 1100004, 1100018, 1100019, 1100016] g21) [1021, 1022, 1020] g29) [1020, 1021, 1022, 1023, 5, 1011, 3, 4, 1007, 1009, 11, 12, 13, 14, 1024, 15, 16, 1031, 1032, 17, 18, 19, 20, 21, 22, 23, 24, 25, 1042, 1043, 1044, 1045, 1100001, 1100002, 1100005, 1100003, 1100004, 1100018, 1100019, 1100016] g38) [1024, 11, 12, 13, 14, 1100019] g45) 1100001 r49 (1 : Int)) 1100002 r49 ((17 * (20 - (S 1023 0)) + 17))) 1100005 r49 ((20 - (S 1023 0)))) := sm_upI ok54 sm_r1100005 o56
        have md58 : sv_mod [1020, 1021, 1022, 1023, 5, 1011, 3, 4, 1007, 1009, 11, 12, 13, 14, 1024, 15, 16, 1031, 1032, 17, 18, 19, 20, 21, 22, 23, 24, 25, 1042, 1043, 1044, 1045, 1100001, 1100002, 1100005, 1100003, 1100004, 1100018, 1100019, 1100016] S (sv_up (sv_up (sv_up (sv_sts (sv_sts (sv_sts (sv_sts (sv_up (sv_sts S [1020, 1021, 1022, 1023, 5, 1011, 3, 4, 1007, 1009, 11, 12, 13, 14, 1024, 15, 16, 1031, 1032, 17, 18, 19, 20, 21, 22, 23, 24, 25, 1042, 1043, 1044, 1045, 1100001, 1100002, 1100005, 1100003, 1100004, 1100018, 1100019, 1100016] g5) 1020 0 ((g5 1020 0) + (1 : Int))) [1020, 1021, 1022, 1023, 5, 1011, 3, 4, 1007, 1009, 11, 12, 13, 14, 1024, 15, 16, 1031, 1032, 17, 18, 19, 20, 21, 22, 23, 24, 25, 1042, 1043, 1044, 1045, 1100001, 1100002, 1100005, 1100003, 1100004, 1100018, 1100019, 1100016] g21) [1021, 1022, 1020] g29) [1020, 1021, 1022, 1023, 5, 1011, 3, 4, 1007, 1009, 11, 12, 13, 14, 1024, 15, 16, 1031, 1032, 17, 18, 19, 20, 21, 22, 23, 24, 25, 1042, 1043, 1044, 1045, 1100001, 1100002, 1100005, 1100003, 1100004, 1100018, 1100019, 1100016] g38) [1024, 11, 12, 13, 14, 1100019] g45) 1100001 r49 (1 : Int)) 1100002 r49 ((17 * (20 - (S 1023 0)) + 17))) 1100005 r49 ((20 - (S 1023 0)))) := sv_mod.up md55 (by decide)
        refine sv_ghost sm_X 1100003 r49 (0 : Int) (by decide) ?_
        have ok59 : sm_ok (sv_up (sv_up (sv_up (sv_up (sv_sts (sv_sts (sv_sts (sv_sts (sv_up (sv_sts S [1020, 1021, 1022, 1023, 5, 1011, 3, 4, 1007, 1009, 11, 12, 13, 14, 1024, 15, 16, 1031, 1032, 17, 18, 19, 20, 21, 22, 23, 24, 25, 1042, 1043, 1044, 1045, 1100001, 1100002, 1100005, 1100003, 1100004, 1100018, 1100019, 1100016] g5) 1020 0 ((g5 1020 0) + (1 : Int))) [1020, 1021, 1022, 1023, 5, 1011, 3, 4, 1007, 1009, 11, 12, 13, 14, 1024, 15, 16, 1031, 1032, 17, 18, 19, 20, 21, 22, 23, 24, 25, 1042, 1043, 1044, 1045, 1100001, 1100002, 1100005, 1100003, 1100004, 1100018, 1100019, 1100016] g21) [1021, 1022, 1020] g29) [1020, 1021, 1022, 1023, 5, 1011, 3, 4, 1007, 1009, 11, 12, 13, 14, 1024, 15, 16, 1031, 1032, 17, 18, 19, 20, 21, 22, 23, 24, 25, 1042, 1043, 1044, 1045, 1100001, 1100002, 1100005, 1100003, 1100004, 1100018, 1100019, 1100016] g38) [1024, 11, 12, 13, 14, 1100019] g45) 1100001 r49 (1 : Int)) 1100002 r49 ((17 * (20 - (S 1023 0)) + 17))) 1100005 r49 ((20 - (S 1023 0)))) 1100003 r49 (0 : Int)) := sm_upI ok57 sm_r1100003 (⟨by decide, by decide⟩ : sv_R (0 : Int))
        have md60 : sv_mod [1020, 1021, 1022, 1023, 5, 1011, 3, 4, 1007, 1009, 11, 12, 13, 14, 1024, 15, 16, 1031, 1032, 17, 18, 19, 20, 21, 22, 23, 24, 25, 1042, 1043, 1044, 1045, 1100001, 1100002, 1100005, 1100003, 1100004, 1100018, 1100019, 1100016] S (sv_up (sv_up (sv_up (sv_up (sv_sts (sv_sts (sv_sts (sv_sts (sv_up (sv_sts S [1020, 1021, 1022, 1023, 5, 1011, 3, 4, 1007, 1009, 11, 12, 13, 14, 1024, 15, 16, 1031, 1032, 17, 18, 19, 20, 21, 22, 23, 24, 25, 1042, 1043, 1044, 1045, 1100001, 1100002, 1100005, 1100003, 1100004, 1100018, 1100019, 1100016] g5) 1020 0 ((g5 1020 0) + (1 : Int))) [1020, 1021, 1022, 1023, 5, 1011, 3, 4, 1007, 1009, 11, 12, 13, 14, 1024, 15, 16, 1031, 1032, 17, 18, 19, 20, 21, 22, 23, 24, 25, 1042, 1043, 1044, 1045, 1100001, 1100002, 1100005, 1100003, 1100004, 1100018, 1100019, 1100016] g21) [1021, 1022, 1020] g29) [1020, 1021, 1022, 1023, 5, 1011, 3, 4, 1007, 1009, 11, 12, 13, 14, 1024, 15, 16, 1031, 1032, 17, 18, 19, 20, 21, 22, 23, 24, 25, 1042, 1043, 1044, 1045, 1100001, 1100002, 1100005, 1100003, 1100004, 1100018, 1100019, 1100016] g38) [1024, 11, 12, 13, 14, 1100019] g45) 1100001 r49 (1 : Int)) 1100002 r49 ((17 * (20 - (S 1023 0)) + 17))) 1100005 r49 ((20 - (S 1023 0)))) 1100003 r49 (0 : Int)) := sv_mod.up md58 (by decide)
        refine sv_ghost sm_X 1100004 r49 (0 : Int) (by decide) ?_
        have ok61 : sm_ok (sv_up (sv_up (sv_up (sv_up (sv_up (sv_sts (sv_sts (sv_sts (sv_sts (sv_up (sv_sts S [1020, 1021, 1022, 1023, 5, 1011, 3, 4, 1007, 1009, 11, 12, 13, 14, 1024, 15, 16, 1031, 1032, 17, 18, 19, 20, 21, 22, 23, 24, 25, 1042, 1043, 1044, 1045, 1100001, 1100002, 1100005, 1100003, 1100004, 1100018, 1100019, 1100016] g5) 1020 0 ((g5 1020 0) + (1 : Int))) [1020, 1021, 1022, 1023, 5, 1011, 3, 4, 1007, 1009, 11, 12, 13, 14, 1024, 15, 16, 1031, 1032, 17, 18, 19, 20, 21, 22, 23, 24, 25, 1042, 1043, 1044, 1045, 1100001, 1100002, 1100005, 1100003, 1100004, 1100018, 1100019, 1100016] g21) [1021, 1022, 1020] g29) [1020, 1021, 1022, 1023, 5, 1011, 3, 4, 1007, 1009, 11, 12, 13, 14, 1024, 15, 16, 1031, 1032, 17, 18, 19, 20, 21, 22, 23, 24, 25, 1042, 1043, 1044, 1045, 1100001, 1100002, 1100005, 1100003, 1100004, 1100018, 1100019, 1100016] g38) [1024, 11, 12, 13, 14, 1100019] g45) 1100001 r49 (1 : Int)) 1100002 r49 ((17 * (20 - (S 1023 0)) + 17))) 1100005 r49 ((20 - (S 1023 0)))) 1100003 r49 (0 : Int)) 1100004 r49 (0 : Int)) := sm_upI ok59 sm_r1100004 (⟨by decide, by decide⟩ : sv_R (0 : Int))
        have md62 : sv_mod [1020, 1021, 1022, 1023, 5, 1011, 3, 4, 1007, 1009, 11, 12, 13, 14, 1024, 15, 16, 1031, 1032, 17, 18, 19, 20, 21, 22, 23, 24, 25, 1042, 1043, 1044, 1045, 1100001, 1100002, 1100005, 1100003, 1100004, 1100018, 1100019, 1100016] S (sv_up (sv_up (sv_up (sv_up (sv_up (sv_sts (sv_sts (sv_sts (sv_sts (sv_up (sv_sts S [1020, 1021, 1022, 1023, 5, 1011, 3, 4, 1007, 1009, 11, 12, 13, 14, 1024, 15, 16, 1031, 1032, 17, 18, 19, 20, 21, 22, 23, 24, 25, 1042, 1043, 1044, 1045, 1100001, 1100002, 1100005, 1100003, 1100004, 1100018, 1100019, 1100016] g5) 1020 0 ((g5 1020 0) + (1 : Int))) [1020, 1021, 1022, 1023, 5, 1011, 3, 4, 1007, 1009, 11, 12, 13, 14, 1024, 15, 16, 1031, 1032, 17, 18, 19, 20, 21, 22, 23, 24, 25, 1042, 1043, 1044, 1045, 1100001, 1100002, 1100005, 1100003, 1100004, 1100018, 1100019, 1100016] g21) [1021, 1022, 1020] g29) [1020, 1021, 1022, 1023, 5, 1011, 3, 4, 1007, 1009, 11, 12, 13, 14, 1024, 15, 16, 1031, 1032, 17, 18, 19, 20, 21, 22, 23, 24, 25, 1042, 1043, 1044, 1045, 1100001, 1100002, 1100005, 1100003, 1100004, 1100018, 1100019, 1100016] g38) [1024, 11, 12, 13, 14, 1100019] g45) 1100001 r49 (1 : Int)) 1100002 r49 ((17 * (20 - (S 1023 0)) + 17))) 1100005 r49 ((20 - (S 1023 0)))) 1100003 r49 (0 : Int)) 1100004 r49 (0 : Int)) := sv_mod.up md60 (by decide)
        have k63 : ((g38 1021 0) = 0 → sm_WG (g38 1100001) (g45 1100019) (g38 1043 0) → (g45 1100019 r49) = (g38 1043 0) → sm_WG (fun i' : Int => if i' = r49 then (1 : Int) else (g38 1100001) i') (g45 1100019) (g38 1043 0)) := fun _ a b => sm_WG_C a b
        have h := h k63
        have k64 : ((g38 1021 0) = 0 → sm_WF (g45 11) (g45 12) (g45 13) (g38 1100001) (g38 1100002) (g38 1100005) (g38 1100003) (g38 1100004) (g45 1024 0) (g38 1007 0) (g38 1009 0) (sm_fn (g38 1032 0) (g38 21) (g38 1043 0)) → (g38 1100001 r49) = 0 → 0 ≤ r49 → r49 < (g45 1024 0) → (g45 13 r49) = -1 → (g45 11 r49) = 14 → (sm_ex (g38 1100001) (g38 1100002) (g38 1100005) (g45 1024 0) 1 (g45 12 (5 * r49)) ((17 * (20 - (S 1023 0)) + 17) - 2) (20 - (S 1023 0))) → (sm_ex (g38 1100001) (g38 1100002) (g38 1100005) (g45 1024 0) 1 (g45 12 (5 * r49 + 1)) ((17 * (20 - (S 1023 0)) + 17) - 2) (20 - (S 1023 0))) → (sm_ex (g38 1100001) (g38 1100002) (g38 1100005) (g45 1024 0) 1 (g45 12 (5 * r49 + 2)) ((17 * (20 - (S 1023 0)) + 17) - 2) (20 - (S 1023 0))) → (0 ≤ (17 * (20 - (S 1023 0)) + 17)) → (0 ≤ (20 - (S 1023 0))) → sm_WF (g45 11) (g45 12) (g45 13) (fun i' : Int => if i' = r49 then (1 : Int) else (g38 1100001) i') (fun i' : Int => if i' = r49 then ((17 * (20 - (S 1023 0)) + 17)) else (g38 1100002) i') (fun i' : Int => if i' = r49 then ((20 - (S 1023 0))) else (g38 1100005) i') (fun i' : Int => if i' = r49 then (0 : Int) else (g38 1100003) i') (fun i' : Int => if i' = r49 then (0 : Int) else (g38 1100004) i') (g45 1024 0) (g38 1007 0) (g38 1009 0) (sm_fn (g38 1032 0) (g38 21) (g38 1043 0))) := fun a0 aW a1 a2 a3 a4 aS c1 c2 c3 c4 c5 => (sm_mk1 aW a1 a2 a3 a4 (Or.inr ⟨rfl, sm_c1_14 aS c1 c2 c3⟩) ⟨c4, fun q => absurd (aS.symm.trans q) (by decide), fun q => absurd q (by omega), c5⟩).1
        have h := h k64
        exact sv_iret hM dX12_conditional_65 rfl rfl ⟨r49, rfl, hr49, ok61, md62, h⟩
      · have h := h.2 (hc)
        refine sv_iconst (d := (-1 : Int)) hM dX12_conditional_50 rfl rfl ?_
        exact sv_iret hM dX12_conditional_51 rfl rfl ⟨(-1 : Int), rfl, (⟨by decide, by decide⟩ : sv_R (-1 : Int)), ok30, md34, h⟩
    · have h := h.2 (fun q => hc (by rw [if_pos q]; decide))
      refine sv_iload_n hM dX12_conditional_23 rfl rfl ?_
      exact sv_iret hM dX12_conditional_24 rfl rfl ⟨r9, rfl, hr9, ok6, md10, h⟩
