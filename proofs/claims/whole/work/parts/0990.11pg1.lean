theorem dX12_expression_0 : decode cX12_expression 0 = .ok (.aload_n 0, 1) := by decide +kernel
theorem dX12_expression_1 : decode cX12_expression 1 = .ok (.iload_n 1, 1) := by decide +kernel
theorem dX12_expression_2 : decode cX12_expression 2 = .ok (.invokevirtual 442, 3) := by decide +kernel
theorem dX12_expression_5 : decode cX12_expression 5 = .ok (.istore_n 2, 1) := by decide +kernel
theorem dX12_expression_6 : decode cX12_expression 6 = .ok (.aload_n 0, 1) := by decide +kernel
theorem dX12_expression_7 : decode cX12_expression 7 = .ok (.getfield 389, 3) := by decide +kernel
theorem dX12_expression_10 : decode cX12_expression 10 = .ok (.ifCond .ne 38, 3) := by decide +kernel
theorem dX12_expression_13 : decode cX12_expression 13 = .ok (.aload_n 0, 1) := by decide +kernel
theorem dX12_expression_14 : decode cX12_expression 14 = .ok (.bipush 32, 2) := by decide +kernel
theorem dX12_expression_16 : decode cX12_expression 16 = .ok (.invokevirtual 398, 3) := by decide +kernel
theorem dX12_expression_19 : decode cX12_expression 19 = .ok (.ifCond .eq 29, 3) := by decide +kernel
theorem dX12_expression_22 : decode cX12_expression 22 = .ok (.aload_n 0, 1) := by decide +kernel
theorem dX12_expression_23 : decode cX12_expression 23 = .ok (.dup, 1) := by decide +kernel
theorem dX12_expression_24 : decode cX12_expression 24 = .ok (.getfield 392, 3) := by decide +kernel
theorem dX12_expression_27 : decode cX12_expression 27 = .ok (.iconst 1, 1) := by decide +kernel
theorem dX12_expression_28 : decode cX12_expression 28 = .ok (.iadd, 1) := by decide +kernel
theorem dX12_expression_29 : decode cX12_expression 29 = .ok (.putfield 392, 3) := by decide +kernel
theorem dX12_expression_32 : decode cX12_expression 32 = .ok (.aload_n 0, 1) := by decide +kernel
theorem dX12_expression_33 : decode cX12_expression 33 = .ok (.iconst 3, 1) := by decide +kernel
theorem dX12_expression_34 : decode cX12_expression 34 = .ok (.iload_n 2, 1) := by decide +kernel
theorem dX12_expression_35 : decode cX12_expression 35 = .ok (.aload_n 0, 1) := by decide +kernel
theorem dX12_expression_36 : decode cX12_expression 36 = .ok (.iload_n 1, 1) := by decide +kernel
theorem dX12_expression_37 : decode cX12_expression 37 = .ok (.invokevirtual 442, 3) := by decide +kernel
theorem dX12_expression_40 : decode cX12_expression 40 = .ok (.iconst 0, 1) := by decide +kernel
theorem dX12_expression_41 : decode cX12_expression 41 = .ok (.invokevirtual 446, 3) := by decide +kernel
theorem dX12_expression_44 : decode cX12_expression 44 = .ok (.istore_n 2, 1) := by decide +kernel
theorem dX12_expression_45 : decode cX12_expression 45 = .ok (.goto (-39), 3) := by decide +kernel
theorem dX12_expression_48 : decode cX12_expression 48 = .ok (.iload_n 2, 1) := by decide +kernel
theorem dX12_expression_49 : decode cX12_expression 49 = .ok (.ireturn, 1) := by decide +kernel
theorem dX12_opened_0 : decode cX12_opened 0 = .ok (.aload_n 0, 1) := by decide +kernel
theorem dX12_opened_1 : decode cX12_opened 1 = .ok (.aload_n 0, 1) := by decide +kernel
theorem dX12_opened_2 : decode cX12_opened 2 = .ok (.invokevirtual 439, 3) := by decide +kernel
theorem dX12_opened_5 : decode cX12_opened 5 = .ok (.invokevirtual 450, 3) := by decide +kernel
theorem dX12_opened_8 : decode cX12_opened 8 = .ok (.aload_n 0, 1) := by decide +kernel
theorem dX12_opened_9 : decode cX12_opened 9 = .ok (.iload_n 1, 1) := by decide +kernel
theorem dX12_opened_10 : decode cX12_opened 10 = .ok (.invokevirtual 442, 3) := by decide +kernel
theorem dX12_opened_13 : decode cX12_opened 13 = .ok (.istore_n 2, 1) := by decide +kernel
theorem dX12_opened_14 : decode cX12_opened 14 = .ok (.aload_n 0, 1) := by decide +kernel
theorem dX12_opened_15 : decode cX12_opened 15 = .ok (.invokevirtual 454, 3) := by decide +kernel
theorem dX12_opened_18 : decode cX12_opened 18 = .ok (.iload_n 2, 1) := by decide +kernel
theorem dX12_opened_19 : decode cX12_opened 19 = .ok (.ireturn, 1) := by decide +kernel
theorem dX12_assigned_0 : decode cX12_assigned 0 = .ok (.aload_n 0, 1) := by decide +kernel
theorem dX12_assigned_1 : decode cX12_assigned 1 = .ok (.iload_n 1, 1) := by decide +kernel
theorem dX12_assigned_2 : decode cX12_assigned 2 = .ok (.invokevirtual 457, 3) := by decide +kernel
theorem dX12_assigned_5 : decode cX12_assigned 5 = .ok (.istore_n 2, 1) := by decide +kernel
theorem dX12_assigned_6 : decode cX12_assigned 6 = .ok (.aload_n 0, 1) := by decide +kernel
theorem dX12_assigned_7 : decode cX12_assigned 7 = .ok (.getfield 389, 3) := by decide +kernel
theorem dX12_assigned_10 : decode cX12_assigned 10 = .ok (.ifCond .le 5, 3) := by decide +kernel
theorem dX12_assigned_13 : decode cX12_assigned 13 = .ok (.iconst (-1), 1) := by decide +kernel
theorem dX12_assigned_14 : decode cX12_assigned 14 = .ok (.ireturn, 1) := by decide +kernel
theorem dX12_assigned_15 : decode cX12_assigned 15 = .ok (.aload_n 0, 1) := by decide +kernel
theorem dX12_assigned_16 : decode cX12_assigned 16 = .ok (.invokevirtual 460, 3) := by decide +kernel
theorem dX12_assigned_19 : decode cX12_assigned 19 = .ok (.istore_n 3, 1) := by decide +kernel
theorem dX12_assigned_20 : decode cX12_assigned 20 = .ok (.iload_n 3, 1) := by decide +kernel
theorem dX12_assigned_21 : decode cX12_assigned 21 = .ok (.iconst (-1), 1) := by decide +kernel
theorem dX12_assigned_22 : decode cX12_assigned 22 = .ok (.if_icmp .ne 5, 3) := by decide +kernel
theorem dX12_assigned_25 : decode cX12_assigned 25 = .ok (.iload_n 2, 1) := by decide +kernel
theorem dX12_assigned_26 : decode cX12_assigned 26 = .ok (.ireturn, 1) := by decide +kernel
theorem dX12_assigned_27 : decode cX12_assigned 27 = .ok (.aload_n 0, 1) := by decide +kernel
theorem dX12_assigned_28 : decode cX12_assigned 28 = .ok (.iload_n 2, 1) := by decide +kernel
theorem dX12_assigned_29 : decode cX12_assigned 29 = .ok (.invokevirtual 463, 3) := by decide +kernel
theorem dX12_assigned_32 : decode cX12_assigned 32 = .ok (.ifCond .ne 11, 3) := by decide +kernel
theorem dX12_assigned_35 : decode cX12_assigned 35 = .ok (.aload_n 0, 1) := by decide +kernel
theorem dX12_assigned_36 : decode cX12_assigned 36 = .ok (.iconst 3, 1) := by decide +kernel
theorem dX12_assigned_37 : decode cX12_assigned 37 = .ok (.invokevirtual 401, 3) := by decide +kernel
theorem dX12_assigned_40 : decode cX12_assigned 40 = .ok (.pop, 1) := by decide +kernel
theorem dX12_assigned_41 : decode cX12_assigned 41 = .ok (.iconst (-1), 1) := by decide +kernel
theorem dX12_assigned_42 : decode cX12_assigned 42 = .ok (.ireturn, 1) := by decide +kernel
theorem dX12_assigned_43 : decode cX12_assigned 43 = .ok (.aload_n 0, 1) := by decide +kernel
theorem dX12_assigned_44 : decode cX12_assigned 44 = .ok (.dup, 1) := by decide +kernel
theorem dX12_assigned_45 : decode cX12_assigned 45 = .ok (.getfield 392, 3) := by decide +kernel
theorem dX12_assigned_48 : decode cX12_assigned 48 = .ok (.iconst 1, 1) := by decide +kernel
theorem dX12_assigned_49 : decode cX12_assigned 49 = .ok (.iadd, 1) := by decide +kernel
theorem dX12_assigned_50 : decode cX12_assigned 50 = .ok (.putfield 392, 3) := by decide +kernel
theorem dX12_assigned_53 : decode cX12_assigned 53 = .ok (.aload_n 0, 1) := by decide +kernel
theorem dX12_assigned_54 : decode cX12_assigned 54 = .ok (.bipush 15, 2) := by decide +kernel
theorem dX12_assigned_56 : decode cX12_assigned 56 = .ok (.iload_n 3, 1) := by decide +kernel
theorem dX12_assigned_57 : decode cX12_assigned 57 = .ok (.bipush 99, 2) := by decide +kernel
theorem dX12_assigned_59 : decode cX12_assigned 59 = .ok (.if_icmp .ne 7, 3) := by decide +kernel
theorem dX12_assigned_62 : decode cX12_assigned 62 = .ok (.iconst (-1), 1) := by decide +kernel
theorem dX12_assigned_63 : decode cX12_assigned 63 = .ok (.goto 4, 3) := by decide +kernel
theorem dX12_assigned_66 : decode cX12_assigned 66 = .ok (.iload_n 3, 1) := by decide +kernel
theorem dX12_assigned_67 : decode cX12_assigned 67 = .ok (.iload_n 2, 1) := by decide +kernel
theorem dX12_assigned_68 : decode cX12_assigned 68 = .ok (.aload_n 0, 1) := by decide +kernel
theorem dX12_assigned_69 : decode cX12_assigned 69 = .ok (.iload_n 1, 1) := by decide +kernel
theorem dX12_assigned_70 : decode cX12_assigned 70 = .ok (.invokevirtual 466, 3) := by decide +kernel
theorem dX12_assigned_73 : decode cX12_assigned 73 = .ok (.invokevirtual 446, 3) := by decide +kernel
theorem dX12_assigned_76 : decode cX12_assigned 76 = .ok (.ireturn, 1) := by decide +kernel
theorem dX12_conditional_0 : decode cX12_conditional 0 = .ok (.aload_n 0, 1) := by decide +kernel
theorem dX12_conditional_1 : decode cX12_conditional 1 = .ok (.iconst 0, 1) := by decide +kernel
theorem dX12_conditional_2 : decode cX12_conditional 2 = .ok (.iload_n 1, 1) := by decide +kernel
theorem dX12_conditional_3 : decode cX12_conditional 3 = .ok (.invokevirtual 469, 3) := by decide +kernel
theorem dX12_conditional_6 : decode cX12_conditional 6 = .ok (.istore_n 2, 1) := by decide +kernel
theorem dX12_conditional_7 : decode cX12_conditional 7 = .ok (.aload_n 0, 1) := by decide +kernel
theorem dX12_conditional_8 : decode cX12_conditional 8 = .ok (.getfield 389, 3) := by decide +kernel
theorem dX12_conditional_11 : decode cX12_conditional 11 = .ok (.ifCond .gt 12, 3) := by decide +kernel
theorem dX12_conditional_14 : decode cX12_conditional 14 = .ok (.aload_n 0, 1) := by decide +kernel
theorem dX12_conditional_15 : decode cX12_conditional 15 = .ok (.bipush 45, 2) := by decide +kernel
theorem dX12_conditional_17 : decode cX12_conditional 17 = .ok (.invokevirtual 398, 3) := by decide +kernel
theorem dX12_conditional_20 : decode cX12_conditional 20 = .ok (.ifCond .ne 5, 3) := by decide +kernel
theorem dX12_conditional_23 : decode cX12_conditional 23 = .ok (.iload_n 2, 1) := by decide +kernel
theorem dX12_conditional_24 : decode cX12_conditional 24 = .ok (.ireturn, 1) := by decide +kernel
theorem dX12_conditional_25 : decode cX12_conditional 25 = .ok (.aload_n 0, 1) := by decide +kernel
theorem dX12_conditional_26 : decode cX12_conditional 26 = .ok (.dup, 1) := by decide +kernel
theorem dX12_conditional_27 : decode cX12_conditional 27 = .ok (.getfield 392, 3) := by decide +kernel
theorem dX12_conditional_30 : decode cX12_conditional 30 = .ok (.iconst 1, 1) := by decide +kernel
theorem dX12_conditional_31 : decode cX12_conditional 31 = .ok (.iadd, 1) := by decide +kernel
theorem dX12_conditional_32 : decode cX12_conditional 32 = .ok (.putfield 392, 3) := by decide +kernel
theorem dX12_conditional_35 : decode cX12_conditional 35 = .ok (.aload_n 0, 1) := by decide +kernel
theorem dX12_conditional_36 : decode cX12_conditional 36 = .ok (.iload_n 1, 1) := by decide +kernel
theorem dX12_conditional_37 : decode cX12_conditional 37 = .ok (.invokevirtual 466, 3) := by decide +kernel
theorem dX12_conditional_40 : decode cX12_conditional 40 = .ok (.istore_n 3, 1) := by decide +kernel
theorem dX12_conditional_41 : decode cX12_conditional 41 = .ok (.aload_n 0, 1) := by decide +kernel
theorem dX12_conditional_42 : decode cX12_conditional 42 = .ok (.bipush 46, 2) := by decide +kernel
theorem dX12_conditional_44 : decode cX12_conditional 44 = .ok (.invokevirtual 473, 3) := by decide +kernel
theorem dX12_conditional_47 : decode cX12_conditional 47 = .ok (.ifCond .ne 5, 3) := by decide +kernel
theorem dX12_conditional_50 : decode cX12_conditional 50 = .ok (.iconst (-1), 1) := by decide +kernel
theorem dX12_conditional_51 : decode cX12_conditional 51 = .ok (.ireturn, 1) := by decide +kernel
theorem dX12_conditional_52 : decode cX12_conditional 52 = .ok (.aload_n 0, 1) := by decide +kernel
theorem dX12_conditional_53 : decode cX12_conditional 53 = .ok (.bipush 14, 2) := by decide +kernel
theorem dX12_conditional_55 : decode cX12_conditional 55 = .ok (.iload_n 2, 1) := by decide +kernel
theorem dX12_conditional_56 : decode cX12_conditional 56 = .ok (.iload_n 3, 1) := by decide +kernel
theorem dX12_conditional_57 : decode cX12_conditional 57 = .ok (.aload_n 0, 1) := by decide +kernel
theorem dX12_conditional_58 : decode cX12_conditional 58 = .ok (.iload_n 1, 1) := by decide +kernel
theorem dX12_conditional_59 : decode cX12_conditional 59 = .ok (.invokevirtual 466, 3) := by decide +kernel
theorem dX12_conditional_62 : decode cX12_conditional 62 = .ok (.invokevirtual 446, 3) := by decide +kernel
theorem dX12_conditional_65 : decode cX12_conditional 65 = .ok (.ireturn, 1) := by decide +kernel
def q_expression (p1 : Int) (S : sv_S) : Option Value → sv_S → Prop := fun v S' => ∃ r : Int, v = some (sv_I r) ∧ sv_R r ∧ sm_ok S' ∧ sv_mod [1020, 1021, 1022, 1023, 5, 1011, 3, 4, 1007, 1009, 11, 12, 13, 14, 1024, 15, 16, 1031, 1032, 17, 18, 19, 20, 21, 22, 23, 24, 25, 1042, 1043, 1044, 1045, 1100001, 1100002, 1100005, 1100003, 1100004, 1100018] S S' ∧ ((S 1020 0) ≤ (S' 1020 0) ∧ (S' 1020 0) < (S' 1012 0) ∧ 0 ≤ (S' 1021 0) ∧ (0 < (S 1021 0) → 0 < (S' 1021 0)) ∧ (S 1007 0) ≤ (S' 1007 0) ∧ (S' 1007 0) ≤ 90 ∧ sm_LN (S' 4) (S' 1007 0) ∧ ((S 1009 0) = 1 → (S' 1009 0) = 1) ∧ ((S' 1021 0) = 0 → sm_WF (S' 11) (S' 12) (S' 13) (S' 1100001) (S' 1100002) (S' 1100005) (S' 1100003) (S' 1100004) (S' 1024 0) (S' 1007 0) (S' 1009 0) (S' 1032 0) ∧ sm_PX (S 11) (S 12) (S 13) (S 1100001) (S 1100002) (S 1100005) (S 1100003) (S 1100004) (S' 11) (S' 12) (S' 13) (S' 1100001) (S' 1100002) (S' 1100005) (S' 1100003) (S' 1100004) (S 1024 0)) ∧ sm_KL (S 15) (S 16) (S' 15) (S' 16) (S 1031 0) ∧ sm_HD (S' 23) (S' 24) (S' 1100018 0) (S' 1007 0) ∧ sm_HD (S' 25) (fun _ : Int => (S' 1042 0)) 1 (S' 1007 0) ∧ (S' 1031 0) = (S 1031 0) ∧ (S' 1043 0) = (S 1043 0) ∧ (S' 1044 0) = (S 1044 0) ∧ (S' 1045 0) = (S 1045 0) ∧ (S 1032 0) ≤ (S' 1032 0) ∧ (S' 1032 0) ≤ 1 + (S' 1020 0) ∧ (S' 1100018 0) = (S' 1032 0) ∧ (S 1024 0) ≤ (S' 1024 0) ∧ ((S' 1021 0) = 0 → (S' 1023 0) = (S 1023 0) ∧ (S' 1024 0) + 1 ≤ (S 1024 0) + 2 * ((S' 1020 0) - (S 1020 0))) ∧ (0 < (S' 1021 0) → (S' 1024 0) ≤ (S 1024 0) + 2 * ((S' 1020 0) - (S 1020 0)) + 2 * (30 * (20 - (S 1023 0)) + 26)) ∧ -1 ≤ r ∧ r < 12000 ∧ ((S' 1021 0) = 0 → (S 1020 0) < (S' 1020 0) ∧ 1 ≤ (S 6 (S 1020 0)) ∧ sm_ex (S' 1100001) (S' 1100002) (S' 1100005) (S' 1024 0) 1 r (17 * (20 - (S 1023 0)) + 17) (20 - (S 1023 0)) ∧ ((S' 11 r) = 2 ∨ (S' 11 r) = 7 → (S' 1100002 r) ≤ 17 * (20 - (S 1023 0)) + 2)))
def T_expression (d : Int) : Prop := ∀ (p1 : Int) (S : sv_S), sm_ok S → (0 ≤ p1 ∧ p1 ≤ 1) → (0 ≤ (S 1020 0) ∧ (S 1020 0) < (S 1012 0) ∧ sm_TK (S 6) (S 8) (S 9) (S 10) (S 1012 0) ∧ 0 ≤ (S 1021 0) ∧ 0 ≤ (S 1004 0) ∧ (S 1004 0) ≤ 4000 ∧ 0 ≤ (S 1007 0) ∧ (S 1007 0) ≤ 90 ∧ sm_LN (S 4) (S 1007 0) ∧ ((S 1021 0) = 0 → sm_WF (S 11) (S 12) (S 13) (S 1100001) (S 1100002) (S 1100005) (S 1100003) (S 1100004) (S 1024 0) (S 1007 0) (S 1009 0) (S 1032 0)) ∧ sm_HD (S 23) (S 24) (S 1100018 0) (S 1007 0) ∧ sm_HD (S 25) (fun _ : Int => (S 1042 0)) 1 (S 1007 0) ∧ 0 ≤ (S 1043 0) ∧ (S 1043 0) < (S 1100018 0) ∧ (S 1100018 0) = (S 1032 0) ∧ (S 1032 0) ≤ 1 + (S 1020 0) ∧ 0 ≤ (S 1031 0) ∧ (S 1031 0) ≤ 100 ∧ 0 ≤ (S 1044 0) ∧ (S 1044 0) ≤ 30 ∧ 0 ≤ (S 1045 0) ∧ (S 1045 0) ≤ 30 ∧ 0 ≤ (S 1024 0) ∧ ((S 1021 0) = 0 → 0 ≤ (S 1023 0) ∧ (S 1023 0) ≤ 20 ∧ (S 1031 0) ≤ 3 * (S 1023 0) + 5 ∧ (S 1024 0) ≤ 2 * (S 1020 0) ∧ (S 1044 0) ≤ (S 1023 0) ∧ (S 1045 0) ≤ (S 1023 0)) ∧ (S 1021 0) = 0) → (30 * (20 - (S 1023 0)) + 26) = d → sv_T sm_XS sm_cs sm_L sm_sh (30 * (20 - (S 1023 0)) + 26).toNat (q_expression p1 S) 43 0 (lv_args 0 [.ref 0, sv_I p1]) [] S
def q_opened (p1 : Int) (S : sv_S) : Option Value → sv_S → Prop := fun v S' => ∃ r : Int, v = some (sv_I r) ∧ sv_R r ∧ sm_ok S' ∧ sv_mod [1020, 1021, 1022, 1023, 5, 1011, 3, 4, 1007, 1009, 11, 12, 13, 14, 1024, 15, 16, 1031, 1032, 17, 18, 19, 20, 21, 22, 23, 24, 25, 1042, 1043, 1044, 1045, 1100001, 1100002, 1100005, 1100003, 1100004, 1100018] S S' ∧ ((S 1020 0) ≤ (S' 1020 0) ∧ (S' 1020 0) < (S' 1012 0) ∧ 0 ≤ (S' 1021 0) ∧ (0 < (S 1021 0) → 0 < (S' 1021 0)) ∧ (S 1007 0) ≤ (S' 1007 0) ∧ (S' 1007 0) ≤ 90 ∧ sm_LN (S' 4) (S' 1007 0) ∧ ((S 1009 0) = 1 → (S' 1009 0) = 1) ∧ ((S' 1021 0) = 0 → sm_WF (S' 11) (S' 12) (S' 13) (S' 1100001) (S' 1100002) (S' 1100005) (S' 1100003) (S' 1100004) (S' 1024 0) (S' 1007 0) (S' 1009 0) (S' 1032 0) ∧ sm_PX (S 11) (S 12) (S 13) (S 1100001) (S 1100002) (S 1100005) (S 1100003) (S 1100004) (S' 11) (S' 12) (S' 13) (S' 1100001) (S' 1100002) (S' 1100005) (S' 1100003) (S' 1100004) (S 1024 0)) ∧ sm_KL (S 15) (S 16) (S' 15) (S' 16) (S 1031 0) ∧ sm_HD (S' 23) (S' 24) (S' 1100018 0) (S' 1007 0) ∧ sm_HD (S' 25) (fun _ : Int => (S' 1042 0)) 1 (S' 1007 0) ∧ (S' 1031 0) = (S 1031 0) ∧ (S' 1043 0) = (S 1043 0) ∧ (S' 1044 0) = (S 1044 0) ∧ (S' 1045 0) = (S 1045 0) ∧ (S 1032 0) ≤ (S' 1032 0) ∧ (S' 1032 0) ≤ 1 + (S' 1020 0) ∧ (S' 1100018 0) = (S' 1032 0) ∧ (S 1024 0) ≤ (S' 1024 0) ∧ ((S' 1021 0) = 0 → (S' 1023 0) = (S 1023 0) ∧ (S' 1024 0) + 1 ≤ (S 1024 0) + 2 * ((S' 1020 0) - (S 1020 0))) ∧ (0 < (S' 1021 0) → (S' 1024 0) ≤ (S 1024 0) + 2 * ((S' 1020 0) - (S 1020 0)) + 2 * (30 * (20 - (S 1023 0)) + 14)) ∧ -1 ≤ r ∧ r < 12000 ∧ ((S' 1021 0) = 0 → sm_ex (S' 1100001) (S' 1100002) (S' 1100005) (S' 1024 0) 1 r (17 * (20 - (S 1023 0))) (19 - (S 1023 0)) ∧ (S 1020 0) < (S' 1020 0)))
def T_opened (d : Int) : Prop := ∀ (p1 : Int) (S : sv_S), sm_ok S → (0 ≤ p1 ∧ p1 ≤ 1) → (0 ≤ (S 1020 0) ∧ (S 1020 0) < (S 1012 0) ∧ sm_TK (S 6) (S 8) (S 9) (S 10) (S 1012 0) ∧ 0 ≤ (S 1021 0) ∧ 0 ≤ (S 1004 0) ∧ (S 1004 0) ≤ 4000 ∧ 0 ≤ (S 1007 0) ∧ (S 1007 0) ≤ 90 ∧ sm_LN (S 4) (S 1007 0) ∧ ((S 1021 0) = 0 → sm_WF (S 11) (S 12) (S 13) (S 1100001) (S 1100002) (S 1100005) (S 1100003) (S 1100004) (S 1024 0) (S 1007 0) (S 1009 0) (S 1032 0)) ∧ sm_HD (S 23) (S 24) (S 1100018 0) (S 1007 0) ∧ sm_HD (S 25) (fun _ : Int => (S 1042 0)) 1 (S 1007 0) ∧ 0 ≤ (S 1043 0) ∧ (S 1043 0) < (S 1100018 0) ∧ (S 1100018 0) = (S 1032 0) ∧ (S 1032 0) ≤ 1 + (S 1020 0) ∧ 0 ≤ (S 1031 0) ∧ (S 1031 0) ≤ 100 ∧ 0 ≤ (S 1044 0) ∧ (S 1044 0) ≤ 30 ∧ 0 ≤ (S 1045 0) ∧ (S 1045 0) ≤ 30 ∧ 0 ≤ (S 1024 0) ∧ ((S 1021 0) = 0 → 0 ≤ (S 1023 0) ∧ (S 1023 0) ≤ 20 ∧ (S 1031 0) ≤ 3 * (S 1023 0) + 5 ∧ (S 1024 0) ≤ 2 * (S 1020 0) ∧ (S 1044 0) ≤ (S 1023 0) ∧ (S 1045 0) ≤ (S 1023 0)) ∧ (S 1021 0) = 0) → (30 * (20 - (S 1023 0)) + 14) = d → sv_T sm_XS sm_cs sm_L sm_sh (30 * (20 - (S 1023 0)) + 14).toNat (q_opened p1 S) 46 0 (lv_args 0 [.ref 0, sv_I p1]) [] S
def q_assigned (p1 : Int) (S : sv_S) : Option Value → sv_S → Prop := fun v S' => ∃ r : Int, v = some (sv_I r) ∧ sv_R r ∧ sm_ok S' ∧ sv_mod [1020, 1021, 1022, 1023, 5, 1011, 3, 4, 1007, 1009, 11, 12, 13, 14, 1024, 15, 16, 1031, 1032, 17, 18, 19, 20, 21, 22, 23, 24, 25, 1042, 1043, 1044, 1045, 1100001, 1100002, 1100005, 1100003, 1100004, 1100018] S S' ∧ ((S 1020 0) ≤ (S' 1020 0) ∧ (S' 1020 0) < (S' 1012 0) ∧ 0 ≤ (S' 1021 0) ∧ (0 < (S 1021 0) → 0 < (S' 1021 0)) ∧ (S 1007 0) ≤ (S' 1007 0) ∧ (S' 1007 0) ≤ 90 ∧ sm_LN (S' 4) (S' 1007 0) ∧ ((S 1009 0) = 1 → (S' 1009 0) = 1) ∧ ((S' 1021 0) = 0 → sm_WF (S' 11) (S' 12) (S' 13) (S' 1100001) (S' 1100002) (S' 1100005) (S' 1100003) (S' 1100004) (S' 1024 0) (S' 1007 0) (S' 1009 0) (S' 1032 0) ∧ sm_PX (S 11) (S 12) (S 13) (S 1100001) (S 1100002) (S 1100005) (S 1100003) (S 1100004) (S' 11) (S' 12) (S' 13) (S' 1100001) (S' 1100002) (S' 1100005) (S' 1100003) (S' 1100004) (S 1024 0)) ∧ sm_KL (S 15) (S 16) (S' 15) (S' 16) (S 1031 0) ∧ sm_HD (S' 23) (S' 24) (S' 1100018 0) (S' 1007 0) ∧ sm_HD (S' 25) (fun _ : Int => (S' 1042 0)) 1 (S' 1007 0) ∧ (S' 1031 0) = (S 1031 0) ∧ (S' 1043 0) = (S 1043 0) ∧ (S' 1044 0) = (S 1044 0) ∧ (S' 1045 0) = (S 1045 0) ∧ (S 1032 0) ≤ (S' 1032 0) ∧ (S' 1032 0) ≤ 1 + (S' 1020 0) ∧ (S' 1100018 0) = (S' 1032 0) ∧ (S 1024 0) ≤ (S' 1024 0) ∧ ((S' 1021 0) = 0 → (S' 1023 0) = (S 1023 0) ∧ (S' 1024 0) + 1 ≤ (S 1024 0) + 2 * ((S' 1020 0) - (S 1020 0))) ∧ (0 < (S' 1021 0) → (S' 1024 0) ≤ (S 1024 0) + 2 * ((S' 1020 0) - (S 1020 0)) + 2 * ((if 0 < (S 1021 0) then 12 else 30 * (20 - (S 1023 0)) + 25))) ∧ -1 ≤ r ∧ r < 12000 ∧ ((S' 1021 0) = 0 → (S 1020 0) < (S' 1020 0) ∧ 1 ≤ (S 6 (S 1020 0)) ∧ sm_ex (S' 1100001) (S' 1100002) (S' 1100005) (S' 1024 0) 1 r (17 * (20 - (S 1023 0)) + 17) (20 - (S 1023 0)) ∧ ((S' 11 r) = 2 ∨ (S' 11 r) = 7 → (S' 1100002 r) ≤ 17 * (20 - (S 1023 0)) + 2)) ∧ (0 < (S 1021 0) → (S' 1020 0) = (S 1020 0) ∧ (S' 1024 0) = (S 1024 0)))
def T_assigned (d : Int) : Prop := ∀ (p1 : Int) (S : sv_S), sm_ok S → (0 ≤ p1 ∧ p1 ≤ 1) → (0 ≤ (S 1020 0) ∧ (S 1020 0) < (S 1012 0) ∧ sm_TK (S 6) (S 8) (S 9) (S 10) (S 1012 0) ∧ 0 ≤ (S 1021 0) ∧ 0 ≤ (S 1004 0) ∧ (S 1004 0) ≤ 4000 ∧ 0 ≤ (S 1007 0) ∧ (S 1007 0) ≤ 90 ∧ sm_LN (S 4) (S 1007 0) ∧ ((S 1021 0) = 0 → sm_WF (S 11) (S 12) (S 13) (S 1100001) (S 1100002) (S 1100005) (S 1100003) (S 1100004) (S 1024 0) (S 1007 0) (S 1009 0) (S 1032 0)) ∧ sm_HD (S 23) (S 24) (S 1100018 0) (S 1007 0) ∧ sm_HD (S 25) (fun _ : Int => (S 1042 0)) 1 (S 1007 0) ∧ 0 ≤ (S 1043 0) ∧ (S 1043 0) < (S 1100018 0) ∧ (S 1100018 0) = (S 1032 0) ∧ (S 1032 0) ≤ 1 + (S 1020 0) ∧ 0 ≤ (S 1031 0) ∧ (S 1031 0) ≤ 100 ∧ 0 ≤ (S 1044 0) ∧ (S 1044 0) ≤ 30 ∧ 0 ≤ (S 1045 0) ∧ (S 1045 0) ≤ 30 ∧ 0 ≤ (S 1024 0) ∧ ((S 1021 0) = 0 → 0 ≤ (S 1023 0) ∧ (S 1023 0) ≤ 20 ∧ (S 1031 0) ≤ 3 * (S 1023 0) + 5 ∧ (S 1024 0) ≤ 2 * (S 1020 0) ∧ (S 1044 0) ≤ (S 1023 0) ∧ (S 1045 0) ≤ (S 1023 0))) → ((if 0 < (S 1021 0) then 12 else 30 * (20 - (S 1023 0)) + 25)) = d → sv_T sm_XS sm_cs sm_L sm_sh ((if 0 < (S 1021 0) then 12 else 30 * (20 - (S 1023 0)) + 25)).toNat (q_assigned p1 S) 47 0 (lv_args 0 [.ref 0, sv_I p1]) [] S
def q_conditional (p1 : Int) (S : sv_S) : Option Value → sv_S → Prop := fun v S' => ∃ r : Int, v = some (sv_I r) ∧ sv_R r ∧ sm_ok S' ∧ sv_mod [1020, 1021, 1022, 1023, 5, 1011, 3, 4, 1007, 1009, 11, 12, 13, 14, 1024, 15, 16, 1031, 1032, 17, 18, 19, 20, 21, 22, 23, 24, 25, 1042, 1043, 1044, 1045, 1100001, 1100002, 1100005, 1100003, 1100004, 1100018] S S' ∧ ((S 1020 0) ≤ (S' 1020 0) ∧ (S' 1020 0) < (S' 1012 0) ∧ 0 ≤ (S' 1021 0) ∧ (0 < (S 1021 0) → 0 < (S' 1021 0)) ∧ (S 1007 0) ≤ (S' 1007 0) ∧ (S' 1007 0) ≤ 90 ∧ sm_LN (S' 4) (S' 1007 0) ∧ ((S 1009 0) = 1 → (S' 1009 0) = 1) ∧ ((S' 1021 0) = 0 → sm_WF (S' 11) (S' 12) (S' 13) (S' 1100001) (S' 1100002) (S' 1100005) (S' 1100003) (S' 1100004) (S' 1024 0) (S' 1007 0) (S' 1009 0) (S' 1032 0) ∧ sm_PX (S 11) (S 12) (S 13) (S 1100001) (S 1100002) (S 1100005) (S 1100003) (S 1100004) (S' 11) (S' 12) (S' 13) (S' 1100001) (S' 1100002) (S' 1100005) (S' 1100003) (S' 1100004) (S 1024 0)) ∧ sm_KL (S 15) (S 16) (S' 15) (S' 16) (S 1031 0) ∧ sm_HD (S' 23) (S' 24) (S' 1100018 0) (S' 1007 0) ∧ sm_HD (S' 25) (fun _ : Int => (S' 1042 0)) 1 (S' 1007 0) ∧ (S' 1031 0) = (S 1031 0) ∧ (S' 1043 0) = (S 1043 0) ∧ (S' 1044 0) = (S 1044 0) ∧ (S' 1045 0) = (S 1045 0) ∧ (S 1032 0) ≤ (S' 1032 0) ∧ (S' 1032 0) ≤ 1 + (S' 1020 0) ∧ (S' 1100018 0) = (S' 1032 0) ∧ (S 1024 0) ≤ (S' 1024 0) ∧ ((S' 1021 0) = 0 → (S' 1023 0) = (S 1023 0) ∧ (S' 1024 0) + 1 ≤ (S 1024 0) + 2 * ((S' 1020 0) - (S 1020 0))) ∧ (0 < (S' 1021 0) → (S' 1024 0) ≤ (S 1024 0) + 2 * ((S' 1020 0) - (S 1020 0)) + 2 * ((if 0 < (S 1021 0) then 11 else 30 * (20 - (S 1023 0)) + 24))) ∧ -1 ≤ r ∧ r < 12000 ∧ ((S' 1021 0) = 0 → (S 1020 0) < (S' 1020 0) ∧ 1 ≤ (S 6 (S 1020 0)) ∧ sm_ex (S' 1100001) (S' 1100002) (S' 1100005) (S' 1024 0) 1 r (17 * (20 - (S 1023 0)) + 17) (20 - (S 1023 0)) ∧ ((S' 11 r) = 2 ∨ (S' 11 r) = 7 → (S' 1100002 r) ≤ 17 * (20 - (S 1023 0)) + 2)) ∧ (0 < (S 1021 0) → (S' 1020 0) = (S 1020 0) ∧ (S' 1024 0) = (S 1024 0)))
def T_conditional (d : Int) : Prop := ∀ (p1 : Int) (S : sv_S), sm_ok S → (0 ≤ p1 ∧ p1 ≤ 1) → (0 ≤ (S 1020 0) ∧ (S 1020 0) < (S 1012 0) ∧ sm_TK (S 6) (S 8) (S 9) (S 10) (S 1012 0) ∧ 0 ≤ (S 1021 0) ∧ 0 ≤ (S 1004 0) ∧ (S 1004 0) ≤ 4000 ∧ 0 ≤ (S 1007 0) ∧ (S 1007 0) ≤ 90 ∧ sm_LN (S 4) (S 1007 0) ∧ ((S 1021 0) = 0 → sm_WF (S 11) (S 12) (S 13) (S 1100001) (S 1100002) (S 1100005) (S 1100003) (S 1100004) (S 1024 0) (S 1007 0) (S 1009 0) (S 1032 0)) ∧ sm_HD (S 23) (S 24) (S 1100018 0) (S 1007 0) ∧ sm_HD (S 25) (fun _ : Int => (S 1042 0)) 1 (S 1007 0) ∧ 0 ≤ (S 1043 0) ∧ (S 1043 0) < (S 1100018 0) ∧ (S 1100018 0) = (S 1032 0) ∧ (S 1032 0) ≤ 1 + (S 1020 0) ∧ 0 ≤ (S 1031 0) ∧ (S 1031 0) ≤ 100 ∧ 0 ≤ (S 1044 0) ∧ (S 1044 0) ≤ 30 ∧ 0 ≤ (S 1045 0) ∧ (S 1045 0) ≤ 30 ∧ 0 ≤ (S 1024 0) ∧ ((S 1021 0) = 0 → 0 ≤ (S 1023 0) ∧ (S 1023 0) ≤ 20 ∧ (S 1031 0) ≤ 3 * (S 1023 0) + 5 ∧ (S 1024 0) ≤ 2 * (S 1020 0) ∧ (S 1044 0) ≤ (S 1023 0) ∧ (S 1045 0) ≤ (S 1023 0))) → ((if 0 < (S 1021 0) then 11 else 30 * (20 - (S 1023 0)) + 24)) = d → sv_T sm_XS sm_cs sm_L sm_sh ((if 0 < (S 1021 0) then 11 else 30 * (20 - (S 1023 0)) + 24)).toNat (q_conditional p1 S) 48 0 (lv_args 0 [.ref 0, sv_I p1]) [] S
def q_binary (p1 : Int) (p2 : Int) (S : sv_S) : Option Value → sv_S → Prop := fun v S' => ∃ r : Int, v = some (sv_I r) ∧ sv_R r ∧ sm_ok S' ∧ sv_mod [1020, 1021, 1022, 1023, 5, 1011, 3, 4, 1007, 1009, 11, 12, 13, 14, 1024, 15, 16, 1031, 1032, 17, 18, 19, 20, 21, 22, 23, 24, 25, 1042, 1043, 1044, 1045, 1100001, 1100002, 1100005, 1100003, 1100004, 1100018] S S' ∧ ((S 1020 0) ≤ (S' 1020 0) ∧ (S' 1020 0) < (S' 1012 0) ∧ 0 ≤ (S' 1021 0) ∧ (0 < (S 1021 0) → 0 < (S' 1021 0)) ∧ (S 1007 0) ≤ (S' 1007 0) ∧ (S' 1007 0) ≤ 90 ∧ sm_LN (S' 4) (S' 1007 0) ∧ ((S 1009 0) = 1 → (S' 1009 0) = 1) ∧ ((S' 1021 0) = 0 → sm_WF (S' 11) (S' 12) (S' 13) (S' 1100001) (S' 1100002) (S' 1100005) (S' 1100003) (S' 1100004) (S' 1024 0) (S' 1007 0) (S' 1009 0) (S' 1032 0) ∧ sm_PX (S 11) (S 12) (S 13) (S 1100001) (S 1100002) (S 1100005) (S 1100003) (S 1100004) (S' 11) (S' 12) (S' 13) (S' 1100001) (S' 1100002) (S' 1100005) (S' 1100003) (S' 1100004) (S 1024 0)) ∧ sm_KL (S 15) (S 16) (S' 15) (S' 16) (S 1031 0) ∧ sm_HD (S' 23) (S' 24) (S' 1100018 0) (S' 1007 0) ∧ sm_HD (S' 25) (fun _ : Int => (S' 1042 0)) 1 (S' 1007 0) ∧ (S' 1031 0) = (S 1031 0) ∧ (S' 1043 0) = (S 1043 0) ∧ (S' 1044 0) = (S 1044 0) ∧ (S' 1045 0) = (S 1045 0) ∧ (S 1032 0) ≤ (S' 1032 0) ∧ (S' 1032 0) ≤ 1 + (S' 1020 0) ∧ (S' 1100018 0) = (S' 1032 0) ∧ (S 1024 0) ≤ (S' 1024 0) ∧ ((S' 1021 0) = 0 → (S' 1023 0) = (S 1023 0) ∧ (S' 1024 0) + 1 ≤ (S 1024 0) + 2 * ((S' 1020 0) - (S 1020 0))) ∧ (0 < (S' 1021 0) → (S' 1024 0) ≤ (S 1024 0) + 2 * ((S' 1020 0) - (S 1020 0)) + 2 * ((if 0 < (S 1021 0) then 10 else 30 * (20 - (S 1023 0)) + (23 - p1)))) ∧ -1 ≤ r ∧ r < 12000 ∧ ((S' 1021 0) = 0 → (S 1020 0) < (S' 1020 0) ∧ 1 ≤ (S 6 (S 1020 0)) ∧ sm_ex (S' 1100001) (S' 1100002) (S' 1100005) (S' 1024 0) 1 r (17 * (20 - (S 1023 0)) + (15 - p1)) (20 - (S 1023 0)) ∧ ((S' 11 r) = 2 ∨ (S' 11 r) = 7 → (S' 1100002 r) ≤ 17 * (20 - (S 1023 0)) + 2)) ∧ (0 < (S 1021 0) → (S' 1020 0) = (S 1020 0) ∧ (S' 1024 0) = (S 1024 0)))
def T_binary (d : Int) : Prop := ∀ (p1 : Int) (p2 : Int) (S : sv_S), sm_ok S → sv_R p1 → (0 ≤ p2 ∧ p2 ≤ 1) → (0 ≤ (S 1020 0) ∧ (S 1020 0) < (S 1012 0) ∧ sm_TK (S 6) (S 8) (S 9) (S 10) (S 1012 0) ∧ 0 ≤ (S 1021 0) ∧ 0 ≤ (S 1004 0) ∧ (S 1004 0) ≤ 4000 ∧ 0 ≤ (S 1007 0) ∧ (S 1007 0) ≤ 90 ∧ sm_LN (S 4) (S 1007 0) ∧ ((S 1021 0) = 0 → sm_WF (S 11) (S 12) (S 13) (S 1100001) (S 1100002) (S 1100005) (S 1100003) (S 1100004) (S 1024 0) (S 1007 0) (S 1009 0) (S 1032 0)) ∧ sm_HD (S 23) (S 24) (S 1100018 0) (S 1007 0) ∧ sm_HD (S 25) (fun _ : Int => (S 1042 0)) 1 (S 1007 0) ∧ 0 ≤ (S 1043 0) ∧ (S 1043 0) < (S 1100018 0) ∧ (S 1100018 0) = (S 1032 0) ∧ (S 1032 0) ≤ 1 + (S 1020 0) ∧ 0 ≤ (S 1031 0) ∧ (S 1031 0) ≤ 100 ∧ 0 ≤ (S 1044 0) ∧ (S 1044 0) ≤ 30 ∧ 0 ≤ (S 1045 0) ∧ (S 1045 0) ≤ 30 ∧ 0 ≤ (S 1024 0) ∧ ((S 1021 0) = 0 → 0 ≤ (S 1023 0) ∧ (S 1023 0) ≤ 20 ∧ (S 1031 0) ≤ 3 * (S 1023 0) + 5 ∧ (S 1024 0) ≤ 2 * (S 1020 0) ∧ (S 1044 0) ≤ (S 1023 0) ∧ (S 1045 0) ≤ (S 1023 0)) ∧ 0 ≤ p1 ∧ p1 ≤ 10) → ((if 0 < (S 1021 0) then 10 else 30 * (20 - (S 1023 0)) + (23 - p1))) = d → sv_T sm_XS sm_cs sm_L sm_sh ((if 0 < (S 1021 0) then 10 else 30 * (20 - (S 1023 0)) + (23 - p1))).toNat (q_binary p1 p2 S) 51 0 (lv_args 0 [.ref 0, sv_I p1, sv_I p2]) [] S
def q_unit (S : sv_S) : Option Value → sv_S → Prop := fun v S' => ∃ r : Int, v = some (sv_I r) ∧ sv_R r ∧ sm_ok S' ∧ sv_mod [1020, 1021, 1022, 1023, 5, 1011, 3, 4, 1007, 1009, 11, 12, 13, 14, 1024, 15, 16, 1031, 1032, 17, 18, 19, 20, 21, 22, 23, 24, 25, 1042, 1043, 1044, 1045, 1100001, 1100002, 1100005, 1100003, 1100004, 1100018] S S' ∧ ((S 1020 0) ≤ (S' 1020 0) ∧ (S' 1020 0) < (S' 1012 0) ∧ 0 ≤ (S' 1021 0) ∧ (0 < (S 1021 0) → 0 < (S' 1021 0)) ∧ (S 1007 0) ≤ (S' 1007 0) ∧ (S' 1007 0) ≤ 90 ∧ sm_LN (S' 4) (S' 1007 0) ∧ ((S 1009 0) = 1 → (S' 1009 0) = 1) ∧ ((S' 1021 0) = 0 → sm_WF (S' 11) (S' 12) (S' 13) (S' 1100001) (S' 1100002) (S' 1100005) (S' 1100003) (S' 1100004) (S' 1024 0) (S' 1007 0) (S' 1009 0) (S' 1032 0) ∧ sm_PX (S 11) (S 12) (S 13) (S 1100001) (S 1100002) (S 1100005) (S 1100003) (S 1100004) (S' 11) (S' 12) (S' 13) (S' 1100001) (S' 1100002) (S' 1100005) (S' 1100003) (S' 1100004) (S 1024 0)) ∧ sm_KL (S 15) (S 16) (S' 15) (S' 16) (S 1031 0) ∧ sm_HD (S' 23) (S' 24) (S' 1100018 0) (S' 1007 0) ∧ sm_HD (S' 25) (fun _ : Int => (S' 1042 0)) 1 (S' 1007 0) ∧ (S' 1031 0) = (S 1031 0) ∧ (S' 1043 0) = (S 1043 0) ∧ (S' 1044 0) = (S 1044 0) ∧ (S' 1045 0) = (S 1045 0) ∧ (S 1032 0) ≤ (S' 1032 0) ∧ (S' 1032 0) ≤ 1 + (S' 1020 0) ∧ (S' 1100018 0) = (S' 1032 0) ∧ (S 1024 0) ≤ (S' 1024 0) ∧ ((S' 1021 0) = 0 → (S' 1023 0) = (S 1023 0) ∧ (S' 1024 0) + 1 ≤ (S 1024 0) + 2 * ((S' 1020 0) - (S 1020 0))) ∧ (0 < (S' 1021 0) → (S' 1024 0) ≤ (S 1024 0) + 2 * ((S' 1020 0) - (S 1020 0)) + 2 * ((if 0 < (S 1021 0) then 9 else 30 * (20 - (S 1023 0)) + 12))) ∧ -1 ≤ r ∧ r < 12000 ∧ ((S' 1021 0) = 0 → (S 1020 0) < (S' 1020 0) ∧ 1 ≤ (S 6 (S 1020 0)) ∧ sm_ex (S' 1100001) (S' 1100002) (S' 1100005) (S' 1024 0) 1 r (17 * (20 - (S 1023 0)) + 5) (20 - (S 1023 0)) ∧ ((S' 11 r) = 2 ∨ (S' 11 r) = 7 → (S' 1100002 r) ≤ 17 * (20 - (S 1023 0)) + 2)) ∧ (0 < (S 1021 0) → (S' 1020 0) = (S 1020 0) ∧ (S' 1024 0) = (S 1024 0)))
def T_unit (d : Int) : Prop := ∀ (S : sv_S), sm_ok S → (0 ≤ (S 1020 0) ∧ (S 1020 0) < (S 1012 0) ∧ sm_TK (S 6) (S 8) (S 9) (S 10) (S 1012 0) ∧ 0 ≤ (S 1021 0) ∧ 0 ≤ (S 1004 0) ∧ (S 1004 0) ≤ 4000 ∧ 0 ≤ (S 1007 0) ∧ (S 1007 0) ≤ 90 ∧ sm_LN (S 4) (S 1007 0) ∧ ((S 1021 0) = 0 → sm_WF (S 11) (S 12) (S 13) (S 1100001) (S 1100002) (S 1100005) (S 1100003) (S 1100004) (S 1024 0) (S 1007 0) (S 1009 0) (S 1032 0)) ∧ sm_HD (S 23) (S 24) (S 1100018 0) (S 1007 0) ∧ sm_HD (S 25) (fun _ : Int => (S 1042 0)) 1 (S 1007 0) ∧ 0 ≤ (S 1043 0) ∧ (S 1043 0) < (S 1100018 0) ∧ (S 1100018 0) = (S 1032 0) ∧ (S 1032 0) ≤ 1 + (S 1020 0) ∧ 0 ≤ (S 1031 0) ∧ (S 1031 0) ≤ 100 ∧ 0 ≤ (S 1044 0) ∧ (S 1044 0) ≤ 30 ∧ 0 ≤ (S 1045 0) ∧ (S 1045 0) ≤ 30 ∧ 0 ≤ (S 1024 0) ∧ ((S 1021 0) = 0 → 0 ≤ (S 1023 0) ∧ (S 1023 0) ≤ 20 ∧ (S 1031 0) ≤ 3 * (S 1023 0) + 5 ∧ (S 1024 0) ≤ 2 * (S 1020 0) ∧ (S 1044 0) ≤ (S 1023 0) ∧ (S 1045 0) ≤ (S 1023 0))) → ((if 0 < (S 1021 0) then 9 else 30 * (20 - (S 1023 0)) + 12)) = d → sv_T sm_XS sm_cs sm_L sm_sh ((if 0 < (S 1021 0) then 9 else 30 * (20 - (S 1023 0)) + 12)).toNat (q_unit S) 52 0 (lv_args 0 [.ref 0]) [] S
def q_postfix (S : sv_S) : Option Value → sv_S → Prop := fun v S' => ∃ r : Int, v = some (sv_I r) ∧ sv_R r ∧ sm_ok S' ∧ sv_mod [1020, 1021, 1022, 1023, 5, 1011, 3, 4, 1007, 1009, 11, 12, 13, 14, 1024, 15, 16, 1031, 1032, 17, 18, 19, 20, 21, 22, 23, 24, 25, 1042, 1043, 1044, 1045, 1100001, 1100002, 1100005, 1100003, 1100004, 1100018] S S' ∧ ((S 1020 0) ≤ (S' 1020 0) ∧ (S' 1020 0) < (S' 1012 0) ∧ 0 ≤ (S' 1021 0) ∧ (0 < (S 1021 0) → 0 < (S' 1021 0)) ∧ (S 1007 0) ≤ (S' 1007 0) ∧ (S' 1007 0) ≤ 90 ∧ sm_LN (S' 4) (S' 1007 0) ∧ ((S 1009 0) = 1 → (S' 1009 0) = 1) ∧ ((S' 1021 0) = 0 → sm_WF (S' 11) (S' 12) (S' 13) (S' 1100001) (S' 1100002) (S' 1100005) (S' 1100003) (S' 1100004) (S' 1024 0) (S' 1007 0) (S' 1009 0) (S' 1032 0) ∧ sm_PX (S 11) (S 12) (S 13) (S 1100001) (S 1100002) (S 1100005) (S 1100003) (S 1100004) (S' 11) (S' 12) (S' 13) (S' 1100001) (S' 1100002) (S' 1100005) (S' 1100003) (S' 1100004) (S 1024 0)) ∧ sm_KL (S 15) (S 16) (S' 15) (S' 16) (S 1031 0) ∧ sm_HD (S' 23) (S' 24) (S' 1100018 0) (S' 1007 0) ∧ sm_HD (S' 25) (fun _ : Int => (S' 1042 0)) 1 (S' 1007 0) ∧ (S' 1031 0) = (S 1031 0) ∧ (S' 1043 0) = (S 1043 0) ∧ (S' 1044 0) = (S 1044 0) ∧ (S' 1045 0) = (S 1045 0) ∧ (S 1032 0) ≤ (S' 1032 0) ∧ (S' 1032 0) ≤ 1 + (S' 1020 0) ∧ (S' 1100018 0) = (S' 1032 0) ∧ (S 1024 0) ≤ (S' 1024 0) ∧ ((S' 1021 0) = 0 → (S' 1023 0) = (S 1023 0) ∧ (S' 1024 0) + 1 ≤ (S 1024 0) + 2 * ((S' 1020 0) - (S 1020 0))) ∧ (0 < (S' 1021 0) → (S' 1024 0) ≤ (S 1024 0) + 2 * ((S' 1020 0) - (S 1020 0)) + 2 * (30 * (20 - (S 1023 0)) + 11)) ∧ -1 ≤ r ∧ r < 12000 ∧ ((S' 1021 0) = 0 → (S 1020 0) < (S' 1020 0) ∧ 1 ≤ (S 6 (S 1020 0)) ∧ sm_ex (S' 1100001) (S' 1100002) (S' 1100005) (S' 1024 0) 1 r (17 * (20 - (S 1023 0)) + 5) (20 - (S 1023 0)) ∧ ((S' 11 r) = 2 ∨ (S' 11 r) = 7 → (S' 1100002 r) ≤ 17 * (20 - (S 1023 0)) + 2)))
def T_postfix (d : Int) : Prop := ∀ (S : sv_S), sm_ok S → (0 ≤ (S 1020 0) ∧ (S 1020 0) < (S 1012 0) ∧ sm_TK (S 6) (S 8) (S 9) (S 10) (S 1012 0) ∧ 0 ≤ (S 1021 0) ∧ 0 ≤ (S 1004 0) ∧ (S 1004 0) ≤ 4000 ∧ 0 ≤ (S 1007 0) ∧ (S 1007 0) ≤ 90 ∧ sm_LN (S 4) (S 1007 0) ∧ ((S 1021 0) = 0 → sm_WF (S 11) (S 12) (S 13) (S 1100001) (S 1100002) (S 1100005) (S 1100003) (S 1100004) (S 1024 0) (S 1007 0) (S 1009 0) (S 1032 0)) ∧ sm_HD (S 23) (S 24) (S 1100018 0) (S 1007 0) ∧ sm_HD (S 25) (fun _ : Int => (S 1042 0)) 1 (S 1007 0) ∧ 0 ≤ (S 1043 0) ∧ (S 1043 0) < (S 1100018 0) ∧ (S 1100018 0) = (S 1032 0) ∧ (S 1032 0) ≤ 1 + (S 1020 0) ∧ 0 ≤ (S 1031 0) ∧ (S 1031 0) ≤ 100 ∧ 0 ≤ (S 1044 0) ∧ (S 1044 0) ≤ 30 ∧ 0 ≤ (S 1045 0) ∧ (S 1045 0) ≤ 30 ∧ 0 ≤ (S 1024 0) ∧ ((S 1021 0) = 0 → 0 ≤ (S 1023 0) ∧ (S 1023 0) ≤ 20 ∧ (S 1031 0) ≤ 3 * (S 1023 0) + 5 ∧ (S 1024 0) ≤ 2 * (S 1020 0) ∧ (S 1044 0) ≤ (S 1023 0) ∧ (S 1045 0) ≤ (S 1023 0)) ∧ (S 1021 0) = 0) → (30 * (20 - (S 1023 0)) + 11) = d → sv_T sm_XS sm_cs sm_L sm_sh (30 * (20 - (S 1023 0)) + 11).toNat (q_postfix S) 53 0 (lv_args 0 [.ref 0]) [] S
def q_left (S : sv_S) : Option Value → sv_S → Prop := fun v S' => ∃ r : Int, v = some (sv_I r) ∧ sv_R r ∧ sm_ok S' ∧ sv_mod [1020, 1021, 1022, 1023, 5, 1011, 3, 4, 1007, 1009, 11, 12, 13, 14, 1024, 15, 16, 1031, 1032, 17, 18, 19, 20, 21, 22, 23, 24, 25, 1042, 1043, 1044, 1045, 1100001, 1100002, 1100005, 1100003, 1100004, 1100018] S S' ∧ ((S 1020 0) ≤ (S' 1020 0) ∧ (S' 1020 0) < (S' 1012 0) ∧ 0 ≤ (S' 1021 0) ∧ (0 < (S 1021 0) → 0 < (S' 1021 0)) ∧ (S 1007 0) ≤ (S' 1007 0) ∧ (S' 1007 0) ≤ 90 ∧ sm_LN (S' 4) (S' 1007 0) ∧ ((S 1009 0) = 1 → (S' 1009 0) = 1) ∧ ((S' 1021 0) = 0 → sm_WF (S' 11) (S' 12) (S' 13) (S' 1100001) (S' 1100002) (S' 1100005) (S' 1100003) (S' 1100004) (S' 1024 0) (S' 1007 0) (S' 1009 0) (S' 1032 0) ∧ sm_PX (S 11) (S 12) (S 13) (S 1100001) (S 1100002) (S 1100005) (S 1100003) (S 1100004) (S' 11) (S' 12) (S' 13) (S' 1100001) (S' 1100002) (S' 1100005) (S' 1100003) (S' 1100004) (S 1024 0)) ∧ sm_KL (S 15) (S 16) (S' 15) (S' 16) (S 1031 0) ∧ sm_HD (S' 23) (S' 24) (S' 1100018 0) (S' 1007 0) ∧ sm_HD (S' 25) (fun _ : Int => (S' 1042 0)) 1 (S' 1007 0) ∧ (S' 1031 0) = (S 1031 0) ∧ (S' 1043 0) = (S 1043 0) ∧ (S' 1044 0) = (S 1044 0) ∧ (S' 1045 0) = (S 1045 0) ∧ (S 1032 0) ≤ (S' 1032 0) ∧ (S' 1032 0) ≤ 1 + (S' 1020 0) ∧ (S' 1100018 0) = (S' 1032 0) ∧ (S 1024 0) ≤ (S' 1024 0) ∧ ((S' 1021 0) = 0 → (S' 1023 0) = (S 1023 0) ∧ (S' 1024 0) + 1 ≤ (S 1024 0) + 2 * ((S' 1020 0) - (S 1020 0))) ∧ (0 < (S' 1021 0) → (S' 1024 0) ≤ (S 1024 0) + 2 * ((S' 1020 0) - (S 1020 0)) + 2 * (30 * (20 - (S 1023 0)) + 10)) ∧ -1 ≤ r ∧ r < 12000 ∧ ((S' 1021 0) = 0 → (S 1020 0) < (S' 1020 0) ∧ 1 ≤ (S 6 (S 1020 0)) ∧ sm_ex (S' 1100001) (S' 1100002) (S' 1100005) (S' 1024 0) 1 r (17 * (20 - (S 1023 0)) + 2) (20 - (S 1023 0)) ∧ ((S' 11 r) = 2 ∨ (S' 11 r) = 7 → (S' 1100002 r) ≤ 17 * (20 - (S 1023 0)) + 2)))
def T_left (d : Int) : Prop := ∀ (S : sv_S), sm_ok S → (0 ≤ (S 1020 0) ∧ (S 1020 0) < (S 1012 0) ∧ sm_TK (S 6) (S 8) (S 9) (S 10) (S 1012 0) ∧ 0 ≤ (S 1021 0) ∧ 0 ≤ (S 1004 0) ∧ (S 1004 0) ≤ 4000 ∧ 0 ≤ (S 1007 0) ∧ (S 1007 0) ≤ 90 ∧ sm_LN (S 4) (S 1007 0) ∧ ((S 1021 0) = 0 → sm_WF (S 11) (S 12) (S 13) (S 1100001) (S 1100002) (S 1100005) (S 1100003) (S 1100004) (S 1024 0) (S 1007 0) (S 1009 0) (S 1032 0)) ∧ sm_HD (S 23) (S 24) (S 1100018 0) (S 1007 0) ∧ sm_HD (S 25) (fun _ : Int => (S 1042 0)) 1 (S 1007 0) ∧ 0 ≤ (S 1043 0) ∧ (S 1043 0) < (S 1100018 0) ∧ (S 1100018 0) = (S 1032 0) ∧ (S 1032 0) ≤ 1 + (S 1020 0) ∧ 0 ≤ (S 1031 0) ∧ (S 1031 0) ≤ 100 ∧ 0 ≤ (S 1044 0) ∧ (S 1044 0) ≤ 30 ∧ 0 ≤ (S 1045 0) ∧ (S 1045 0) ≤ 30 ∧ 0 ≤ (S 1024 0) ∧ ((S 1021 0) = 0 → 0 ≤ (S 1023 0) ∧ (S 1023 0) ≤ 20 ∧ (S 1031 0) ≤ 3 * (S 1023 0) + 5 ∧ (S 1024 0) ≤ 2 * (S 1020 0) ∧ (S 1044 0) ≤ (S 1023 0) ∧ (S 1045 0) ≤ (S 1023 0)) ∧ (S 1021 0) = 0) → (30 * (20 - (S 1023 0)) + 10) = d → sv_T sm_XS sm_cs sm_L sm_sh (30 * (20 - (S 1023 0)) + 10).toNat (q_left S) 54 0 (lv_args 0 [.ref 0]) [] S
def q_fresh (S : sv_S) : Option Value → sv_S → Prop := fun v S' => ∃ r : Int, v = some (sv_I r) ∧ sv_R r ∧ sm_ok S' ∧ sv_mod [1020, 1021, 1022, 1023, 5, 1011, 3, 4, 1007, 1009, 11, 12, 13, 14, 1024, 15, 16, 1031, 1032, 17, 18, 19, 20, 21, 22, 23, 24, 25, 1042, 1043, 1044, 1045, 1100001, 1100002, 1100005, 1100003, 1100004, 1100018] S S' ∧ ((S 1020 0) ≤ (S' 1020 0) ∧ (S' 1020 0) < (S' 1012 0) ∧ 0 ≤ (S' 1021 0) ∧ (0 < (S 1021 0) → 0 < (S' 1021 0)) ∧ (S 1007 0) ≤ (S' 1007 0) ∧ (S' 1007 0) ≤ 90 ∧ sm_LN (S' 4) (S' 1007 0) ∧ ((S 1009 0) = 1 → (S' 1009 0) = 1) ∧ ((S' 1021 0) = 0 → sm_WF (S' 11) (S' 12) (S' 13) (S' 1100001) (S' 1100002) (S' 1100005) (S' 1100003) (S' 1100004) (S' 1024 0) (S' 1007 0) (S' 1009 0) (S' 1032 0) ∧ sm_PX (S 11) (S 12) (S 13) (S 1100001) (S 1100002) (S 1100005) (S 1100003) (S 1100004) (S' 11) (S' 12) (S' 13) (S' 1100001) (S' 1100002) (S' 1100005) (S' 1100003) (S' 1100004) (S 1024 0)) ∧ sm_KL (S 15) (S 16) (S' 15) (S' 16) (S 1031 0) ∧ sm_HD (S' 23) (S' 24) (S' 1100018 0) (S' 1007 0) ∧ sm_HD (S' 25) (fun _ : Int => (S' 1042 0)) 1 (S' 1007 0) ∧ (S' 1031 0) = (S 1031 0) ∧ (S' 1043 0) = (S 1043 0) ∧ (S' 1044 0) = (S 1044 0) ∧ (S' 1045 0) = (S 1045 0) ∧ (S 1032 0) ≤ (S' 1032 0) ∧ (S' 1032 0) ≤ 1 + (S' 1020 0) ∧ (S' 1100018 0) = (S' 1032 0) ∧ (S 1024 0) ≤ (S' 1024 0) ∧ ((S' 1021 0) = 0 → (S' 1023 0) = (S 1023 0) ∧ (S' 1024 0) + 1 ≤ (S 1024 0) + 2 * ((S' 1020 0) - (S 1020 0))) ∧ (0 < (S' 1021 0) → (S' 1024 0) ≤ (S 1024 0) + 2 * ((S' 1020 0) - (S 1020 0)) + 2 * (30 * (20 - (S 1023 0)) + 9)) ∧ -1 ≤ r ∧ r < 12000 ∧ ((S' 1021 0) = 0 → (S 1020 0) < (S' 1020 0) ∧ 1 ≤ (S 6 (S 1020 0)) ∧ sm_ex (S' 1100001) (S' 1100002) (S' 1100005) (S' 1024 0) 1 r (17 * (20 - (S 1023 0)) + 2) (20 - (S 1023 0)) ∧ ((S' 11 r) = 2 ∨ (S' 11 r) = 7 → (S' 1100002 r) ≤ 17 * (20 - (S 1023 0)) + 2)))
def T_fresh (d : Int) : Prop := ∀ (S : sv_S), sm_ok S → (0 ≤ (S 1020 0) ∧ (S 1020 0) < (S 1012 0) ∧ sm_TK (S 6) (S 8) (S 9) (S 10) (S 1012 0) ∧ 0 ≤ (S 1021 0) ∧ 0 ≤ (S 1004 0) ∧ (S 1004 0) ≤ 4000 ∧ 0 ≤ (S 1007 0) ∧ (S 1007 0) ≤ 90 ∧ sm_LN (S 4) (S 1007 0) ∧ ((S 1021 0) = 0 → sm_WF (S 11) (S 12) (S 13) (S 1100001) (S 1100002) (S 1100005) (S 1100003) (S 1100004) (S 1024 0) (S 1007 0) (S 1009 0) (S 1032 0)) ∧ sm_HD (S 23) (S 24) (S 1100018 0) (S 1007 0) ∧ sm_HD (S 25) (fun _ : Int => (S 1042 0)) 1 (S 1007 0) ∧ 0 ≤ (S 1043 0) ∧ (S 1043 0) < (S 1100018 0) ∧ (S 1100018 0) = (S 1032 0) ∧ (S 1032 0) ≤ 1 + (S 1020 0) ∧ 0 ≤ (S 1031 0) ∧ (S 1031 0) ≤ 100 ∧ 0 ≤ (S 1044 0) ∧ (S 1044 0) ≤ 30 ∧ 0 ≤ (S 1045 0) ∧ (S 1045 0) ≤ 30 ∧ 0 ≤ (S 1024 0) ∧ ((S 1021 0) = 0 → 0 ≤ (S 1023 0) ∧ (S 1023 0) ≤ 20 ∧ (S 1031 0) ≤ 3 * (S 1023 0) + 5 ∧ (S 1024 0) ≤ 2 * (S 1020 0) ∧ (S 1044 0) ≤ (S 1023 0) ∧ (S 1045 0) ≤ (S 1023 0)) ∧ (S 1021 0) = 0 ∧ (S 6 (S 1020 0)) = 2) → (30 * (20 - (S 1023 0)) + 9) = d → sv_T sm_XS sm_cs sm_L sm_sh (30 * (20 - (S 1023 0)) + 9).toNat (q_fresh S) 55 0 (lv_args 0 [.ref 0]) [] S
def q_member (p1 : Int) (S : sv_S) : Option Value → sv_S → Prop := fun v S' => ∃ r : Int, v = some (sv_I r) ∧ sv_R r ∧ sm_ok S' ∧ sv_mod [1020, 1021, 1022, 1023, 5, 1011, 3, 4, 1007, 1009, 11, 12, 13, 14, 1024, 15, 16, 1031, 1032, 17, 18, 19, 20, 21, 22, 23, 24, 25, 1042, 1043, 1044, 1045, 1100001, 1100002, 1100005, 1100003, 1100004, 1100018] S S' ∧ ((S 1020 0) ≤ (S' 1020 0) ∧ (S' 1020 0) < (S' 1012 0) ∧ 0 ≤ (S' 1021 0) ∧ (0 < (S 1021 0) → 0 < (S' 1021 0)) ∧ (S 1007 0) ≤ (S' 1007 0) ∧ (S' 1007 0) ≤ 90 ∧ sm_LN (S' 4) (S' 1007 0) ∧ ((S 1009 0) = 1 → (S' 1009 0) = 1) ∧ ((S' 1021 0) = 0 → sm_WF (S' 11) (S' 12) (S' 13) (S' 1100001) (S' 1100002) (S' 1100005) (S' 1100003) (S' 1100004) (S' 1024 0) (S' 1007 0) (S' 1009 0) (S' 1032 0) ∧ sm_PX (S 11) (S 12) (S 13) (S 1100001) (S 1100002) (S 1100005) (S 1100003) (S 1100004) (S' 11) (S' 12) (S' 13) (S' 1100001) (S' 1100002) (S' 1100005) (S' 1100003) (S' 1100004) (S 1024 0)) ∧ sm_KL (S 15) (S 16) (S' 15) (S' 16) (S 1031 0) ∧ sm_HD (S' 23) (S' 24) (S' 1100018 0) (S' 1007 0) ∧ sm_HD (S' 25) (fun _ : Int => (S' 1042 0)) 1 (S' 1007 0) ∧ (S' 1031 0) = (S 1031 0) ∧ (S' 1043 0) = (S 1043 0) ∧ (S' 1044 0) = (S 1044 0) ∧ (S' 1045 0) = (S 1045 0) ∧ (S 1032 0) ≤ (S' 1032 0) ∧ (S' 1032 0) ≤ 1 + (S' 1020 0) ∧ (S' 1100018 0) = (S' 1032 0) ∧ (S 1024 0) ≤ (S' 1024 0) ∧ ((S' 1021 0) = 0 → (S' 1023 0) = (S 1023 0) ∧ (S' 1024 0) + 0 ≤ (S 1024 0) + 2 * ((S' 1020 0) - (S 1020 0))) ∧ (0 < (S' 1021 0) → (S' 1024 0) ≤ (S 1024 0) + 2 * ((S' 1020 0) - (S 1020 0)) + 2 * (30 * (20 - (S 1023 0)) + 9)) ∧ -1 ≤ r ∧ r < 12000 ∧ ((S' 1021 0) = 0 → (S 1020 0) < (S' 1020 0) ∧ 1 ≤ (S 6 (S 1020 0)) ∧ sm_ex (S' 1100001) (S' 1100002) (S' 1100005) (S' 1024 0) 1 r (17 * (20 - (S 1023 0)) + 2) (20 - (S 1023 0))))
def T_member (d : Int) : Prop := ∀ (p1 : Int) (S : sv_S), sm_ok S → sv_R p1 → (0 ≤ (S 1020 0) ∧ (S 1020 0) < (S 1012 0) ∧ sm_TK (S 6) (S 8) (S 9) (S 10) (S 1012 0) ∧ 0 ≤ (S 1021 0) ∧ 0 ≤ (S 1004 0) ∧ (S 1004 0) ≤ 4000 ∧ 0 ≤ (S 1007 0) ∧ (S 1007 0) ≤ 90 ∧ sm_LN (S 4) (S 1007 0) ∧ ((S 1021 0) = 0 → sm_WF (S 11) (S 12) (S 13) (S 1100001) (S 1100002) (S 1100005) (S 1100003) (S 1100004) (S 1024 0) (S 1007 0) (S 1009 0) (S 1032 0)) ∧ sm_HD (S 23) (S 24) (S 1100018 0) (S 1007 0) ∧ sm_HD (S 25) (fun _ : Int => (S 1042 0)) 1 (S 1007 0) ∧ 0 ≤ (S 1043 0) ∧ (S 1043 0) < (S 1100018 0) ∧ (S 1100018 0) = (S 1032 0) ∧ (S 1032 0) ≤ 1 + (S 1020 0) ∧ 0 ≤ (S 1031 0) ∧ (S 1031 0) ≤ 100 ∧ 0 ≤ (S 1044 0) ∧ (S 1044 0) ≤ 30 ∧ 0 ≤ (S 1045 0) ∧ (S 1045 0) ≤ 30 ∧ 0 ≤ (S 1024 0) ∧ ((S 1021 0) = 0 → 0 ≤ (S 1023 0) ∧ (S 1023 0) ≤ 20 ∧ (S 1031 0) ≤ 3 * (S 1023 0) + 5 ∧ (S 1024 0) ≤ 2 * (S 1020 0) ∧ (S 1044 0) ≤ (S 1023 0) ∧ (S 1045 0) ≤ (S 1023 0)) ∧ (S 1021 0) = 0 ∧ ((S 6 (S 1020 0)) = 5) ∧ sm_ex (S 1100001) (S 1100002) (S 1100005) (S 1024 0) 1 p1 (17 * (20 - (S 1023 0)) + 2) (20 - (S 1023 0))) → (30 * (20 - (S 1023 0)) + 9) = d → sv_T sm_XS sm_cs sm_L sm_sh (30 * (20 - (S 1023 0)) + 9).toNat (q_member p1 S) 56 0 (lv_args 0 [.ref 0, sv_I p1]) [] S
def q_arguments (S : sv_S) : Option Value → sv_S → Prop := fun v S' => ∃ r : Int, v = some (sv_I r) ∧ sv_R r ∧ sm_ok S' ∧ sv_mod [1020, 1021, 1022, 1023, 5, 1011, 3, 4, 1007, 1009, 11, 12, 13, 14, 1024, 15, 16, 1031, 1032, 17, 18, 19, 20, 21, 22, 23, 24, 25, 1042, 1043, 1044, 1045, 1100001, 1100002, 1100005, 1100003, 1100004, 1100018] S S' ∧ ((S 1020 0) ≤ (S' 1020 0) ∧ (S' 1020 0) < (S' 1012 0) ∧ 0 ≤ (S' 1021 0) ∧ (0 < (S 1021 0) → 0 < (S' 1021 0)) ∧ (S 1007 0) ≤ (S' 1007 0) ∧ (S' 1007 0) ≤ 90 ∧ sm_LN (S' 4) (S' 1007 0) ∧ ((S 1009 0) = 1 → (S' 1009 0) = 1) ∧ ((S' 1021 0) = 0 → sm_WF (S' 11) (S' 12) (S' 13) (S' 1100001) (S' 1100002) (S' 1100005) (S' 1100003) (S' 1100004) (S' 1024 0) (S' 1007 0) (S' 1009 0) (S' 1032 0) ∧ sm_PX (S 11) (S 12) (S 13) (S 1100001) (S 1100002) (S 1100005) (S 1100003) (S 1100004) (S' 11) (S' 12) (S' 13) (S' 1100001) (S' 1100002) (S' 1100005) (S' 1100003) (S' 1100004) (S 1024 0)) ∧ sm_KL (S 15) (S 16) (S' 15) (S' 16) (S 1031 0) ∧ sm_HD (S' 23) (S' 24) (S' 1100018 0) (S' 1007 0) ∧ sm_HD (S' 25) (fun _ : Int => (S' 1042 0)) 1 (S' 1007 0) ∧ (S' 1031 0) = (S 1031 0) ∧ (S' 1043 0) = (S 1043 0) ∧ (S' 1044 0) = (S 1044 0) ∧ (S' 1045 0) = (S 1045 0) ∧ (S 1032 0) ≤ (S' 1032 0) ∧ (S' 1032 0) ≤ 1 + (S' 1020 0) ∧ (S' 1100018 0) = (S' 1032 0) ∧ (S 1024 0) ≤ (S' 1024 0) ∧ ((S' 1021 0) = 0 → (S' 1023 0) = (S 1023 0) ∧ (S' 1024 0) + 2 ≤ (S 1024 0) + 2 * ((S' 1020 0) - (S 1020 0))) ∧ (0 < (S' 1021 0) → (S' 1024 0) ≤ (S 1024 0) + 2 * ((S' 1020 0) - (S 1020 0)) + 2 * (30 * (20 - (S 1023 0)) + 9)) ∧ -1 ≤ r ∧ r < 12000 ∧ ((S' 1021 0) = 0 → sm_li (S' 1100001) (S' 1100002) (S' 1100005) (S' 1024 0) 3 r (17 * (20 - (S 1023 0))) (19 - (S 1023 0)) ∧ (S 1020 0) < (S' 1020 0)))
def T_arguments (d : Int) : Prop := ∀ (S : sv_S), sm_ok S → (0 ≤ (S 1020 0) ∧ (S 1020 0) < (S 1012 0) ∧ sm_TK (S 6) (S 8) (S 9) (S 10) (S 1012 0) ∧ 0 ≤ (S 1021 0) ∧ 0 ≤ (S 1004 0) ∧ (S 1004 0) ≤ 4000 ∧ 0 ≤ (S 1007 0) ∧ (S 1007 0) ≤ 90 ∧ sm_LN (S 4) (S 1007 0) ∧ ((S 1021 0) = 0 → sm_WF (S 11) (S 12) (S 13) (S 1100001) (S 1100002) (S 1100005) (S 1100003) (S 1100004) (S 1024 0) (S 1007 0) (S 1009 0) (S 1032 0)) ∧ sm_HD (S 23) (S 24) (S 1100018 0) (S 1007 0) ∧ sm_HD (S 25) (fun _ : Int => (S 1042 0)) 1 (S 1007 0) ∧ 0 ≤ (S 1043 0) ∧ (S 1043 0) < (S 1100018 0) ∧ (S 1100018 0) = (S 1032 0) ∧ (S 1032 0) ≤ 1 + (S 1020 0) ∧ 0 ≤ (S 1031 0) ∧ (S 1031 0) ≤ 100 ∧ 0 ≤ (S 1044 0) ∧ (S 1044 0) ≤ 30 ∧ 0 ≤ (S 1045 0) ∧ (S 1045 0) ≤ 30 ∧ 0 ≤ (S 1024 0) ∧ ((S 1021 0) = 0 → 0 ≤ (S 1023 0) ∧ (S 1023 0) ≤ 20 ∧ (S 1031 0) ≤ 3 * (S 1023 0) + 5 ∧ (S 1024 0) ≤ 2 * (S 1020 0) ∧ (S 1044 0) ≤ (S 1023 0) ∧ (S 1045 0) ≤ (S 1023 0)) ∧ (S 1021 0) = 0 ∧ (S 6 (S 1020 0)) = 5) → (30 * (20 - (S 1023 0)) + 9) = d → sv_T sm_XS sm_cs sm_L sm_sh (30 * (20 - (S 1023 0)) + 9).toNat (q_arguments S) 57 0 (lv_args 0 [.ref 0]) [] S
def q_items (p1 : Int) (p2 : Int) (p3 : Int) (S : sv_S) : Option Value → sv_S → Prop := fun v S' => ∃ r : Int, v = some (sv_I r) ∧ sv_R r ∧ sm_ok S' ∧ sv_mod [1020, 1021, 1022, 1023, 5, 1011, 3, 4, 1007, 1009, 11, 12, 13, 14, 1024, 15, 16, 1031, 1032, 17, 18, 19, 20, 21, 22, 23, 24, 25, 1042, 1043, 1044, 1045, 1100001, 1100002, 1100005, 1100003, 1100004, 1100018] S S' ∧ ((S 1020 0) ≤ (S' 1020 0) ∧ (S' 1020 0) < (S' 1012 0) ∧ 0 ≤ (S' 1021 0) ∧ (0 < (S 1021 0) → 0 < (S' 1021 0)) ∧ (S 1007 0) ≤ (S' 1007 0) ∧ (S' 1007 0) ≤ 90 ∧ sm_LN (S' 4) (S' 1007 0) ∧ ((S 1009 0) = 1 → (S' 1009 0) = 1) ∧ ((S' 1021 0) = 0 → sm_WF (S' 11) (S' 12) (S' 13) (S' 1100001) (S' 1100002) (S' 1100005) (S' 1100003) (S' 1100004) (S' 1024 0) (S' 1007 0) (S' 1009 0) (S' 1032 0) ∧ sm_PX (S 11) (S 12) (S 13) (S 1100001) (S 1100002) (S 1100005) (S 1100003) (S 1100004) (S' 11) (S' 12) (S' 13) (S' 1100001) (S' 1100002) (S' 1100005) (S' 1100003) (S' 1100004) (S 1024 0)) ∧ sm_KL (S 15) (S 16) (S' 15) (S' 16) (S 1031 0) ∧ sm_HD (S' 23) (S' 24) (S' 1100018 0) (S' 1007 0) ∧ sm_HD (S' 25) (fun _ : Int => (S' 1042 0)) 1 (S' 1007 0) ∧ (S' 1031 0) = (S 1031 0) ∧ (S' 1043 0) = (S 1043 0) ∧ (S' 1044 0) = (S 1044 0) ∧ (S' 1045 0) = (S 1045 0) ∧ (S 1032 0) ≤ (S' 1032 0) ∧ (S' 1032 0) ≤ 1 + (S' 1020 0) ∧ (S' 1100018 0) = (S' 1032 0) ∧ (S 1024 0) ≤ (S' 1024 0) ∧ ((S' 1021 0) = 0 → (S' 1023 0) = (S 1023 0) ∧ (S' 1024 0) + 2 ≤ (S 1024 0) + 2 * ((S' 1020 0) - (S 1020 0))) ∧ (0 < (S' 1021 0) → (S' 1024 0) ≤ (S 1024 0) + 2 * ((S' 1020 0) - (S 1020 0)) + 2 * (30 * (20 - (S 1023 0)) + 8)) ∧ -1 ≤ r ∧ r < 12000 ∧ ((S' 1021 0) = 0 → sm_li (S' 1100001) (S' 1100002) (S' 1100005) (S' 1024 0) 3 r (17 * (20 - (S 1023 0))) (19 - (S 1023 0)) ∧ (S 1020 0) < (S' 1020 0)))
def T_items (d : Int) : Prop := ∀ (p1 : Int) (p2 : Int) (p3 : Int) (S : sv_S), sm_ok S → sv_R p1 → sv_R p2 → sv_R p3 → (0 ≤ (S 1020 0) ∧ (S 1020 0) < (S 1012 0) ∧ sm_TK (S 6) (S 8) (S 9) (S 10) (S 1012 0) ∧ 0 ≤ (S 1021 0) ∧ 0 ≤ (S 1004 0) ∧ (S 1004 0) ≤ 4000 ∧ 0 ≤ (S 1007 0) ∧ (S 1007 0) ≤ 90 ∧ sm_LN (S 4) (S 1007 0) ∧ ((S 1021 0) = 0 → sm_WF (S 11) (S 12) (S 13) (S 1100001) (S 1100002) (S 1100005) (S 1100003) (S 1100004) (S 1024 0) (S 1007 0) (S 1009 0) (S 1032 0)) ∧ sm_HD (S 23) (S 24) (S 1100018 0) (S 1007 0) ∧ sm_HD (S 25) (fun _ : Int => (S 1042 0)) 1 (S 1007 0) ∧ 0 ≤ (S 1043 0) ∧ (S 1043 0) < (S 1100018 0) ∧ (S 1100018 0) = (S 1032 0) ∧ (S 1032 0) ≤ 1 + (S 1020 0) ∧ 0 ≤ (S 1031 0) ∧ (S 1031 0) ≤ 100 ∧ 0 ≤ (S 1044 0) ∧ (S 1044 0) ≤ 30 ∧ 0 ≤ (S 1045 0) ∧ (S 1045 0) ≤ 30 ∧ 0 ≤ (S 1024 0) ∧ ((S 1021 0) = 0 → 0 ≤ (S 1023 0) ∧ (S 1023 0) ≤ 20 ∧ (S 1031 0) ≤ 3 * (S 1023 0) + 5 ∧ (S 1024 0) ≤ 2 * (S 1020 0) ∧ (S 1044 0) ≤ (S 1023 0) ∧ (S 1045 0) ≤ (S 1023 0)) ∧ (S 1021 0) = 0 ∧ (S 6 (S 1020 0)) = 5 ∧ p3 ≤ 16) → (30 * (20 - (S 1023 0)) + 8) = d → sv_T sm_XS sm_cs sm_L sm_sh (30 * (20 - (S 1023 0)) + 8).toNat (q_items p1 p2 p3 S) 58 0 (lv_args 0 [.ref 0, sv_I p1, sv_I p2, sv_I p3]) [] S
def q_primary (S : sv_S) : Option Value → sv_S → Prop := fun v S' => ∃ r : Int, v = some (sv_I r) ∧ sv_R r ∧ sm_ok S' ∧ sv_mod [1020, 1021, 1022, 1023, 5, 1011, 3, 4, 1007, 1009, 11, 12, 13, 14, 1024, 15, 16, 1031, 1032, 17, 18, 19, 20, 21, 22, 23, 24, 25, 1042, 1043, 1044, 1045, 1100001, 1100002, 1100005, 1100003, 1100004, 1100018] S S' ∧ ((S 1020 0) ≤ (S' 1020 0) ∧ (S' 1020 0) < (S' 1012 0) ∧ 0 ≤ (S' 1021 0) ∧ (0 < (S 1021 0) → 0 < (S' 1021 0)) ∧ (S 1007 0) ≤ (S' 1007 0) ∧ (S' 1007 0) ≤ 90 ∧ sm_LN (S' 4) (S' 1007 0) ∧ ((S 1009 0) = 1 → (S' 1009 0) = 1) ∧ ((S' 1021 0) = 0 → sm_WF (S' 11) (S' 12) (S' 13) (S' 1100001) (S' 1100002) (S' 1100005) (S' 1100003) (S' 1100004) (S' 1024 0) (S' 1007 0) (S' 1009 0) (S' 1032 0) ∧ sm_PX (S 11) (S 12) (S 13) (S 1100001) (S 1100002) (S 1100005) (S 1100003) (S 1100004) (S' 11) (S' 12) (S' 13) (S' 1100001) (S' 1100002) (S' 1100005) (S' 1100003) (S' 1100004) (S 1024 0)) ∧ sm_KL (S 15) (S 16) (S' 15) (S' 16) (S 1031 0) ∧ sm_HD (S' 23) (S' 24) (S' 1100018 0) (S' 1007 0) ∧ sm_HD (S' 25) (fun _ : Int => (S' 1042 0)) 1 (S' 1007 0) ∧ (S' 1031 0) = (S 1031 0) ∧ (S' 1043 0) = (S 1043 0) ∧ (S' 1044 0) = (S 1044 0) ∧ (S' 1045 0) = (S 1045 0) ∧ (S 1032 0) ≤ (S' 1032 0) ∧ (S' 1032 0) ≤ 1 + (S' 1020 0) ∧ (S' 1100018 0) = (S' 1032 0) ∧ (S 1024 0) ≤ (S' 1024 0) ∧ ((S' 1021 0) = 0 → (S' 1023 0) = (S 1023 0) ∧ (S' 1024 0) + 1 ≤ (S 1024 0) + 2 * ((S' 1020 0) - (S 1020 0))) ∧ (0 < (S' 1021 0) → (S' 1024 0) ≤ (S 1024 0) + 2 * ((S' 1020 0) - (S 1020 0)) + 2 * (30 * (20 - (S 1023 0)) + 9)) ∧ -1 ≤ r ∧ r < 12000 ∧ ((S' 1021 0) = 0 → (S 1020 0) < (S' 1020 0) ∧ 1 ≤ (S 6 (S 1020 0)) ∧ sm_ex (S' 1100001) (S' 1100002) (S' 1100005) (S' 1024 0) 1 r (17 * (20 - (S 1023 0)) + 2) (20 - (S 1023 0)) ∧ ((S' 11 r) = 2 ∨ (S' 11 r) = 7 → (S' 1100002 r) ≤ 17 * (20 - (S 1023 0)) + 2)) ∧ (0 < (S 1021 0) → (S' 1020 0) = (S 1020 0) ∧ (S' 1024 0) = (S 1024 0)))
def T_primary (d : Int) : Prop := ∀ (S : sv_S), sm_ok S → (0 ≤ (S 1020 0) ∧ (S 1020 0) < (S 1012 0) ∧ sm_TK (S 6) (S 8) (S 9) (S 10) (S 1012 0) ∧ 0 ≤ (S 1021 0) ∧ 0 ≤ (S 1004 0) ∧ (S 1004 0) ≤ 4000 ∧ 0 ≤ (S 1007 0) ∧ (S 1007 0) ≤ 90 ∧ sm_LN (S 4) (S 1007 0) ∧ ((S 1021 0) = 0 → sm_WF (S 11) (S 12) (S 13) (S 1100001) (S 1100002) (S 1100005) (S 1100003) (S 1100004) (S 1024 0) (S 1007 0) (S 1009 0) (S 1032 0)) ∧ sm_HD (S 23) (S 24) (S 1100018 0) (S 1007 0) ∧ sm_HD (S 25) (fun _ : Int => (S 1042 0)) 1 (S 1007 0) ∧ 0 ≤ (S 1043 0) ∧ (S 1043 0) < (S 1100018 0) ∧ (S 1100018 0) = (S 1032 0) ∧ (S 1032 0) ≤ 1 + (S 1020 0) ∧ 0 ≤ (S 1031 0) ∧ (S 1031 0) ≤ 100 ∧ 0 ≤ (S 1044 0) ∧ (S 1044 0) ≤ 30 ∧ 0 ≤ (S 1045 0) ∧ (S 1045 0) ≤ 30 ∧ 0 ≤ (S 1024 0) ∧ ((S 1021 0) = 0 → 0 ≤ (S 1023 0) ∧ (S 1023 0) ≤ 20 ∧ (S 1031 0) ≤ 3 * (S 1023 0) + 5 ∧ (S 1024 0) ≤ 2 * (S 1020 0) ∧ (S 1044 0) ≤ (S 1023 0) ∧ (S 1045 0) ≤ (S 1023 0)) ∧ (S 1021 0) = 0) → (30 * (20 - (S 1023 0)) + 9) = d → sv_T sm_XS sm_cs sm_L sm_sh (30 * (20 - (S 1023 0)) + 9).toNat (q_primary S) 59 0 (lv_args 0 [.ref 0]) [] S
def q_bracketed (S : sv_S) : Option Value → sv_S → Prop := fun v S' => ∃ r : Int, v = some (sv_I r) ∧ sv_R r ∧ sm_ok S' ∧ sv_mod [1020, 1021, 1022, 1023, 5, 1011, 3, 4, 1007, 1009, 11, 12, 13, 14, 1024, 15, 16, 1031, 1032, 17, 18, 19, 20, 21, 22, 23, 24, 25, 1042, 1043, 1044, 1045, 1100001, 1100002, 1100005, 1100003, 1100004, 1100018] S S' ∧ ((S 1020 0) ≤ (S' 1020 0) ∧ (S' 1020 0) < (S' 1012 0) ∧ 0 ≤ (S' 1021 0) ∧ (0 < (S 1021 0) → 0 < (S' 1021 0)) ∧ (S 1007 0) ≤ (S' 1007 0) ∧ (S' 1007 0) ≤ 90 ∧ sm_LN (S' 4) (S' 1007 0) ∧ ((S 1009 0) = 1 → (S' 1009 0) = 1) ∧ ((S' 1021 0) = 0 → sm_WF (S' 11) (S' 12) (S' 13) (S' 1100001) (S' 1100002) (S' 1100005) (S' 1100003) (S' 1100004) (S' 1024 0) (S' 1007 0) (S' 1009 0) (S' 1032 0) ∧ sm_PX (S 11) (S 12) (S 13) (S 1100001) (S 1100002) (S 1100005) (S 1100003) (S 1100004) (S' 11) (S' 12) (S' 13) (S' 1100001) (S' 1100002) (S' 1100005) (S' 1100003) (S' 1100004) (S 1024 0)) ∧ sm_KL (S 15) (S 16) (S' 15) (S' 16) (S 1031 0) ∧ sm_HD (S' 23) (S' 24) (S' 1100018 0) (S' 1007 0) ∧ sm_HD (S' 25) (fun _ : Int => (S' 1042 0)) 1 (S' 1007 0) ∧ (S' 1031 0) = (S 1031 0) ∧ (S' 1043 0) = (S 1043 0) ∧ (S' 1044 0) = (S 1044 0) ∧ (S' 1045 0) = (S 1045 0) ∧ (S 1032 0) ≤ (S' 1032 0) ∧ (S' 1032 0) ≤ 1 + (S' 1020 0) ∧ (S' 1100018 0) = (S' 1032 0) ∧ (S 1024 0) ≤ (S' 1024 0) ∧ ((S' 1021 0) = 0 → (S' 1023 0) = (S 1023 0) ∧ (S' 1024 0) + 1 ≤ (S 1024 0) + 2 * ((S' 1020 0) - (S 1020 0))) ∧ (0 < (S' 1021 0) → (S' 1024 0) ≤ (S 1024 0) + 2 * ((S' 1020 0) - (S 1020 0)) + 2 * (30 * (20 - (S 1023 0)) + 8)) ∧ -1 ≤ r ∧ r < 12000 ∧ ((S' 1021 0) = 0 → (S 1020 0) < (S' 1020 0) ∧ 1 ≤ (S 6 (S 1020 0)) ∧ sm_ex (S' 1100001) (S' 1100002) (S' 1100005) (S' 1024 0) 1 r (17 * (20 - (S 1023 0)) + 2) (20 - (S 1023 0)) ∧ ((S' 11 r) = 2 ∨ (S' 11 r) = 7 → (S' 1100002 r) ≤ 17 * (20 - (S 1023 0)) + 2)))
def T_bracketed (d : Int) : Prop := ∀ (S : sv_S), sm_ok S → (0 ≤ (S 1020 0) ∧ (S 1020 0) < (S 1012 0) ∧ sm_TK (S 6) (S 8) (S 9) (S 10) (S 1012 0) ∧ 0 ≤ (S 1021 0) ∧ 0 ≤ (S 1004 0) ∧ (S 1004 0) ≤ 4000 ∧ 0 ≤ (S 1007 0) ∧ (S 1007 0) ≤ 90 ∧ sm_LN (S 4) (S 1007 0) ∧ ((S 1021 0) = 0 → sm_WF (S 11) (S 12) (S 13) (S 1100001) (S 1100002) (S 1100005) (S 1100003) (S 1100004) (S 1024 0) (S 1007 0) (S 1009 0) (S 1032 0)) ∧ sm_HD (S 23) (S 24) (S 1100018 0) (S 1007 0) ∧ sm_HD (S 25) (fun _ : Int => (S 1042 0)) 1 (S 1007 0) ∧ 0 ≤ (S 1043 0) ∧ (S 1043 0) < (S 1100018 0) ∧ (S 1100018 0) = (S 1032 0) ∧ (S 1032 0) ≤ 1 + (S 1020 0) ∧ 0 ≤ (S 1031 0) ∧ (S 1031 0) ≤ 100 ∧ 0 ≤ (S 1044 0) ∧ (S 1044 0) ≤ 30 ∧ 0 ≤ (S 1045 0) ∧ (S 1045 0) ≤ 30 ∧ 0 ≤ (S 1024 0) ∧ ((S 1021 0) = 0 → 0 ≤ (S 1023 0) ∧ (S 1023 0) ≤ 20 ∧ (S 1031 0) ≤ 3 * (S 1023 0) + 5 ∧ (S 1024 0) ≤ 2 * (S 1020 0) ∧ (S 1044 0) ≤ (S 1023 0) ∧ (S 1045 0) ≤ (S 1023 0)) ∧ (S 1021 0) = 0 ∧ (S 6 (S 1020 0)) = 5) → (30 * (20 - (S 1023 0)) + 8) = d → sv_T sm_XS sm_cs sm_L sm_sh (30 * (20 - (S 1023 0)) + 8).toNat (q_bracketed S) 60 0 (lv_args 0 [.ref 0]) [] S
def q_pairs (S : sv_S) : Option Value → sv_S → Prop := fun v S' => ∃ r : Int, v = some (sv_I r) ∧ sv_R r ∧ sm_ok S' ∧ sv_mod [1020, 1021, 1022, 1023, 5, 1011, 3, 4, 1007, 1009, 11, 12, 13, 14, 1024, 15, 16, 1031, 1032, 17, 18, 19, 20, 21, 22, 23, 24, 25, 1042, 1043, 1044, 1045, 1100001, 1100002, 1100005, 1100003, 1100004, 1100018] S S' ∧ ((S 1020 0) ≤ (S' 1020 0) ∧ (S' 1020 0) < (S' 1012 0) ∧ 0 ≤ (S' 1021 0) ∧ (0 < (S 1021 0) → 0 < (S' 1021 0)) ∧ (S 1007 0) ≤ (S' 1007 0) ∧ (S' 1007 0) ≤ 90 ∧ sm_LN (S' 4) (S' 1007 0) ∧ ((S 1009 0) = 1 → (S' 1009 0) = 1) ∧ ((S' 1021 0) = 0 → sm_WF (S' 11) (S' 12) (S' 13) (S' 1100001) (S' 1100002) (S' 1100005) (S' 1100003) (S' 1100004) (S' 1024 0) (S' 1007 0) (S' 1009 0) (S' 1032 0) ∧ sm_PX (S 11) (S 12) (S 13) (S 1100001) (S 1100002) (S 1100005) (S 1100003) (S 1100004) (S' 11) (S' 12) (S' 13) (S' 1100001) (S' 1100002) (S' 1100005) (S' 1100003) (S' 1100004) (S 1024 0)) ∧ sm_KL (S 15) (S 16) (S' 15) (S' 16) (S 1031 0) ∧ sm_HD (S' 23) (S' 24) (S' 1100018 0) (S' 1007 0) ∧ sm_HD (S' 25) (fun _ : Int => (S' 1042 0)) 1 (S' 1007 0) ∧ (S' 1031 0) = (S 1031 0) ∧ (S' 1043 0) = (S 1043 0) ∧ (S' 1044 0) = (S 1044 0) ∧ (S' 1045 0) = (S 1045 0) ∧ (S 1032 0) ≤ (S' 1032 0) ∧ (S' 1032 0) ≤ 1 + (S' 1020 0) ∧ (S' 1100018 0) = (S' 1032 0) ∧ (S 1024 0) ≤ (S' 1024 0) ∧ ((S' 1021 0) = 0 → (S' 1023 0) = (S 1023 0) ∧ (S' 1024 0) + 2 ≤ (S 1024 0) + 2 * ((S' 1020 0) - (S 1020 0))) ∧ (0 < (S' 1021 0) → (S' 1024 0) ≤ (S 1024 0) + 2 * ((S' 1020 0) - (S 1020 0)) + 2 * (30 * (20 - (S 1023 0)) + 8)) ∧ -1 ≤ r ∧ r < 12000 ∧ ((S' 1021 0) = 0 → sm_li (S' 1100001) (S' 1100002) (S' 1100005) (S' 1024 0) 4 r (17 * (20 - (S 1023 0))) (19 - (S 1023 0)) ∧ (S 1020 0) < (S' 1020 0)))
def T_pairs (d : Int) : Prop := ∀ (S : sv_S), sm_ok S → (0 ≤ (S 1020 0) ∧ (S 1020 0) < (S 1012 0) ∧ sm_TK (S 6) (S 8) (S 9) (S 10) (S 1012 0) ∧ 0 ≤ (S 1021 0) ∧ 0 ≤ (S 1004 0) ∧ (S 1004 0) ≤ 4000 ∧ 0 ≤ (S 1007 0) ∧ (S 1007 0) ≤ 90 ∧ sm_LN (S 4) (S 1007 0) ∧ ((S 1021 0) = 0 → sm_WF (S 11) (S 12) (S 13) (S 1100001) (S 1100002) (S 1100005) (S 1100003) (S 1100004) (S 1024 0) (S 1007 0) (S 1009 0) (S 1032 0)) ∧ sm_HD (S 23) (S 24) (S 1100018 0) (S 1007 0) ∧ sm_HD (S 25) (fun _ : Int => (S 1042 0)) 1 (S 1007 0) ∧ 0 ≤ (S 1043 0) ∧ (S 1043 0) < (S 1100018 0) ∧ (S 1100018 0) = (S 1032 0) ∧ (S 1032 0) ≤ 1 + (S 1020 0) ∧ 0 ≤ (S 1031 0) ∧ (S 1031 0) ≤ 100 ∧ 0 ≤ (S 1044 0) ∧ (S 1044 0) ≤ 30 ∧ 0 ≤ (S 1045 0) ∧ (S 1045 0) ≤ 30 ∧ 0 ≤ (S 1024 0) ∧ ((S 1021 0) = 0 → 0 ≤ (S 1023 0) ∧ (S 1023 0) ≤ 20 ∧ (S 1031 0) ≤ 3 * (S 1023 0) + 5 ∧ (S 1024 0) ≤ 2 * (S 1020 0) ∧ (S 1044 0) ≤ (S 1023 0) ∧ (S 1045 0) ≤ (S 1023 0)) ∧ (S 1021 0) = 0 ∧ (S 6 (S 1020 0)) = 5) → (30 * (20 - (S 1023 0)) + 8) = d → sv_T sm_XS sm_cs sm_L sm_sh (30 * (20 - (S 1023 0)) + 8).toNat (q_pairs S) 61 0 (lv_args 0 [.ref 0]) [] S
def q_function (p1 : Int) (S : sv_S) : Option Value → sv_S → Prop := fun v S' => ∃ r : Int, v = some (sv_I r) ∧ sv_R r ∧ sm_ok S' ∧ sv_mod [1020, 1021, 1022, 1023, 5, 1011, 3, 4, 1007, 1009, 11, 12, 13, 14, 1024, 15, 16, 1031, 1032, 17, 18, 19, 20, 21, 22, 23, 24, 25, 1042, 1043, 1044, 1045, 1100001, 1100002, 1100005, 1100003, 1100004, 1100018] S S' ∧ ((S 1020 0) ≤ (S' 1020 0) ∧ (S' 1020 0) < (S' 1012 0) ∧ 0 ≤ (S' 1021 0) ∧ (0 < (S 1021 0) → 0 < (S' 1021 0)) ∧ (S 1007 0) ≤ (S' 1007 0) ∧ (S' 1007 0) ≤ 90 ∧ sm_LN (S' 4) (S' 1007 0) ∧ ((S 1009 0) = 1 → (S' 1009 0) = 1) ∧ ((S' 1021 0) = 0 → sm_WF (S' 11) (S' 12) (S' 13) (S' 1100001) (S' 1100002) (S' 1100005) (S' 1100003) (S' 1100004) (S' 1024 0) (S' 1007 0) (S' 1009 0) (S' 1032 0) ∧ sm_PX (S 11) (S 12) (S 13) (S 1100001) (S 1100002) (S 1100005) (S 1100003) (S 1100004) (S' 11) (S' 12) (S' 13) (S' 1100001) (S' 1100002) (S' 1100005) (S' 1100003) (S' 1100004) (S 1024 0)) ∧ sm_KL (S 15) (S 16) (S' 15) (S' 16) (S 1031 0) ∧ sm_HD (S' 23) (S' 24) (S' 1100018 0) (S' 1007 0) ∧ sm_HD (S' 25) (fun _ : Int => (S' 1042 0)) 1 (S' 1007 0) ∧ (S' 1031 0) = (S 1031 0) ∧ (S' 1043 0) = (S 1043 0) ∧ (S' 1044 0) = (S 1044 0) ∧ (S' 1045 0) = (S 1045 0) ∧ (S 1032 0) ≤ (S' 1032 0) ∧ (S' 1032 0) ≤ 1 + (S' 1020 0) ∧ (S' 1100018 0) = (S' 1032 0) ∧ (S 1024 0) ≤ (S' 1024 0) ∧ ((S' 1021 0) = 0 → (S' 1023 0) = (S 1023 0) ∧ (S' 1024 0) + 2 ≤ (S 1024 0) + 2 * ((S' 1020 0) - (S 1020 0))) ∧ (0 < (S' 1021 0) → (S' 1024 0) ≤ (S 1024 0) + 2 * ((S' 1020 0) - (S 1020 0)) + 2 * (30 * (20 - (S 1023 0)) + 8)) ∧ 0 ≤ r ∧ ((S' 1021 0) = 0 → 1 ≤ r ∧ r < (S' 1032 0) ∧ (S 1020 0) < (S' 1020 0)))
def T_function (d : Int) : Prop := ∀ (p1 : Int) (S : sv_S), sm_ok S → (0 ≤ p1 ∧ p1 ≤ 1) → (0 ≤ (S 1020 0) ∧ (S 1020 0) < (S 1012 0) ∧ sm_TK (S 6) (S 8) (S 9) (S 10) (S 1012 0) ∧ 0 ≤ (S 1021 0) ∧ 0 ≤ (S 1004 0) ∧ (S 1004 0) ≤ 4000 ∧ 0 ≤ (S 1007 0) ∧ (S 1007 0) ≤ 90 ∧ sm_LN (S 4) (S 1007 0) ∧ ((S 1021 0) = 0 → sm_WF (S 11) (S 12) (S 13) (S 1100001) (S 1100002) (S 1100005) (S 1100003) (S 1100004) (S 1024 0) (S 1007 0) (S 1009 0) (S 1032 0)) ∧ sm_HD (S 23) (S 24) (S 1100018 0) (S 1007 0) ∧ sm_HD (S 25) (fun _ : Int => (S 1042 0)) 1 (S 1007 0) ∧ 0 ≤ (S 1043 0) ∧ (S 1043 0) < (S 1100018 0) ∧ (S 1100018 0) = (S 1032 0) ∧ (S 1032 0) ≤ 1 + (S 1020 0) ∧ 0 ≤ (S 1031 0) ∧ (S 1031 0) ≤ 100 ∧ 0 ≤ (S 1044 0) ∧ (S 1044 0) ≤ 30 ∧ 0 ≤ (S 1045 0) ∧ (S 1045 0) ≤ 30 ∧ 0 ≤ (S 1024 0) ∧ ((S 1021 0) = 0 → 0 ≤ (S 1023 0) ∧ (S 1023 0) ≤ 20 ∧ (S 1031 0) ≤ 3 * (S 1023 0) + 5 ∧ (S 1024 0) ≤ 2 * (S 1020 0) ∧ (S 1044 0) ≤ (S 1023 0) ∧ (S 1045 0) ≤ (S 1023 0)) ∧ (S 1021 0) = 0 ∧ (S 6 (S 1020 0)) = 2) → (30 * (20 - (S 1023 0)) + 8) = d → sv_T sm_XS sm_cs sm_L sm_sh (30 * (20 - (S 1023 0)) + 8).toNat (q_function p1 S) 62 0 (lv_args 0 [.ref 0, sv_I p1]) [] S
def q_parts (p1 : Int) (S : sv_S) : Option Value → sv_S → Prop := fun v S' => ∃ r : Int, v = some (sv_I r) ∧ sv_R r ∧ sm_ok S' ∧ sv_mod [1020, 1021, 1022, 1023, 5, 1011, 3, 4, 1007, 1009, 11, 12, 13, 14, 1024, 15, 16, 1031, 1032, 17, 18, 19, 20, 21, 22, 23, 24, 25, 1042, 1043, 1044, 1045, 1100001, 1100002, 1100005, 1100003, 1100004, 1100018] S S' ∧ ((S 1020 0) ≤ (S' 1020 0) ∧ (S' 1020 0) < (S' 1012 0) ∧ 0 ≤ (S' 1021 0) ∧ (0 < (S 1021 0) → 0 < (S' 1021 0)) ∧ (S 1007 0) ≤ (S' 1007 0) ∧ (S' 1007 0) ≤ 90 ∧ sm_LN (S' 4) (S' 1007 0) ∧ ((S 1009 0) = 1 → (S' 1009 0) = 1) ∧ ((S' 1021 0) = 0 → sm_WF (S' 11) (S' 12) (S' 13) (S' 1100001) (S' 1100002) (S' 1100005) (S' 1100003) (S' 1100004) (S' 1024 0) (S' 1007 0) (S' 1009 0) (S' 1032 0) ∧ sm_PX (S 11) (S 12) (S 13) (S 1100001) (S 1100002) (S 1100005) (S 1100003) (S 1100004) (S' 11) (S' 12) (S' 13) (S' 1100001) (S' 1100002) (S' 1100005) (S' 1100003) (S' 1100004) (S 1024 0)) ∧ sm_KL (S 15) (S 16) (S' 15) (S' 16) (S 1031 0) ∧ sm_HD (S' 23) (S' 24) (S' 1100018 0) (S' 1007 0) ∧ sm_HD (S' 25) (fun _ : Int => (S' 1042 0)) 1 (S' 1007 0) ∧ (S' 1031 0) = (S 1031 0) ∧ (S' 1043 0) = (S 1043 0) ∧ (S' 1044 0) = (S 1044 0) ∧ (S' 1045 0) = (S 1045 0) ∧ (S 1032 0) ≤ (S' 1032 0) ∧ (S' 1032 0) ≤ 1 + (S' 1020 0) ∧ (S' 1100018 0) = (S' 1032 0) ∧ (S 1024 0) ≤ (S' 1024 0) ∧ ((S' 1021 0) = 0 → (S' 1023 0) = (S 1023 0) ∧ (S' 1024 0) + 0 ≤ (S 1024 0) + 2 * ((S' 1020 0) - (S 1020 0))) ∧ (0 < (S' 1021 0) → (S' 1024 0) ≤ (S 1024 0) + 2 * ((S' 1020 0) - (S 1020 0)) + 2 * (30 * (20 - (S 1023 0)) + 28)) ∧ -1 ≤ r ∧ r < 12000 ∧ ((S' 1021 0) = 0 → sm_sl (S' 1100001) (S' 1100002) (S' 1100005) (S' 1100003) (S' 1100004) (S' 1024 0) 2 r (17 * (20 - (S 1023 0)) + 5) (20 - (S 1023 0)) (if 0 < (S 1044 0) then 1 else 0) (if 0 < (S 1044 0) + (S 1045 0) then 1 else 0)))
def T_parts (d : Int) : Prop := ∀ (p1 : Int) (S : sv_S), sm_ok S → (0 ≤ p1 ∧ p1 ≤ 1) → (0 ≤ (S 1020 0) ∧ (S 1020 0) < (S 1012 0) ∧ sm_TK (S 6) (S 8) (S 9) (S 10) (S 1012 0) ∧ 0 ≤ (S 1021 0) ∧ 0 ≤ (S 1004 0) ∧ (S 1004 0) ≤ 4000 ∧ 0 ≤ (S 1007 0) ∧ (S 1007 0) ≤ 90 ∧ sm_LN (S 4) (S 1007 0) ∧ ((S 1021 0) = 0 → sm_WF (S 11) (S 12) (S 13) (S 1100001) (S 1100002) (S 1100005) (S 1100003) (S 1100004) (S 1024 0) (S 1007 0) (S 1009 0) (S 1032 0)) ∧ sm_HD (S 23) (S 24) (S 1100018 0) (S 1007 0) ∧ sm_HD (S 25) (fun _ : Int => (S 1042 0)) 1 (S 1007 0) ∧ 0 ≤ (S 1043 0) ∧ (S 1043 0) < (S 1100018 0) ∧ (S 1100018 0) = (S 1032 0) ∧ (S 1032 0) ≤ 1 + (S 1020 0) ∧ 0 ≤ (S 1031 0) ∧ (S 1031 0) ≤ 100 ∧ 0 ≤ (S 1044 0) ∧ (S 1044 0) ≤ 30 ∧ 0 ≤ (S 1045 0) ∧ (S 1045 0) ≤ 30 ∧ 0 ≤ (S 1024 0) ∧ ((S 1021 0) = 0 → 0 ≤ (S 1023 0) ∧ (S 1023 0) ≤ 20 ∧ (S 1031 0) ≤ 3 * (S 1023 0) + 5 ∧ (S 1024 0) ≤ 2 * (S 1020 0) ∧ (S 1044 0) ≤ (S 1023 0) ∧ (S 1045 0) ≤ (S 1023 0)) ∧ (S 1021 0) = 0 ∧ (S 1031 0) + 1 ≤ 3 * (S 1023 0) + 5) → (30 * (20 - (S 1023 0)) + 28) = d → sv_T sm_XS sm_cs sm_L sm_sh (30 * (20 - (S 1023 0)) + 28).toNat (q_parts p1 S) 65 0 (lv_args 0 [.ref 0, sv_I p1]) [] S
def q_statement (S : sv_S) : Option Value → sv_S → Prop := fun v S' => ∃ r : Int, v = some (sv_I r) ∧ sv_R r ∧ sm_ok S' ∧ sv_mod [1020, 1021, 1022, 1023, 5, 1011, 3, 4, 1007, 1009, 11, 12, 13, 14, 1024, 15, 16, 1031, 1032, 17, 18, 19, 20, 21, 22, 23, 24, 25, 1042, 1043, 1044, 1045, 1100001, 1100002, 1100005, 1100003, 1100004, 1100018] S S' ∧ ((S 1020 0) ≤ (S' 1020 0) ∧ (S' 1020 0) < (S' 1012 0) ∧ 0 ≤ (S' 1021 0) ∧ (0 < (S 1021 0) → 0 < (S' 1021 0)) ∧ (S 1007 0) ≤ (S' 1007 0) ∧ (S' 1007 0) ≤ 90 ∧ sm_LN (S' 4) (S' 1007 0) ∧ ((S 1009 0) = 1 → (S' 1009 0) = 1) ∧ ((S' 1021 0) = 0 → sm_WF (S' 11) (S' 12) (S' 13) (S' 1100001) (S' 1100002) (S' 1100005) (S' 1100003) (S' 1100004) (S' 1024 0) (S' 1007 0) (S' 1009 0) (S' 1032 0) ∧ sm_PX (S 11) (S 12) (S 13) (S 1100001) (S 1100002) (S 1100005) (S 1100003) (S 1100004) (S' 11) (S' 12) (S' 13) (S' 1100001) (S' 1100002) (S' 1100005) (S' 1100003) (S' 1100004) (S 1024 0)) ∧ sm_KL (S 15) (S 16) (S' 15) (S' 16) (S 1031 0) ∧ sm_HD (S' 23) (S' 24) (S' 1100018 0) (S' 1007 0) ∧ sm_HD (S' 25) (fun _ : Int => (S' 1042 0)) 1 (S' 1007 0) ∧ (S' 1031 0) = (S 1031 0) ∧ (S' 1043 0) = (S 1043 0) ∧ (S' 1044 0) = (S 1044 0) ∧ (S' 1045 0) = (S 1045 0) ∧ (S 1032 0) ≤ (S' 1032 0) ∧ (S' 1032 0) ≤ 1 + (S' 1020 0) ∧ (S' 1100018 0) = (S' 1032 0) ∧ (S 1024 0) ≤ (S' 1024 0) ∧ ((S' 1021 0) = 0 → (S' 1023 0) = (S 1023 0) ∧ (S' 1024 0) + 0 ≤ (S 1024 0) + 2 * ((S' 1020 0) - (S 1020 0))) ∧ (0 < (S' 1021 0) → (S' 1024 0) ≤ (S 1024 0) + 2 * ((S' 1020 0) - (S 1020 0)) + 2 * ((if 0 < (S 1021 0) then 1 else 30 * (20 - (S 1023 0)) + 27))) ∧ -1 ≤ r ∧ r < 12000 ∧ ((S' 1021 0) = 0 → (S 1020 0) < (S' 1020 0) ∧ (S 1024 0) ≤ r ∧ sm_sx (S' 1100001) (S' 1100002) (S' 1100005) (S' 1100003) (S' 1100004) (S' 1024 0) 2 r (17 * (20 - (S 1023 0)) + 5) (20 - (S 1023 0)) (if 0 < (S 1044 0) then 1 else 0) (if 0 < (S 1044 0) + (S 1045 0) then 1 else 0) ∧ (S' 1100002 r) = (17 * (20 - (S 1023 0)) + 5) ∧ (S' 1100005 r) = (20 - (S 1023 0)) ∧ (S' 1100003 r) = (if 0 < (S 1044 0) then 1 else 0) ∧ (S' 1100004 r) = (if 0 < (S 1044 0) + (S 1045 0) then 1 else 0)) ∧ (0 < (S 1021 0) → (S' 1020 0) = (S 1020 0) ∧ (S' 1024 0) = (S 1024 0)))
def T_statement (d : Int) : Prop := ∀ (S : sv_S), sm_ok S → (0 ≤ (S 1020 0) ∧ (S 1020 0) < (S 1012 0) ∧ sm_TK (S 6) (S 8) (S 9) (S 10) (S 1012 0) ∧ 0 ≤ (S 1021 0) ∧ 0 ≤ (S 1004 0) ∧ (S 1004 0) ≤ 4000 ∧ 0 ≤ (S 1007 0) ∧ (S 1007 0) ≤ 90 ∧ sm_LN (S 4) (S 1007 0) ∧ ((S 1021 0) = 0 → sm_WF (S 11) (S 12) (S 13) (S 1100001) (S 1100002) (S 1100005) (S 1100003) (S 1100004) (S 1024 0) (S 1007 0) (S 1009 0) (S 1032 0)) ∧ sm_HD (S 23) (S 24) (S 1100018 0) (S 1007 0) ∧ sm_HD (S 25) (fun _ : Int => (S 1042 0)) 1 (S 1007 0) ∧ 0 ≤ (S 1043 0) ∧ (S 1043 0) < (S 1100018 0) ∧ (S 1100018 0) = (S 1032 0) ∧ (S 1032 0) ≤ 1 + (S 1020 0) ∧ 0 ≤ (S 1031 0) ∧ (S 1031 0) ≤ 100 ∧ 0 ≤ (S 1044 0) ∧ (S 1044 0) ≤ 30 ∧ 0 ≤ (S 1045 0) ∧ (S 1045 0) ≤ 30 ∧ 0 ≤ (S 1024 0) ∧ ((S 1021 0) = 0 → 0 ≤ (S 1023 0) ∧ (S 1023 0) ≤ 20 ∧ (S 1031 0) ≤ 3 * (S 1023 0) + 5 ∧ (S 1024 0) ≤ 2 * (S 1020 0) ∧ (S 1044 0) ≤ (S 1023 0) ∧ (S 1045 0) ≤ (S 1023 0))) → ((if 0 < (S 1021 0) then 1 else 30 * (20 - (S 1023 0)) + 27)) = d → sv_T sm_XS sm_cs sm_L sm_sh ((if 0 < (S 1021 0) then 1 else 30 * (20 - (S 1023 0)) + 27)).toNat (q_statement S) 67 0 (lv_args 0 [.ref 0]) [] S
def q_statementBody (S : sv_S) : Option Value → sv_S → Prop := fun v S' => ∃ r : Int, v = some (sv_I r) ∧ sv_R r ∧ sm_ok S' ∧ sv_mod [1020, 1021, 1022, 1023, 5, 1011, 3, 4, 1007, 1009, 11, 12, 13, 14, 1024, 15, 16, 1031, 1032, 17, 18, 19, 20, 21, 22, 23, 24, 25, 1042, 1043, 1044, 1045, 1100001, 1100002, 1100005, 1100003, 1100004, 1100018] S S' ∧ ((S 1020 0) ≤ (S' 1020 0) ∧ (S' 1020 0) < (S' 1012 0) ∧ 0 ≤ (S' 1021 0) ∧ (0 < (S 1021 0) → 0 < (S' 1021 0)) ∧ (S 1007 0) ≤ (S' 1007 0) ∧ (S' 1007 0) ≤ 90 ∧ sm_LN (S' 4) (S' 1007 0) ∧ ((S 1009 0) = 1 → (S' 1009 0) = 1) ∧ ((S' 1021 0) = 0 → sm_WF (S' 11) (S' 12) (S' 13) (S' 1100001) (S' 1100002) (S' 1100005) (S' 1100003) (S' 1100004) (S' 1024 0) (S' 1007 0) (S' 1009 0) (S' 1032 0) ∧ sm_PX (S 11) (S 12) (S 13) (S 1100001) (S 1100002) (S 1100005) (S 1100003) (S 1100004) (S' 11) (S' 12) (S' 13) (S' 1100001) (S' 1100002) (S' 1100005) (S' 1100003) (S' 1100004) (S 1024 0)) ∧ sm_KL (S 15) (S 16) (S' 15) (S' 16) (S 1031 0) ∧ sm_HD (S' 23) (S' 24) (S' 1100018 0) (S' 1007 0) ∧ sm_HD (S' 25) (fun _ : Int => (S' 1042 0)) 1 (S' 1007 0) ∧ (S' 1031 0) = (S 1031 0) ∧ (S' 1043 0) = (S 1043 0) ∧ (S' 1044 0) = (S 1044 0) ∧ (S' 1045 0) = (S 1045 0) ∧ (S 1032 0) ≤ (S' 1032 0) ∧ (S' 1032 0) ≤ 1 + (S' 1020 0) ∧ (S' 1100018 0) = (S' 1032 0) ∧ (S 1024 0) ≤ (S' 1024 0) ∧ ((S' 1021 0) = 0 → (S' 1023 0) = (S 1023 0) ∧ (S' 1024 0) + 0 ≤ (S 1024 0) + 2 * ((S' 1020 0) - (S 1020 0))) ∧ (0 < (S' 1021 0) → (S' 1024 0) ≤ (S 1024 0) + 2 * ((S' 1020 0) - (S 1020 0)) + 2 * (30 * (20 - (S 1023 0)) + 31)) ∧ -1 ≤ r ∧ r < 12000 ∧ ((S' 1021 0) = 0 → (S 1020 0) < (S' 1020 0) ∧ (S 1024 0) ≤ r ∧ sm_sx (S' 1100001) (S' 1100002) (S' 1100005) (S' 1100003) (S' 1100004) (S' 1024 0) 2 r (17 * (21 - (S 1023 0)) + 5) (21 - (S 1023 0)) (if 0 < (S 1044 0) then 1 else 0) (if 0 < (S 1044 0) + (S 1045 0) then 1 else 0) ∧ (S' 1100002 r) = (17 * (21 - (S 1023 0)) + 5) ∧ (S' 1100005 r) = (21 - (S 1023 0)) ∧ (S' 1100003 r) = (if 0 < (S 1044 0) then 1 else 0) ∧ (S' 1100004 r) = (if 0 < (S 1044 0) + (S 1045 0) then 1 else 0)))
def T_statementBody (d : Int) : Prop := ∀ (S : sv_S), sm_ok S → (0 ≤ (S 1020 0) ∧ (S 1020 0) < (S 1012 0) ∧ sm_TK (S 6) (S 8) (S 9) (S 10) (S 1012 0) ∧ 0 ≤ (S 1021 0) ∧ 0 ≤ (S 1004 0) ∧ (S 1004 0) ≤ 4000 ∧ 0 ≤ (S 1007 0) ∧ (S 1007 0) ≤ 90 ∧ sm_LN (S 4) (S 1007 0) ∧ ((S 1021 0) = 0 → sm_WF (S 11) (S 12) (S 13) (S 1100001) (S 1100002) (S 1100005) (S 1100003) (S 1100004) (S 1024 0) (S 1007 0) (S 1009 0) (S 1032 0)) ∧ sm_HD (S 23) (S 24) (S 1100018 0) (S 1007 0) ∧ sm_HD (S 25) (fun _ : Int => (S 1042 0)) 1 (S 1007 0) ∧ 0 ≤ (S 1043 0) ∧ (S 1043 0) < (S 1100018 0) ∧ (S 1100018 0) = (S 1032 0) ∧ (S 1032 0) ≤ 1 + (S 1020 0) ∧ 0 ≤ (S 1031 0) ∧ (S 1031 0) ≤ 100 ∧ 0 ≤ (S 1044 0) ∧ (S 1044 0) ≤ 30 ∧ 0 ≤ (S 1045 0) ∧ (S 1045 0) ≤ 30 ∧ 0 ≤ (S 1024 0) ∧ ((S 1021 0) = 0 → 0 ≤ (S 1023 0) ∧ (S 1023 0) ≤ 20 ∧ (S 1031 0) ≤ 3 * (S 1023 0) + 5 ∧ (S 1024 0) ≤ 2 * (S 1020 0) ∧ (S 1044 0) ≤ (S 1023 0) ∧ (S 1045 0) ≤ (S 1023 0)) ∧ (S 1021 0) = 0 ∧ 1 ≤ (S 1023 0) ∧ (S 1044 0) + 1 ≤ (S 1023 0) ∧ (S 1045 0) + 1 ≤ (S 1023 0) ∧ (S 1031 0) ≤ 3 * (S 1023 0) + 2 ∧ 1 ≤ (S 6 (S 1020 0)) ∧ (S 6 (S 1020 0)) ≤ 5 ∧ ((S 6 (S 1020 0)) = 2 ∧ (S 7 (S 1020 0)) = 0 → 0 < (S 1044 0) + (S 1045 0)) ∧ ((S 6 (S 1020 0)) = 2 ∧ (S 7 (S 1020 0)) = 3 → 0 < (S 1044 0))) → (30 * (20 - (S 1023 0)) + 31) = d → sv_T sm_XS sm_cs sm_L sm_sh (30 * (20 - (S 1023 0)) + 31).toNat (q_statementBody S) 68 0 (lv_args 0 [.ref 0]) [] S
def q_plain (S : sv_S) : Option Value → sv_S → Prop := fun v S' => ∃ r : Int, v = some (sv_I r) ∧ sv_R r ∧ sm_ok S' ∧ sv_mod [1020, 1021, 1022, 1023, 5, 1011, 3, 4, 1007, 1009, 11, 12, 13, 14, 1024, 15, 16, 1031, 1032, 17, 18, 19, 20, 21, 22, 23, 24, 25, 1042, 1043, 1044, 1045, 1100001, 1100002, 1100005, 1100003, 1100004, 1100018] S S' ∧ ((S 1020 0) ≤ (S' 1020 0) ∧ (S' 1020 0) < (S' 1012 0) ∧ 0 ≤ (S' 1021 0) ∧ (0 < (S 1021 0) → 0 < (S' 1021 0)) ∧ (S 1007 0) ≤ (S' 1007 0) ∧ (S' 1007 0) ≤ 90 ∧ sm_LN (S' 4) (S' 1007 0) ∧ ((S 1009 0) = 1 → (S' 1009 0) = 1) ∧ ((S' 1021 0) = 0 → sm_WF (S' 11) (S' 12) (S' 13) (S' 1100001) (S' 1100002) (S' 1100005) (S' 1100003) (S' 1100004) (S' 1024 0) (S' 1007 0) (S' 1009 0) (S' 1032 0) ∧ sm_PX (S 11) (S 12) (S 13) (S 1100001) (S 1100002) (S 1100005) (S 1100003) (S 1100004) (S' 11) (S' 12) (S' 13) (S' 1100001) (S' 1100002) (S' 1100005) (S' 1100003) (S' 1100004) (S 1024 0)) ∧ sm_KL (S 15) (S 16) (S' 15) (S' 16) (S 1031 0) ∧ sm_HD (S' 23) (S' 24) (S' 1100018 0) (S' 1007 0) ∧ sm_HD (S' 25) (fun _ : Int => (S' 1042 0)) 1 (S' 1007 0) ∧ (S' 1031 0) = (S 1031 0) ∧ (S' 1043 0) = (S 1043 0) ∧ (S' 1044 0) = (S 1044 0) ∧ (S' 1045 0) = (S 1045 0) ∧ (S 1032 0) ≤ (S' 1032 0) ∧ (S' 1032 0) ≤ 1 + (S' 1020 0) ∧ (S' 1100018 0) = (S' 1032 0) ∧ (S 1024 0) ≤ (S' 1024 0) ∧ ((S' 1021 0) = 0 → (S' 1023 0) = (S 1023 0) ∧ (S' 1024 0) + 0 ≤ (S 1024 0) + 2 * ((S' 1020 0) - (S 1020 0))) ∧ (0 < (S' 1021 0) → (S' 1024 0) ≤ (S 1024 0) + 2 * ((S' 1020 0) - (S 1020 0)) + 2 * (30 * (20 - (S 1023 0)) + 28)) ∧ -1 ≤ r ∧ r < 12000 ∧ ((S' 1021 0) = 0 → (S 1020 0) < (S' 1020 0) ∧ (S 1024 0) ≤ r ∧ sm_sx (S' 1100001) (S' 1100002) (S' 1100005) (S' 1100003) (S' 1100004) (S' 1024 0) 2 r (17 * (21 - (S 1023 0)) + 5) (21 - (S 1023 0)) (if 0 < (S 1044 0) then 1 else 0) (if 0 < (S 1044 0) + (S 1045 0) then 1 else 0) ∧ (S' 1100002 r) = (17 * (21 - (S 1023 0)) + 5) ∧ (S' 1100005 r) = (21 - (S 1023 0)) ∧ (S' 1100003 r) = (if 0 < (S 1044 0) then 1 else 0) ∧ (S' 1100004 r) = (if 0 < (S 1044 0) + (S 1045 0) then 1 else 0)))
def T_plain (d : Int) : Prop := ∀ (S : sv_S), sm_ok S → (0 ≤ (S 1020 0) ∧ (S 1020 0) < (S 1012 0) ∧ sm_TK (S 6) (S 8) (S 9) (S 10) (S 1012 0) ∧ 0 ≤ (S 1021 0) ∧ 0 ≤ (S 1004 0) ∧ (S 1004 0) ≤ 4000 ∧ 0 ≤ (S 1007 0) ∧ (S 1007 0) ≤ 90 ∧ sm_LN (S 4) (S 1007 0) ∧ ((S 1021 0) = 0 → sm_WF (S 11) (S 12) (S 13) (S 1100001) (S 1100002) (S 1100005) (S 1100003) (S 1100004) (S 1024 0) (S 1007 0) (S 1009 0) (S 1032 0)) ∧ sm_HD (S 23) (S 24) (S 1100018 0) (S 1007 0) ∧ sm_HD (S 25) (fun _ : Int => (S 1042 0)) 1 (S 1007 0) ∧ 0 ≤ (S 1043 0) ∧ (S 1043 0) < (S 1100018 0) ∧ (S 1100018 0) = (S 1032 0) ∧ (S 1032 0) ≤ 1 + (S 1020 0) ∧ 0 ≤ (S 1031 0) ∧ (S 1031 0) ≤ 100 ∧ 0 ≤ (S 1044 0) ∧ (S 1044 0) ≤ 30 ∧ 0 ≤ (S 1045 0) ∧ (S 1045 0) ≤ 30 ∧ 0 ≤ (S 1024 0) ∧ ((S 1021 0) = 0 → 0 ≤ (S 1023 0) ∧ (S 1023 0) ≤ 20 ∧ (S 1031 0) ≤ 3 * (S 1023 0) + 5 ∧ (S 1024 0) ≤ 2 * (S 1020 0) ∧ (S 1044 0) ≤ (S 1023 0) ∧ (S 1045 0) ≤ (S 1023 0)) ∧ (S 1021 0) = 0 ∧ 1 ≤ (S 1023 0)) → (30 * (20 - (S 1023 0)) + 28) = d → sv_T sm_XS sm_cs sm_L sm_sh (30 * (20 - (S 1023 0)) + 28).toNat (q_plain S) 69 0 (lv_args 0 [.ref 0]) [] S
def q_block (S : sv_S) : Option Value → sv_S → Prop := fun v S' => ∃ r : Int, v = some (sv_I r) ∧ sv_R r ∧ sm_ok S' ∧ sv_mod [1020, 1021, 1022, 1023, 5, 1011, 3, 4, 1007, 1009, 11, 12, 13, 14, 1024, 15, 16, 1031, 1032, 17, 18, 19, 20, 21, 22, 23, 24, 25, 1042, 1043, 1044, 1045, 1100001, 1100002, 1100005, 1100003, 1100004, 1100018] S S' ∧ ((S 1020 0) ≤ (S' 1020 0) ∧ (S' 1020 0) < (S' 1012 0) ∧ 0 ≤ (S' 1021 0) ∧ (0 < (S 1021 0) → 0 < (S' 1021 0)) ∧ (S 1007 0) ≤ (S' 1007 0) ∧ (S' 1007 0) ≤ 90 ∧ sm_LN (S' 4) (S' 1007 0) ∧ ((S 1009 0) = 1 → (S' 1009 0) = 1) ∧ ((S' 1021 0) = 0 → sm_WF (S' 11) (S' 12) (S' 13) (S' 1100001) (S' 1100002) (S' 1100005) (S' 1100003) (S' 1100004) (S' 1024 0) (S' 1007 0) (S' 1009 0) (S' 1032 0) ∧ sm_PX (S 11) (S 12) (S 13) (S 1100001) (S 1100002) (S 1100005) (S 1100003) (S 1100004) (S' 11) (S' 12) (S' 13) (S' 1100001) (S' 1100002) (S' 1100005) (S' 1100003) (S' 1100004) (S 1024 0)) ∧ sm_KL (S 15) (S 16) (S' 15) (S' 16) (S 1031 0) ∧ sm_HD (S' 23) (S' 24) (S' 1100018 0) (S' 1007 0) ∧ sm_HD (S' 25) (fun _ : Int => (S' 1042 0)) 1 (S' 1007 0) ∧ (S' 1031 0) = (S 1031 0) ∧ (S' 1043 0) = (S 1043 0) ∧ (S' 1044 0) = (S 1044 0) ∧ (S' 1045 0) = (S 1045 0) ∧ (S 1032 0) ≤ (S' 1032 0) ∧ (S' 1032 0) ≤ 1 + (S' 1020 0) ∧ (S' 1100018 0) = (S' 1032 0) ∧ (S 1024 0) ≤ (S' 1024 0) ∧ ((S' 1021 0) = 0 → (S' 1023 0) = (S 1023 0) ∧ (S' 1024 0) + 2 ≤ (S 1024 0) + 2 * ((S' 1020 0) - (S 1020 0))) ∧ (0 < (S' 1021 0) → (S' 1024 0) ≤ (S 1024 0) + 2 * ((S' 1020 0) - (S 1020 0)) + 2 * ((if 0 < (S 1021 0) then 4 else 30 * (20 - (S 1023 0)) + 28))) ∧ -1 ≤ r ∧ r < 12000 ∧ ((S' 1021 0) = 0 → (S 1020 0) < (S' 1020 0) ∧ sm_sl (S' 1100001) (S' 1100002) (S' 1100005) (S' 1100003) (S' 1100004) (S' 1024 0) 2 r (17 * (20 - (S 1023 0)) + 5) (20 - (S 1023 0)) (if 0 < (S 1044 0) then 1 else 0) (if 0 < (S 1044 0) + (S 1045 0) then 1 else 0)))
def T_block (d : Int) : Prop := ∀ (S : sv_S), sm_ok S → (0 ≤ (S 1020 0) ∧ (S 1020 0) < (S 1012 0) ∧ sm_TK (S 6) (S 8) (S 9) (S 10) (S 1012 0) ∧ 0 ≤ (S 1021 0) ∧ 0 ≤ (S 1004 0) ∧ (S 1004 0) ≤ 4000 ∧ 0 ≤ (S 1007 0) ∧ (S 1007 0) ≤ 90 ∧ sm_LN (S 4) (S 1007 0) ∧ ((S 1021 0) = 0 → sm_WF (S 11) (S 12) (S 13) (S 1100001) (S 1100002) (S 1100005) (S 1100003) (S 1100004) (S 1024 0) (S 1007 0) (S 1009 0) (S 1032 0)) ∧ sm_HD (S 23) (S 24) (S 1100018 0) (S 1007 0) ∧ sm_HD (S 25) (fun _ : Int => (S 1042 0)) 1 (S 1007 0) ∧ 0 ≤ (S 1043 0) ∧ (S 1043 0) < (S 1100018 0) ∧ (S 1100018 0) = (S 1032 0) ∧ (S 1032 0) ≤ 1 + (S 1020 0) ∧ 0 ≤ (S 1031 0) ∧ (S 1031 0) ≤ 100 ∧ 0 ≤ (S 1044 0) ∧ (S 1044 0) ≤ 30 ∧ 0 ≤ (S 1045 0) ∧ (S 1045 0) ≤ 30 ∧ 0 ≤ (S 1024 0) ∧ ((S 1021 0) = 0 → 0 ≤ (S 1023 0) ∧ (S 1023 0) ≤ 20 ∧ (S 1031 0) ≤ 3 * (S 1023 0) + 5 ∧ (S 1024 0) ≤ 2 * (S 1020 0) ∧ (S 1044 0) ≤ (S 1023 0) ∧ (S 1045 0) ≤ (S 1023 0)) ∧ (S 1031 0) ≤ 99 ∧ ((S 1021 0) = 0 → (S 1031 0) + 1 ≤ 3 * (S 1023 0) + 5)) → ((if 0 < (S 1021 0) then 4 else 30 * (20 - (S 1023 0)) + 28)) = d → sv_T sm_XS sm_cs sm_L sm_sh ((if 0 < (S 1021 0) then 4 else 30 * (20 - (S 1023 0)) + 28)).toNat (q_block S) 70 0 (lv_args 0 [.ref 0]) [] S
def q_declarations (p1 : Int) (S : sv_S) : Option Value → sv_S → Prop := fun v S' => ∃ r : Int, v = some (sv_I r) ∧ sv_R r ∧ sm_ok S' ∧ sv_mod [1020, 1021, 1022, 1023, 5, 1011, 3, 4, 1007, 1009, 11, 12, 13, 14, 1024, 15, 16, 1031, 1032, 17, 18, 19, 20, 21, 22, 23, 24, 25, 1042, 1043, 1044, 1045, 1100001, 1100002, 1100005, 1100003, 1100004, 1100018] S S' ∧ ((S 1020 0) ≤ (S' 1020 0) ∧ (S' 1020 0) < (S' 1012 0) ∧ 0 ≤ (S' 1021 0) ∧ (0 < (S 1021 0) → 0 < (S' 1021 0)) ∧ (S 1007 0) ≤ (S' 1007 0) ∧ (S' 1007 0) ≤ 90 ∧ sm_LN (S' 4) (S' 1007 0) ∧ ((S 1009 0) = 1 → (S' 1009 0) = 1) ∧ ((S' 1021 0) = 0 → sm_WF (S' 11) (S' 12) (S' 13) (S' 1100001) (S' 1100002) (S' 1100005) (S' 1100003) (S' 1100004) (S' 1024 0) (S' 1007 0) (S' 1009 0) (S' 1032 0) ∧ sm_PX (S 11) (S 12) (S 13) (S 1100001) (S 1100002) (S 1100005) (S 1100003) (S 1100004) (S' 11) (S' 12) (S' 13) (S' 1100001) (S' 1100002) (S' 1100005) (S' 1100003) (S' 1100004) (S 1024 0)) ∧ sm_KL (S 15) (S 16) (S' 15) (S' 16) (S 1031 0) ∧ sm_HD (S' 23) (S' 24) (S' 1100018 0) (S' 1007 0) ∧ sm_HD (S' 25) (fun _ : Int => (S' 1042 0)) 1 (S' 1007 0) ∧ (S' 1031 0) = (S 1031 0) ∧ (S' 1043 0) = (S 1043 0) ∧ (S' 1044 0) = (S 1044 0) ∧ (S' 1045 0) = (S 1045 0) ∧ (S 1032 0) ≤ (S' 1032 0) ∧ (S' 1032 0) ≤ 1 + (S' 1020 0) ∧ (S' 1100018 0) = (S' 1032 0) ∧ (S 1024 0) ≤ (S' 1024 0) ∧ ((S' 1021 0) = 0 → (S' 1023 0) = (S 1023 0) ∧ (S' 1024 0) + 2 ≤ (S 1024 0) + 2 * ((S' 1020 0) - (S 1020 0))) ∧ (0 < (S' 1021 0) → (S' 1024 0) ≤ (S 1024 0) + 2 * ((S' 1020 0) - (S 1020 0)) + 2 * (30 * (20 - (S 1023 0)) + 28)) ∧ 0 ≤ r ∧ r < (S' 1024 0) ∧ (S 1024 0) ≤ r ∧ r < 12000 ∧ ((S' 1021 0) = 0 → (S 1020 0) < (S' 1020 0) ∧ (S' 1100001 r) = 0 ∧ (S' 11 r) = 21 ∧ (S' 13 r) = -1 ∧ sm_li (S' 1100001) (S' 1100002) (S' 1100005) (S' 1024 0) 5 ((S' 12 (5 * r))) (17 * (20 - (S 1023 0))) (20 - (S 1023 0))))
def T_declarations (d : Int) : Prop := ∀ (p1 : Int) (S : sv_S), sm_ok S → (0 ≤ p1 ∧ p1 ≤ 1) → (0 ≤ (S 1020 0) ∧ (S 1020 0) < (S 1012 0) ∧ sm_TK (S 6) (S 8) (S 9) (S 10) (S 1012 0) ∧ 0 ≤ (S 1021 0) ∧ 0 ≤ (S 1004 0) ∧ (S 1004 0) ≤ 4000 ∧ 0 ≤ (S 1007 0) ∧ (S 1007 0) ≤ 90 ∧ sm_LN (S 4) (S 1007 0) ∧ ((S 1021 0) = 0 → sm_WF (S 11) (S 12) (S 13) (S 1100001) (S 1100002) (S 1100005) (S 1100003) (S 1100004) (S 1024 0) (S 1007 0) (S 1009 0) (S 1032 0)) ∧ sm_HD (S 23) (S 24) (S 1100018 0) (S 1007 0) ∧ sm_HD (S 25) (fun _ : Int => (S 1042 0)) 1 (S 1007 0) ∧ 0 ≤ (S 1043 0) ∧ (S 1043 0) < (S 1100018 0) ∧ (S 1100018 0) = (S 1032 0) ∧ (S 1032 0) ≤ 1 + (S 1020 0) ∧ 0 ≤ (S 1031 0) ∧ (S 1031 0) ≤ 100 ∧ 0 ≤ (S 1044 0) ∧ (S 1044 0) ≤ 30 ∧ 0 ≤ (S 1045 0) ∧ (S 1045 0) ≤ 30 ∧ 0 ≤ (S 1024 0) ∧ ((S 1021 0) = 0 → 0 ≤ (S 1023 0) ∧ (S 1023 0) ≤ 20 ∧ (S 1031 0) ≤ 3 * (S 1023 0) + 5 ∧ (S 1024 0) ≤ 2 * (S 1020 0) ∧ (S 1044 0) ≤ (S 1023 0) ∧ (S 1045 0) ≤ (S 1023 0)) ∧ (S 1021 0) = 0 ∧ (S 1031 0) + 1 ≤ 3 * (S 1023 0) + 5 ∧ 1 ≤ (S 6 (S 1020 0)) ∧ (S 6 (S 1020 0)) ≤ 5) → (30 * (20 - (S 1023 0)) + 28) = d → sv_T sm_XS sm_cs sm_L sm_sh (30 * (20 - (S 1023 0)) + 28).toNat (q_declarations p1 S) 71 0 (lv_args 0 [.ref 0, sv_I p1]) [] S
def q_condition (S : sv_S) : Option Value → sv_S → Prop := fun v S' => ∃ r : Int, v = some (sv_I r) ∧ sv_R r ∧ sm_ok S' ∧ sv_mod [1020, 1021, 1022, 1023, 5, 1011, 3, 4, 1007, 1009, 11, 12, 13, 14, 1024, 15, 16, 1031, 1032, 17, 18, 19, 20, 21, 22, 23, 24, 25, 1042, 1043, 1044, 1045, 1100001, 1100002, 1100005, 1100003, 1100004, 1100018] S S' ∧ ((S 1020 0) ≤ (S' 1020 0) ∧ (S' 1020 0) < (S' 1012 0) ∧ 0 ≤ (S' 1021 0) ∧ (0 < (S 1021 0) → 0 < (S' 1021 0)) ∧ (S 1007 0) ≤ (S' 1007 0) ∧ (S' 1007 0) ≤ 90 ∧ sm_LN (S' 4) (S' 1007 0) ∧ ((S 1009 0) = 1 → (S' 1009 0) = 1) ∧ ((S' 1021 0) = 0 → sm_WF (S' 11) (S' 12) (S' 13) (S' 1100001) (S' 1100002) (S' 1100005) (S' 1100003) (S' 1100004) (S' 1024 0) (S' 1007 0) (S' 1009 0) (S' 1032 0) ∧ sm_PX (S 11) (S 12) (S 13) (S 1100001) (S 1100002) (S 1100005) (S 1100003) (S 1100004) (S' 11) (S' 12) (S' 13) (S' 1100001) (S' 1100002) (S' 1100005) (S' 1100003) (S' 1100004) (S 1024 0)) ∧ sm_KL (S 15) (S 16) (S' 15) (S' 16) (S 1031 0) ∧ sm_HD (S' 23) (S' 24) (S' 1100018 0) (S' 1007 0) ∧ sm_HD (S' 25) (fun _ : Int => (S' 1042 0)) 1 (S' 1007 0) ∧ (S' 1031 0) = (S 1031 0) ∧ (S' 1043 0) = (S 1043 0) ∧ (S' 1044 0) = (S 1044 0) ∧ (S' 1045 0) = (S 1045 0) ∧ (S 1032 0) ≤ (S' 1032 0) ∧ (S' 1032 0) ≤ 1 + (S' 1020 0) ∧ (S' 1100018 0) = (S' 1032 0) ∧ (S 1024 0) ≤ (S' 1024 0) ∧ ((S' 1021 0) = 0 → (S' 1023 0) = (S 1023 0) ∧ (S' 1024 0) + 1 ≤ (S 1024 0) + 2 * ((S' 1020 0) - (S 1020 0))) ∧ (0 < (S' 1021 0) → (S' 1024 0) ≤ (S 1024 0) + 2 * ((S' 1020 0) - (S 1020 0)) + 2 * (30 * (20 - (S 1023 0)) + 27)) ∧ -1 ≤ r ∧ r < 12000 ∧ ((S' 1021 0) = 0 → (S 1020 0) < (S' 1020 0) ∧ sm_ex (S' 1100001) (S' 1100002) (S' 1100005) (S' 1024 0) 1 r (17 * (20 - (S 1023 0)) + 17) (20 - (S 1023 0))))
def T_condition (d : Int) : Prop := ∀ (S : sv_S), sm_ok S → (0 ≤ (S 1020 0) ∧ (S 1020 0) < (S 1012 0) ∧ sm_TK (S 6) (S 8) (S 9) (S 10) (S 1012 0) ∧ 0 ≤ (S 1021 0) ∧ 0 ≤ (S 1004 0) ∧ (S 1004 0) ≤ 4000 ∧ 0 ≤ (S 1007 0) ∧ (S 1007 0) ≤ 90 ∧ sm_LN (S 4) (S 1007 0) ∧ ((S 1021 0) = 0 → sm_WF (S 11) (S 12) (S 13) (S 1100001) (S 1100002) (S 1100005) (S 1100003) (S 1100004) (S 1024 0) (S 1007 0) (S 1009 0) (S 1032 0)) ∧ sm_HD (S 23) (S 24) (S 1100018 0) (S 1007 0) ∧ sm_HD (S 25) (fun _ : Int => (S 1042 0)) 1 (S 1007 0) ∧ 0 ≤ (S 1043 0) ∧ (S 1043 0) < (S 1100018 0) ∧ (S 1100018 0) = (S 1032 0) ∧ (S 1032 0) ≤ 1 + (S 1020 0) ∧ 0 ≤ (S 1031 0) ∧ (S 1031 0) ≤ 100 ∧ 0 ≤ (S 1044 0) ∧ (S 1044 0) ≤ 30 ∧ 0 ≤ (S 1045 0) ∧ (S 1045 0) ≤ 30 ∧ 0 ≤ (S 1024 0) ∧ ((S 1021 0) = 0 → 0 ≤ (S 1023 0) ∧ (S 1023 0) ≤ 20 ∧ (S 1031 0) ≤ 3 * (S 1023 0) + 5 ∧ (S 1024 0) ≤ 2 * (S 1020 0) ∧ (S 1044 0) ≤ (S 1023 0) ∧ (S 1045 0) ≤ (S 1023 0)) ∧ (S 1021 0) = 0) → (30 * (20 - (S 1023 0)) + 27) = d → sv_T sm_XS sm_cs sm_L sm_sh (30 * (20 - (S 1023 0)) + 27).toNat (q_condition S) 72 0 (lv_args 0 [.ref 0]) [] S
def q_looped (S : sv_S) : Option Value → sv_S → Prop := fun v S' => ∃ r : Int, v = some (sv_I r) ∧ sv_R r ∧ sm_ok S' ∧ sv_mod [1020, 1021, 1022, 1023, 5, 1011, 3, 4, 1007, 1009, 11, 12, 13, 14, 1024, 15, 16, 1031, 1032, 17, 18, 19, 20, 21, 22, 23, 24, 25, 1042, 1043, 1044, 1045, 1100001, 1100002, 1100005, 1100003, 1100004, 1100018] S S' ∧ ((S 1020 0) ≤ (S' 1020 0) ∧ (S' 1020 0) < (S' 1012 0) ∧ 0 ≤ (S' 1021 0) ∧ (0 < (S 1021 0) → 0 < (S' 1021 0)) ∧ (S 1007 0) ≤ (S' 1007 0) ∧ (S' 1007 0) ≤ 90 ∧ sm_LN (S' 4) (S' 1007 0) ∧ ((S 1009 0) = 1 → (S' 1009 0) = 1) ∧ ((S' 1021 0) = 0 → sm_WF (S' 11) (S' 12) (S' 13) (S' 1100001) (S' 1100002) (S' 1100005) (S' 1100003) (S' 1100004) (S' 1024 0) (S' 1007 0) (S' 1009 0) (S' 1032 0) ∧ sm_PX (S 11) (S 12) (S 13) (S 1100001) (S 1100002) (S 1100005) (S 1100003) (S 1100004) (S' 11) (S' 12) (S' 13) (S' 1100001) (S' 1100002) (S' 1100005) (S' 1100003) (S' 1100004) (S 1024 0)) ∧ sm_KL (S 15) (S 16) (S' 15) (S' 16) (S 1031 0) ∧ sm_HD (S' 23) (S' 24) (S' 1100018 0) (S' 1007 0) ∧ sm_HD (S' 25) (fun _ : Int => (S' 1042 0)) 1 (S' 1007 0) ∧ (S' 1031 0) = (S 1031 0) ∧ (S' 1043 0) = (S 1043 0) ∧ (S' 1044 0) = (S 1044 0) ∧ (S' 1045 0) = (S 1045 0) ∧ (S 1032 0) ≤ (S' 1032 0) ∧ (S' 1032 0) ≤ 1 + (S' 1020 0) ∧ (S' 1100018 0) = (S' 1032 0) ∧ (S 1024 0) ≤ (S' 1024 0) ∧ ((S' 1021 0) = 0 → (S' 1023 0) = (S 1023 0) ∧ (S' 1024 0) + 0 ≤ (S 1024 0) + 2 * ((S' 1020 0) - (S 1020 0))) ∧ (0 < (S' 1021 0) → (S' 1024 0) ≤ (S 1024 0) + 2 * ((S' 1020 0) - (S 1020 0)) + 2 * ((if 0 < (S 1021 0) then 3 else 30 * (20 - (S 1023 0)) + 28))) ∧ -1 ≤ r ∧ r < 12000 ∧ ((S' 1021 0) = 0 → (S 1020 0) < (S' 1020 0) ∧ sm_sx (S' 1100001) (S' 1100002) (S' 1100005) (S' 1100003) (S' 1100004) (S' 1024 0) 2 r (17 * (20 - (S 1023 0)) + 5) (20 - (S 1023 0)) 1 1) ∧ (0 < (S 1021 0) → (S' 1020 0) = (S 1020 0) ∧ (S' 1024 0) = (S 1024 0)))
def T_looped (d : Int) : Prop := ∀ (S : sv_S), sm_ok S → (0 ≤ (S 1020 0) ∧ (S 1020 0) < (S 1012 0) ∧ sm_TK (S 6) (S 8) (S 9) (S 10) (S 1012 0) ∧ 0 ≤ (S 1021 0) ∧ 0 ≤ (S 1004 0) ∧ (S 1004 0) ≤ 4000 ∧ 0 ≤ (S 1007 0) ∧ (S 1007 0) ≤ 90 ∧ sm_LN (S 4) (S 1007 0) ∧ ((S 1021 0) = 0 → sm_WF (S 11) (S 12) (S 13) (S 1100001) (S 1100002) (S 1100005) (S 1100003) (S 1100004) (S 1024 0) (S 1007 0) (S 1009 0) (S 1032 0)) ∧ sm_HD (S 23) (S 24) (S 1100018 0) (S 1007 0) ∧ sm_HD (S 25) (fun _ : Int => (S 1042 0)) 1 (S 1007 0) ∧ 0 ≤ (S 1043 0) ∧ (S 1043 0) < (S 1100018 0) ∧ (S 1100018 0) = (S 1032 0) ∧ (S 1032 0) ≤ 1 + (S 1020 0) ∧ 0 ≤ (S 1031 0) ∧ (S 1031 0) ≤ 100 ∧ 0 ≤ (S 1044 0) ∧ (S 1044 0) ≤ 30 ∧ 0 ≤ (S 1045 0) ∧ (S 1045 0) ≤ 30 ∧ 0 ≤ (S 1024 0) ∧ ((S 1021 0) = 0 → 0 ≤ (S 1023 0) ∧ (S 1023 0) ≤ 20 ∧ (S 1031 0) ≤ 3 * (S 1023 0) + 5 ∧ (S 1024 0) ≤ 2 * (S 1020 0) ∧ (S 1044 0) ≤ (S 1023 0) ∧ (S 1045 0) ≤ (S 1023 0)) ∧ (S 1044 0) ≤ 29 ∧ ((S 1021 0) = 0 → (S 1044 0) + 1 ≤ (S 1023 0))) → ((if 0 < (S 1021 0) then 3 else 30 * (20 - (S 1023 0)) + 28)) = d → sv_T sm_XS sm_cs sm_L sm_sh ((if 0 < (S 1021 0) then 3 else 30 * (20 - (S 1023 0)) + 28)).toNat (q_looped S) 73 0 (lv_args 0 [.ref 0]) [] S
def q_whether (S : sv_S) : Option Value → sv_S → Prop := fun v S' => ∃ r : Int, v = some (sv_I r) ∧ sv_R r ∧ sm_ok S' ∧ sv_mod [1020, 1021, 1022, 1023, 5, 1011, 3, 4, 1007, 1009, 11, 12, 13, 14, 1024, 15, 16, 1031, 1032, 17, 18, 19, 20, 21, 22, 23, 24, 25, 1042, 1043, 1044, 1045, 1100001, 1100002, 1100005, 1100003, 1100004, 1100018] S S' ∧ ((S 1020 0) ≤ (S' 1020 0) ∧ (S' 1020 0) < (S' 1012 0) ∧ 0 ≤ (S' 1021 0) ∧ (0 < (S 1021 0) → 0 < (S' 1021 0)) ∧ (S 1007 0) ≤ (S' 1007 0) ∧ (S' 1007 0) ≤ 90 ∧ sm_LN (S' 4) (S' 1007 0) ∧ ((S 1009 0) = 1 → (S' 1009 0) = 1) ∧ ((S' 1021 0) = 0 → sm_WF (S' 11) (S' 12) (S' 13) (S' 1100001) (S' 1100002) (S' 1100005) (S' 1100003) (S' 1100004) (S' 1024 0) (S' 1007 0) (S' 1009 0) (S' 1032 0) ∧ sm_PX (S 11) (S 12) (S 13) (S 1100001) (S 1100002) (S 1100005) (S 1100003) (S 1100004) (S' 11) (S' 12) (S' 13) (S' 1100001) (S' 1100002) (S' 1100005) (S' 1100003) (S' 1100004) (S 1024 0)) ∧ sm_KL (S 15) (S 16) (S' 15) (S' 16) (S 1031 0) ∧ sm_HD (S' 23) (S' 24) (S' 1100018 0) (S' 1007 0) ∧ sm_HD (S' 25) (fun _ : Int => (S' 1042 0)) 1 (S' 1007 0) ∧ (S' 1031 0) = (S 1031 0) ∧ (S' 1043 0) = (S 1043 0) ∧ (S' 1044 0) = (S 1044 0) ∧ (S' 1045 0) = (S 1045 0) ∧ (S 1032 0) ≤ (S' 1032 0) ∧ (S' 1032 0) ≤ 1 + (S' 1020 0) ∧ (S' 1100018 0) = (S' 1032 0) ∧ (S 1024 0) ≤ (S' 1024 0) ∧ ((S' 1021 0) = 0 → (S' 1023 0) = (S 1023 0) ∧ (S' 1024 0) + 0 ≤ (S 1024 0) + 2 * ((S' 1020 0) - (S 1020 0))) ∧ (0 < (S' 1021 0) → (S' 1024 0) ≤ (S 1024 0) + 2 * ((S' 1020 0) - (S 1020 0)) + 2 * (30 * (20 - (S 1023 0)) + 29)) ∧ -1 ≤ r ∧ r < 12000 ∧ ((S' 1021 0) = 0 → (S 1020 0) < (S' 1020 0) ∧ (S 1024 0) ≤ r ∧ sm_sx (S' 1100001) (S' 1100002) (S' 1100005) (S' 1100003) (S' 1100004) (S' 1024 0) 2 r (17 * (21 - (S 1023 0)) + 5) (21 - (S 1023 0)) (if 0 < (S 1044 0) then 1 else 0) (if 0 < (S 1044 0) + (S 1045 0) then 1 else 0) ∧ (S' 1100002 r) = (17 * (21 - (S 1023 0)) + 5) ∧ (S' 1100005 r) = (21 - (S 1023 0)) ∧ (S' 1100003 r) = (if 0 < (S 1044 0) then 1 else 0) ∧ (S' 1100004 r) = (if 0 < (S 1044 0) + (S 1045 0) then 1 else 0)))
def T_whether (d : Int) : Prop := ∀ (S : sv_S), sm_ok S → (0 ≤ (S 1020 0) ∧ (S 1020 0) < (S 1012 0) ∧ sm_TK (S 6) (S 8) (S 9) (S 10) (S 1012 0) ∧ 0 ≤ (S 1021 0) ∧ 0 ≤ (S 1004 0) ∧ (S 1004 0) ≤ 4000 ∧ 0 ≤ (S 1007 0) ∧ (S 1007 0) ≤ 90 ∧ sm_LN (S 4) (S 1007 0) ∧ ((S 1021 0) = 0 → sm_WF (S 11) (S 12) (S 13) (S 1100001) (S 1100002) (S 1100005) (S 1100003) (S 1100004) (S 1024 0) (S 1007 0) (S 1009 0) (S 1032 0)) ∧ sm_HD (S 23) (S 24) (S 1100018 0) (S 1007 0) ∧ sm_HD (S 25) (fun _ : Int => (S 1042 0)) 1 (S 1007 0) ∧ 0 ≤ (S 1043 0) ∧ (S 1043 0) < (S 1100018 0) ∧ (S 1100018 0) = (S 1032 0) ∧ (S 1032 0) ≤ 1 + (S 1020 0) ∧ 0 ≤ (S 1031 0) ∧ (S 1031 0) ≤ 100 ∧ 0 ≤ (S 1044 0) ∧ (S 1044 0) ≤ 30 ∧ 0 ≤ (S 1045 0) ∧ (S 1045 0) ≤ 30 ∧ 0 ≤ (S 1024 0) ∧ ((S 1021 0) = 0 → 0 ≤ (S 1023 0) ∧ (S 1023 0) ≤ 20 ∧ (S 1031 0) ≤ 3 * (S 1023 0) + 5 ∧ (S 1024 0) ≤ 2 * (S 1020 0) ∧ (S 1044 0) ≤ (S 1023 0) ∧ (S 1045 0) ≤ (S 1023 0)) ∧ (S 1021 0) = 0 ∧ 1 ≤ (S 1023 0) ∧ (S 1044 0) + 1 ≤ (S 1023 0) ∧ (S 1045 0) + 1 ≤ (S 1023 0) ∧ (S 1031 0) ≤ 3 * (S 1023 0) + 2 ∧ 1 ≤ (S 6 (S 1020 0)) ∧ (S 6 (S 1020 0)) ≤ 5) → (30 * (20 - (S 1023 0)) + 29) = d → sv_T sm_XS sm_cs sm_L sm_sh (30 * (20 - (S 1023 0)) + 29).toNat (q_whether S) 74 0 (lv_args 0 [.ref 0]) [] S
def q_until (S : sv_S) : Option Value → sv_S → Prop := fun v S' => ∃ r : Int, v = some (sv_I r) ∧ sv_R r ∧ sm_ok S' ∧ sv_mod [1020, 1021, 1022, 1023, 5, 1011, 3, 4, 1007, 1009, 11, 12, 13, 14, 1024, 15, 16, 1031, 1032, 17, 18, 19, 20, 21, 22, 23, 24, 25, 1042, 1043, 1044, 1045, 1100001, 1100002, 1100005, 1100003, 1100004, 1100018] S S' ∧ ((S 1020 0) ≤ (S' 1020 0) ∧ (S' 1020 0) < (S' 1012 0) ∧ 0 ≤ (S' 1021 0) ∧ (0 < (S 1021 0) → 0 < (S' 1021 0)) ∧ (S 1007 0) ≤ (S' 1007 0) ∧ (S' 1007 0) ≤ 90 ∧ sm_LN (S' 4) (S' 1007 0) ∧ ((S 1009 0) = 1 → (S' 1009 0) = 1) ∧ ((S' 1021 0) = 0 → sm_WF (S' 11) (S' 12) (S' 13) (S' 1100001) (S' 1100002) (S' 1100005) (S' 1100003) (S' 1100004) (S' 1024 0) (S' 1007 0) (S' 1009 0) (S' 1032 0) ∧ sm_PX (S 11) (S 12) (S 13) (S 1100001) (S 1100002) (S 1100005) (S 1100003) (S 1100004) (S' 11) (S' 12) (S' 13) (S' 1100001) (S' 1100002) (S' 1100005) (S' 1100003) (S' 1100004) (S 1024 0)) ∧ sm_KL (S 15) (S 16) (S' 15) (S' 16) (S 1031 0) ∧ sm_HD (S' 23) (S' 24) (S' 1100018 0) (S' 1007 0) ∧ sm_HD (S' 25) (fun _ : Int => (S' 1042 0)) 1 (S' 1007 0) ∧ (S' 1031 0) = (S 1031 0) ∧ (S' 1043 0) = (S 1043 0) ∧ (S' 1044 0) = (S 1044 0) ∧ (S' 1045 0) = (S 1045 0) ∧ (S 1032 0) ≤ (S' 1032 0) ∧ (S' 1032 0) ≤ 1 + (S' 1020 0) ∧ (S' 1100018 0) = (S' 1032 0) ∧ (S 1024 0) ≤ (S' 1024 0) ∧ ((S' 1021 0) = 0 → (S' 1023 0) = (S 1023 0) ∧ (S' 1024 0) + 0 ≤ (S 1024 0) + 2 * ((S' 1020 0) - (S 1020 0))) ∧ (0 < (S' 1021 0) → (S' 1024 0) ≤ (S 1024 0) + 2 * ((S' 1020 0) - (S 1020 0)) + 2 * (30 * (20 - (S 1023 0)) + 29)) ∧ -1 ≤ r ∧ r < 12000 ∧ ((S' 1021 0) = 0 → (S 1020 0) < (S' 1020 0) ∧ (S 1024 0) ≤ r ∧ sm_sx (S' 1100001) (S' 1100002) (S' 1100005) (S' 1100003) (S' 1100004) (S' 1024 0) 2 r (17 * (21 - (S 1023 0)) + 5) (21 - (S 1023 0)) (if 0 < (S 1044 0) then 1 else 0) (if 0 < (S 1044 0) + (S 1045 0) then 1 else 0) ∧ (S' 1100002 r) = (17 * (21 - (S 1023 0)) + 5) ∧ (S' 1100005 r) = (21 - (S 1023 0)) ∧ (S' 1100003 r) = (if 0 < (S 1044 0) then 1 else 0) ∧ (S' 1100004 r) = (if 0 < (S 1044 0) + (S 1045 0) then 1 else 0)))
def T_until (d : Int) : Prop := ∀ (S : sv_S), sm_ok S → (0 ≤ (S 1020 0) ∧ (S 1020 0) < (S 1012 0) ∧ sm_TK (S 6) (S 8) (S 9) (S 10) (S 1012 0) ∧ 0 ≤ (S 1021 0) ∧ 0 ≤ (S 1004 0) ∧ (S 1004 0) ≤ 4000 ∧ 0 ≤ (S 1007 0) ∧ (S 1007 0) ≤ 90 ∧ sm_LN (S 4) (S 1007 0) ∧ ((S 1021 0) = 0 → sm_WF (S 11) (S 12) (S 13) (S 1100001) (S 1100002) (S 1100005) (S 1100003) (S 1100004) (S 1024 0) (S 1007 0) (S 1009 0) (S 1032 0)) ∧ sm_HD (S 23) (S 24) (S 1100018 0) (S 1007 0) ∧ sm_HD (S 25) (fun _ : Int => (S 1042 0)) 1 (S 1007 0) ∧ 0 ≤ (S 1043 0) ∧ (S 1043 0) < (S 1100018 0) ∧ (S 1100018 0) = (S 1032 0) ∧ (S 1032 0) ≤ 1 + (S 1020 0) ∧ 0 ≤ (S 1031 0) ∧ (S 1031 0) ≤ 100 ∧ 0 ≤ (S 1044 0) ∧ (S 1044 0) ≤ 30 ∧ 0 ≤ (S 1045 0) ∧ (S 1045 0) ≤ 30 ∧ 0 ≤ (S 1024 0) ∧ ((S 1021 0) = 0 → 0 ≤ (S 1023 0) ∧ (S 1023 0) ≤ 20 ∧ (S 1031 0) ≤ 3 * (S 1023 0) + 5 ∧ (S 1024 0) ≤ 2 * (S 1020 0) ∧ (S 1044 0) ≤ (S 1023 0) ∧ (S 1045 0) ≤ (S 1023 0)) ∧ (S 1021 0) = 0 ∧ 1 ≤ (S 1023 0) ∧ (S 1044 0) + 1 ≤ (S 1023 0) ∧ (S 1045 0) + 1 ≤ (S 1023 0) ∧ (S 1031 0) ≤ 3 * (S 1023 0) + 2 ∧ 1 ≤ (S 6 (S 1020 0)) ∧ (S 6 (S 1020 0)) ≤ 5) → (30 * (20 - (S 1023 0)) + 29) = d → sv_T sm_XS sm_cs sm_L sm_sh (30 * (20 - (S 1023 0)) + 29).toNat (q_until S) 75 0 (lv_args 0 [.ref 0]) [] S
def q_counted (S : sv_S) : Option Value → sv_S → Prop := fun v S' => ∃ r : Int, v = some (sv_I r) ∧ sv_R r ∧ sm_ok S' ∧ sv_mod [1020, 1021, 1022, 1023, 5, 1011, 3, 4, 1007, 1009, 11, 12, 13, 14, 1024, 15, 16, 1031, 1032, 17, 18, 19, 20, 21, 22, 23, 24, 25, 1042, 1043, 1044, 1045, 1100001, 1100002, 1100005, 1100003, 1100004, 1100018] S S' ∧ ((S 1020 0) ≤ (S' 1020 0) ∧ (S' 1020 0) < (S' 1012 0) ∧ 0 ≤ (S' 1021 0) ∧ (0 < (S 1021 0) → 0 < (S' 1021 0)) ∧ (S 1007 0) ≤ (S' 1007 0) ∧ (S' 1007 0) ≤ 90 ∧ sm_LN (S' 4) (S' 1007 0) ∧ ((S 1009 0) = 1 → (S' 1009 0) = 1) ∧ ((S' 1021 0) = 0 → sm_WF (S' 11) (S' 12) (S' 13) (S' 1100001) (S' 1100002) (S' 1100005) (S' 1100003) (S' 1100004) (S' 1024 0) (S' 1007 0) (S' 1009 0) (S' 1032 0) ∧ sm_PX (S 11) (S 12) (S 13) (S 1100001) (S 1100002) (S 1100005) (S 1100003) (S 1100004) (S' 11) (S' 12) (S' 13) (S' 1100001) (S' 1100002) (S' 1100005) (S' 1100003) (S' 1100004) (S 1024 0)) ∧ sm_KL (S 15) (S 16) (S' 15) (S' 16) (S 1031 0) ∧ sm_HD (S' 23) (S' 24) (S' 1100018 0) (S' 1007 0) ∧ sm_HD (S' 25) (fun _ : Int => (S' 1042 0)) 1 (S' 1007 0) ∧ (S' 1031 0) = (S 1031 0) ∧ (S' 1043 0) = (S 1043 0) ∧ (S' 1044 0) = (S 1044 0) ∧ (S' 1045 0) = (S 1045 0) ∧ (S 1032 0) ≤ (S' 1032 0) ∧ (S' 1032 0) ≤ 1 + (S' 1020 0) ∧ (S' 1100018 0) = (S' 1032 0) ∧ (S 1024 0) ≤ (S' 1024 0) ∧ ((S' 1021 0) = 0 → (S' 1023 0) = (S 1023 0) ∧ (S' 1024 0) + 0 ≤ (S 1024 0) + 2 * ((S' 1020 0) - (S 1020 0))) ∧ (0 < (S' 1021 0) → (S' 1024 0) ≤ (S 1024 0) + 2 * ((S' 1020 0) - (S 1020 0)) + 2 * (30 * (20 - (S 1023 0)) + 30)) ∧ -1 ≤ r ∧ r < 12000 ∧ ((S' 1021 0) = 0 → (S 1020 0) < (S' 1020 0) ∧ (S 1024 0) ≤ r ∧ sm_sx (S' 1100001) (S' 1100002) (S' 1100005) (S' 1100003) (S' 1100004) (S' 1024 0) 2 r (17 * (21 - (S 1023 0)) + 5) (21 - (S 1023 0)) (if 0 < (S 1044 0) then 1 else 0) (if 0 < (S 1044 0) + (S 1045 0) then 1 else 0) ∧ (S' 1100002 r) = (17 * (21 - (S 1023 0)) + 5) ∧ (S' 1100005 r) = (21 - (S 1023 0)) ∧ (S' 1100003 r) = (if 0 < (S 1044 0) then 1 else 0) ∧ (S' 1100004 r) = (if 0 < (S 1044 0) + (S 1045 0) then 1 else 0)))
def T_counted (d : Int) : Prop := ∀ (S : sv_S), sm_ok S → (0 ≤ (S 1020 0) ∧ (S 1020 0) < (S 1012 0) ∧ sm_TK (S 6) (S 8) (S 9) (S 10) (S 1012 0) ∧ 0 ≤ (S 1021 0) ∧ 0 ≤ (S 1004 0) ∧ (S 1004 0) ≤ 4000 ∧ 0 ≤ (S 1007 0) ∧ (S 1007 0) ≤ 90 ∧ sm_LN (S 4) (S 1007 0) ∧ ((S 1021 0) = 0 → sm_WF (S 11) (S 12) (S 13) (S 1100001) (S 1100002) (S 1100005) (S 1100003) (S 1100004) (S 1024 0) (S 1007 0) (S 1009 0) (S 1032 0)) ∧ sm_HD (S 23) (S 24) (S 1100018 0) (S 1007 0) ∧ sm_HD (S 25) (fun _ : Int => (S 1042 0)) 1 (S 1007 0) ∧ 0 ≤ (S 1043 0) ∧ (S 1043 0) < (S 1100018 0) ∧ (S 1100018 0) = (S 1032 0) ∧ (S 1032 0) ≤ 1 + (S 1020 0) ∧ 0 ≤ (S 1031 0) ∧ (S 1031 0) ≤ 100 ∧ 0 ≤ (S 1044 0) ∧ (S 1044 0) ≤ 30 ∧ 0 ≤ (S 1045 0) ∧ (S 1045 0) ≤ 30 ∧ 0 ≤ (S 1024 0) ∧ ((S 1021 0) = 0 → 0 ≤ (S 1023 0) ∧ (S 1023 0) ≤ 20 ∧ (S 1031 0) ≤ 3 * (S 1023 0) + 5 ∧ (S 1024 0) ≤ 2 * (S 1020 0) ∧ (S 1044 0) ≤ (S 1023 0) ∧ (S 1045 0) ≤ (S 1023 0)) ∧ (S 1021 0) = 0 ∧ 1 ≤ (S 1023 0) ∧ (S 1044 0) + 1 ≤ (S 1023 0) ∧ (S 1045 0) + 1 ≤ (S 1023 0) ∧ (S 1031 0) ≤ 3 * (S 1023 0) + 2 ∧ 1 ≤ (S 6 (S 1020 0)) ∧ (S 6 (S 1020 0)) ≤ 5) → (30 * (20 - (S 1023 0)) + 30) = d → sv_T sm_XS sm_cs sm_L sm_sh (30 * (20 - (S 1023 0)) + 30).toNat (q_counted S) 76 0 (lv_args 0 [.ref 0]) [] S
def q_each (p1 : Int) (S : sv_S) : Option Value → sv_S → Prop := fun v S' => ∃ r : Int, v = some (sv_I r) ∧ sv_R r ∧ sm_ok S' ∧ sv_mod [1020, 1021, 1022, 1023, 5, 1011, 3, 4, 1007, 1009, 11, 12, 13, 14, 1024, 15, 16, 1031, 1032, 17, 18, 19, 20, 21, 22, 23, 24, 25, 1042, 1043, 1044, 1045, 1100001, 1100002, 1100005, 1100003, 1100004, 1100018] S S' ∧ ((S 1020 0) ≤ (S' 1020 0) ∧ (S' 1020 0) < (S' 1012 0) ∧ 0 ≤ (S' 1021 0) ∧ (0 < (S 1021 0) → 0 < (S' 1021 0)) ∧ (S 1007 0) ≤ (S' 1007 0) ∧ (S' 1007 0) ≤ 90 ∧ sm_LN (S' 4) (S' 1007 0) ∧ ((S 1009 0) = 1 → (S' 1009 0) = 1) ∧ ((S' 1021 0) = 0 → sm_WF (S' 11) (S' 12) (S' 13) (S' 1100001) (S' 1100002) (S' 1100005) (S' 1100003) (S' 1100004) (S' 1024 0) (S' 1007 0) (S' 1009 0) (S' 1032 0) ∧ sm_PX (S 11) (S 12) (S 13) (S 1100001) (S 1100002) (S 1100005) (S 1100003) (S 1100004) (S' 11) (S' 12) (S' 13) (S' 1100001) (S' 1100002) (S' 1100005) (S' 1100003) (S' 1100004) (S 1024 0)) ∧ sm_KL (S 15) (S 16) (S' 15) (S' 16) (S 1031 0) ∧ sm_HD (S' 23) (S' 24) (S' 1100018 0) (S' 1007 0) ∧ sm_HD (S' 25) (fun _ : Int => (S' 1042 0)) 1 (S' 1007 0) ∧ (S' 1031 0) = (S 1031 0) ∧ (S' 1043 0) = (S 1043 0) ∧ (S' 1044 0) = (S 1044 0) ∧ (S' 1045 0) = (S 1045 0) ∧ (S 1032 0) ≤ (S' 1032 0) ∧ (S' 1032 0) ≤ 1 + (S' 1020 0) ∧ (S' 1100018 0) = (S' 1032 0) ∧ (S 1024 0) ≤ (S' 1024 0) ∧ ((S' 1021 0) = 0 → (S' 1023 0) = (S 1023 0) ∧ (S' 1024 0) + 0 ≤ (S 1024 0) + 2 * ((S' 1020 0) - (S 1020 0))) ∧ (0 < (S' 1021 0) → (S' 1024 0) ≤ (S 1024 0) + 2 * ((S' 1020 0) - (S 1020 0)) + 2 * (30 * (20 - (S 1023 0)) + 29)) ∧ -1 ≤ r ∧ r < 12000 ∧ ((S' 1021 0) = 0 → (S 1020 0) < (S' 1020 0) ∧ (S 1024 0) ≤ r ∧ sm_sx (S' 1100001) (S' 1100002) (S' 1100005) (S' 1100003) (S' 1100004) (S' 1024 0) 2 r (17 * (21 - (S 1023 0)) + 5) (21 - (S 1023 0)) (if 0 < (S 1044 0) then 1 else 0) (if 0 < (S 1044 0) + (S 1045 0) then 1 else 0) ∧ (S' 1100002 r) = (17 * (21 - (S 1023 0)) + 5) ∧ (S' 1100005 r) = (21 - (S 1023 0)) ∧ (S' 1100003 r) = (if 0 < (S 1044 0) then 1 else 0) ∧ (S' 1100004 r) = (if 0 < (S 1044 0) + (S 1045 0) then 1 else 0)))
def T_each (d : Int) : Prop := ∀ (p1 : Int) (S : sv_S), sm_ok S → (0 ≤ p1 ∧ p1 ≤ 1) → (0 ≤ (S 1020 0) ∧ (S 1020 0) < (S 1012 0) ∧ sm_TK (S 6) (S 8) (S 9) (S 10) (S 1012 0) ∧ 0 ≤ (S 1021 0) ∧ 0 ≤ (S 1004 0) ∧ (S 1004 0) ≤ 4000 ∧ 0 ≤ (S 1007 0) ∧ (S 1007 0) ≤ 90 ∧ sm_LN (S 4) (S 1007 0) ∧ ((S 1021 0) = 0 → sm_WF (S 11) (S 12) (S 13) (S 1100001) (S 1100002) (S 1100005) (S 1100003) (S 1100004) (S 1024 0) (S 1007 0) (S 1009 0) (S 1032 0)) ∧ sm_HD (S 23) (S 24) (S 1100018 0) (S 1007 0) ∧ sm_HD (S 25) (fun _ : Int => (S 1042 0)) 1 (S 1007 0) ∧ 0 ≤ (S 1043 0) ∧ (S 1043 0) < (S 1100018 0) ∧ (S 1100018 0) = (S 1032 0) ∧ (S 1032 0) ≤ 1 + (S 1020 0) ∧ 0 ≤ (S 1031 0) ∧ (S 1031 0) ≤ 100 ∧ 0 ≤ (S 1044 0) ∧ (S 1044 0) ≤ 30 ∧ 0 ≤ (S 1045 0) ∧ (S 1045 0) ≤ 30 ∧ 0 ≤ (S 1024 0) ∧ ((S 1021 0) = 0 → 0 ≤ (S 1023 0) ∧ (S 1023 0) ≤ 20 ∧ (S 1031 0) ≤ 3 * (S 1023 0) + 5 ∧ (S 1024 0) ≤ 2 * (S 1020 0) ∧ (S 1044 0) ≤ (S 1023 0) ∧ (S 1045 0) ≤ (S 1023 0)) ∧ (S 1021 0) = 0 ∧ 1 ≤ (S 1023 0) ∧ (S 1044 0) + 1 ≤ (S 1023 0) ∧ (S 1045 0) + 1 ≤ (S 1023 0) ∧ (S 1031 0) ≤ 3 * (S 1023 0) + 2 ∧ (p1 = 1 → (S 6 (S 1020 0)) = 2 ∧ (S 6 ((S 1020 0) + 1)) = 1 ∧ (S 6 ((S 1020 0) + 2)) = 2) ∧ (p1 = 0 → (S 6 (S 1020 0)) = 1 ∧ (S 6 ((S 1020 0) + 1)) = 2)) → (30 * (20 - (S 1023 0)) + 29) = d → sv_T sm_XS sm_cs sm_L sm_sh (30 * (20 - (S 1023 0)) + 29).toNat (q_each p1 S) 77 0 (lv_args 0 [.ref 0, sv_I p1]) [] S
def q_back_ (S : sv_S) : Option Value → sv_S → Prop := fun v S' => ∃ r : Int, v = some (sv_I r) ∧ sv_R r ∧ sm_ok S' ∧ sv_mod [1020, 1021, 1022, 1023, 5, 1011, 3, 4, 1007, 1009, 11, 12, 13, 14, 1024, 15, 16, 1031, 1032, 17, 18, 19, 20, 21, 22, 23, 24, 25, 1042, 1043, 1044, 1045, 1100001, 1100002, 1100005, 1100003, 1100004, 1100018] S S' ∧ ((S 1020 0) ≤ (S' 1020 0) ∧ (S' 1020 0) < (S' 1012 0) ∧ 0 ≤ (S' 1021 0) ∧ (0 < (S 1021 0) → 0 < (S' 1021 0)) ∧ (S 1007 0) ≤ (S' 1007 0) ∧ (S' 1007 0) ≤ 90 ∧ sm_LN (S' 4) (S' 1007 0) ∧ ((S 1009 0) = 1 → (S' 1009 0) = 1) ∧ ((S' 1021 0) = 0 → sm_WF (S' 11) (S' 12) (S' 13) (S' 1100001) (S' 1100002) (S' 1100005) (S' 1100003) (S' 1100004) (S' 1024 0) (S' 1007 0) (S' 1009 0) (S' 1032 0) ∧ sm_PX (S 11) (S 12) (S 13) (S 1100001) (S 1100002) (S 1100005) (S 1100003) (S 1100004) (S' 11) (S' 12) (S' 13) (S' 1100001) (S' 1100002) (S' 1100005) (S' 1100003) (S' 1100004) (S 1024 0)) ∧ sm_KL (S 15) (S 16) (S' 15) (S' 16) (S 1031 0) ∧ sm_HD (S' 23) (S' 24) (S' 1100018 0) (S' 1007 0) ∧ sm_HD (S' 25) (fun _ : Int => (S' 1042 0)) 1 (S' 1007 0) ∧ (S' 1031 0) = (S 1031 0) ∧ (S' 1043 0) = (S 1043 0) ∧ (S' 1044 0) = (S 1044 0) ∧ (S' 1045 0) = (S 1045 0) ∧ (S 1032 0) ≤ (S' 1032 0) ∧ (S' 1032 0) ≤ 1 + (S' 1020 0) ∧ (S' 1100018 0) = (S' 1032 0) ∧ (S 1024 0) ≤ (S' 1024 0) ∧ ((S' 1021 0) = 0 → (S' 1023 0) = (S 1023 0) ∧ (S' 1024 0) + 0 ≤ (S 1024 0) + 2 * ((S' 1020 0) - (S 1020 0))) ∧ (0 < (S' 1021 0) → (S' 1024 0) ≤ (S 1024 0) + 2 * ((S' 1020 0) - (S 1020 0)) + 2 * (30 * (20 - (S 1023 0)) + 28)) ∧ -1 ≤ r ∧ r < 12000 ∧ ((S' 1021 0) = 0 → (S 1020 0) < (S' 1020 0) ∧ (S 1024 0) ≤ r ∧ sm_sx (S' 1100001) (S' 1100002) (S' 1100005) (S' 1100003) (S' 1100004) (S' 1024 0) 2 r (17 * (21 - (S 1023 0)) + 5) (21 - (S 1023 0)) (if 0 < (S 1044 0) then 1 else 0) (if 0 < (S 1044 0) + (S 1045 0) then 1 else 0) ∧ (S' 1100002 r) = (17 * (21 - (S 1023 0)) + 5) ∧ (S' 1100005 r) = (21 - (S 1023 0)) ∧ (S' 1100003 r) = (if 0 < (S 1044 0) then 1 else 0) ∧ (S' 1100004 r) = (if 0 < (S 1044 0) + (S 1045 0) then 1 else 0)))
def T_back_ (d : Int) : Prop := ∀ (S : sv_S), sm_ok S → (0 ≤ (S 1020 0) ∧ (S 1020 0) < (S 1012 0) ∧ sm_TK (S 6) (S 8) (S 9) (S 10) (S 1012 0) ∧ 0 ≤ (S 1021 0) ∧ 0 ≤ (S 1004 0) ∧ (S 1004 0) ≤ 4000 ∧ 0 ≤ (S 1007 0) ∧ (S 1007 0) ≤ 90 ∧ sm_LN (S 4) (S 1007 0) ∧ ((S 1021 0) = 0 → sm_WF (S 11) (S 12) (S 13) (S 1100001) (S 1100002) (S 1100005) (S 1100003) (S 1100004) (S 1024 0) (S 1007 0) (S 1009 0) (S 1032 0)) ∧ sm_HD (S 23) (S 24) (S 1100018 0) (S 1007 0) ∧ sm_HD (S 25) (fun _ : Int => (S 1042 0)) 1 (S 1007 0) ∧ 0 ≤ (S 1043 0) ∧ (S 1043 0) < (S 1100018 0) ∧ (S 1100018 0) = (S 1032 0) ∧ (S 1032 0) ≤ 1 + (S 1020 0) ∧ 0 ≤ (S 1031 0) ∧ (S 1031 0) ≤ 100 ∧ 0 ≤ (S 1044 0) ∧ (S 1044 0) ≤ 30 ∧ 0 ≤ (S 1045 0) ∧ (S 1045 0) ≤ 30 ∧ 0 ≤ (S 1024 0) ∧ ((S 1021 0) = 0 → 0 ≤ (S 1023 0) ∧ (S 1023 0) ≤ 20 ∧ (S 1031 0) ≤ 3 * (S 1023 0) + 5 ∧ (S 1024 0) ≤ 2 * (S 1020 0) ∧ (S 1044 0) ≤ (S 1023 0) ∧ (S 1045 0) ≤ (S 1023 0)) ∧ (S 1021 0) = 0 ∧ 1 ≤ (S 1023 0) ∧ (S 1044 0) + 1 ≤ (S 1023 0) ∧ (S 1045 0) + 1 ≤ (S 1023 0) ∧ (S 1031 0) ≤ 3 * (S 1023 0) + 2 ∧ 1 ≤ (S 6 (S 1020 0)) ∧ (S 6 (S 1020 0)) ≤ 5) → (30 * (20 - (S 1023 0)) + 28) = d → sv_T sm_XS sm_cs sm_L sm_sh (30 * (20 - (S 1023 0)) + 28).toNat (q_back_ S) 78 0 (lv_args 0 [.ref 0]) [] S
def q_toss (S : sv_S) : Option Value → sv_S → Prop := fun v S' => ∃ r : Int, v = some (sv_I r) ∧ sv_R r ∧ sm_ok S' ∧ sv_mod [1020, 1021, 1022, 1023, 5, 1011, 3, 4, 1007, 1009, 11, 12, 13, 14, 1024, 15, 16, 1031, 1032, 17, 18, 19, 20, 21, 22, 23, 24, 25, 1042, 1043, 1044, 1045, 1100001, 1100002, 1100005, 1100003, 1100004, 1100018] S S' ∧ ((S 1020 0) ≤ (S' 1020 0) ∧ (S' 1020 0) < (S' 1012 0) ∧ 0 ≤ (S' 1021 0) ∧ (0 < (S 1021 0) → 0 < (S' 1021 0)) ∧ (S 1007 0) ≤ (S' 1007 0) ∧ (S' 1007 0) ≤ 90 ∧ sm_LN (S' 4) (S' 1007 0) ∧ ((S 1009 0) = 1 → (S' 1009 0) = 1) ∧ ((S' 1021 0) = 0 → sm_WF (S' 11) (S' 12) (S' 13) (S' 1100001) (S' 1100002) (S' 1100005) (S' 1100003) (S' 1100004) (S' 1024 0) (S' 1007 0) (S' 1009 0) (S' 1032 0) ∧ sm_PX (S 11) (S 12) (S 13) (S 1100001) (S 1100002) (S 1100005) (S 1100003) (S 1100004) (S' 11) (S' 12) (S' 13) (S' 1100001) (S' 1100002) (S' 1100005) (S' 1100003) (S' 1100004) (S 1024 0)) ∧ sm_KL (S 15) (S 16) (S' 15) (S' 16) (S 1031 0) ∧ sm_HD (S' 23) (S' 24) (S' 1100018 0) (S' 1007 0) ∧ sm_HD (S' 25) (fun _ : Int => (S' 1042 0)) 1 (S' 1007 0) ∧ (S' 1031 0) = (S 1031 0) ∧ (S' 1043 0) = (S 1043 0) ∧ (S' 1044 0) = (S 1044 0) ∧ (S' 1045 0) = (S 1045 0) ∧ (S 1032 0) ≤ (S' 1032 0) ∧ (S' 1032 0) ≤ 1 + (S' 1020 0) ∧ (S' 1100018 0) = (S' 1032 0) ∧ (S 1024 0) ≤ (S' 1024 0) ∧ ((S' 1021 0) = 0 → (S' 1023 0) = (S 1023 0) ∧ (S' 1024 0) + 0 ≤ (S 1024 0) + 2 * ((S' 1020 0) - (S 1020 0))) ∧ (0 < (S' 1021 0) → (S' 1024 0) ≤ (S 1024 0) + 2 * ((S' 1020 0) - (S 1020 0)) + 2 * (30 * (20 - (S 1023 0)) + 28)) ∧ -1 ≤ r ∧ r < 12000 ∧ ((S' 1021 0) = 0 → (S 1020 0) < (S' 1020 0) ∧ (S 1024 0) ≤ r ∧ sm_sx (S' 1100001) (S' 1100002) (S' 1100005) (S' 1100003) (S' 1100004) (S' 1024 0) 2 r (17 * (21 - (S 1023 0)) + 5) (21 - (S 1023 0)) (if 0 < (S 1044 0) then 1 else 0) (if 0 < (S 1044 0) + (S 1045 0) then 1 else 0) ∧ (S' 1100002 r) = (17 * (21 - (S 1023 0)) + 5) ∧ (S' 1100005 r) = (21 - (S 1023 0)) ∧ (S' 1100003 r) = (if 0 < (S 1044 0) then 1 else 0) ∧ (S' 1100004 r) = (if 0 < (S 1044 0) + (S 1045 0) then 1 else 0)))
def T_toss (d : Int) : Prop := ∀ (S : sv_S), sm_ok S → (0 ≤ (S 1020 0) ∧ (S 1020 0) < (S 1012 0) ∧ sm_TK (S 6) (S 8) (S 9) (S 10) (S 1012 0) ∧ 0 ≤ (S 1021 0) ∧ 0 ≤ (S 1004 0) ∧ (S 1004 0) ≤ 4000 ∧ 0 ≤ (S 1007 0) ∧ (S 1007 0) ≤ 90 ∧ sm_LN (S 4) (S 1007 0) ∧ ((S 1021 0) = 0 → sm_WF (S 11) (S 12) (S 13) (S 1100001) (S 1100002) (S 1100005) (S 1100003) (S 1100004) (S 1024 0) (S 1007 0) (S 1009 0) (S 1032 0)) ∧ sm_HD (S 23) (S 24) (S 1100018 0) (S 1007 0) ∧ sm_HD (S 25) (fun _ : Int => (S 1042 0)) 1 (S 1007 0) ∧ 0 ≤ (S 1043 0) ∧ (S 1043 0) < (S 1100018 0) ∧ (S 1100018 0) = (S 1032 0) ∧ (S 1032 0) ≤ 1 + (S 1020 0) ∧ 0 ≤ (S 1031 0) ∧ (S 1031 0) ≤ 100 ∧ 0 ≤ (S 1044 0) ∧ (S 1044 0) ≤ 30 ∧ 0 ≤ (S 1045 0) ∧ (S 1045 0) ≤ 30 ∧ 0 ≤ (S 1024 0) ∧ ((S 1021 0) = 0 → 0 ≤ (S 1023 0) ∧ (S 1023 0) ≤ 20 ∧ (S 1031 0) ≤ 3 * (S 1023 0) + 5 ∧ (S 1024 0) ≤ 2 * (S 1020 0) ∧ (S 1044 0) ≤ (S 1023 0) ∧ (S 1045 0) ≤ (S 1023 0)) ∧ (S 1021 0) = 0 ∧ 1 ≤ (S 1023 0) ∧ (S 1044 0) + 1 ≤ (S 1023 0) ∧ (S 1045 0) + 1 ≤ (S 1023 0) ∧ (S 1031 0) ≤ 3 * (S 1023 0) + 2 ∧ 1 ≤ (S 6 (S 1020 0)) ∧ (S 6 (S 1020 0)) ≤ 5) → (30 * (20 - (S 1023 0)) + 28) = d → sv_T sm_XS sm_cs sm_L sm_sh (30 * (20 - (S 1023 0)) + 28).toNat (q_toss S) 79 0 (lv_args 0 [.ref 0]) [] S
def q_attempt (S : sv_S) : Option Value → sv_S → Prop := fun v S' => ∃ r : Int, v = some (sv_I r) ∧ sv_R r ∧ sm_ok S' ∧ sv_mod [1020, 1021, 1022, 1023, 5, 1011, 3, 4, 1007, 1009, 11, 12, 13, 14, 1024, 15, 16, 1031, 1032, 17, 18, 19, 20, 21, 22, 23, 24, 25, 1042, 1043, 1044, 1045, 1100001, 1100002, 1100005, 1100003, 1100004, 1100018] S S' ∧ ((S 1020 0) ≤ (S' 1020 0) ∧ (S' 1020 0) < (S' 1012 0) ∧ 0 ≤ (S' 1021 0) ∧ (0 < (S 1021 0) → 0 < (S' 1021 0)) ∧ (S 1007 0) ≤ (S' 1007 0) ∧ (S' 1007 0) ≤ 90 ∧ sm_LN (S' 4) (S' 1007 0) ∧ ((S 1009 0) = 1 → (S' 1009 0) = 1) ∧ ((S' 1021 0) = 0 → sm_WF (S' 11) (S' 12) (S' 13) (S' 1100001) (S' 1100002) (S' 1100005) (S' 1100003) (S' 1100004) (S' 1024 0) (S' 1007 0) (S' 1009 0) (S' 1032 0) ∧ sm_PX (S 11) (S 12) (S 13) (S 1100001) (S 1100002) (S 1100005) (S 1100003) (S 1100004) (S' 11) (S' 12) (S' 13) (S' 1100001) (S' 1100002) (S' 1100005) (S' 1100003) (S' 1100004) (S 1024 0)) ∧ sm_KL (S 15) (S 16) (S' 15) (S' 16) (S 1031 0) ∧ sm_HD (S' 23) (S' 24) (S' 1100018 0) (S' 1007 0) ∧ sm_HD (S' 25) (fun _ : Int => (S' 1042 0)) 1 (S' 1007 0) ∧ (S' 1031 0) = (S 1031 0) ∧ (S' 1043 0) = (S 1043 0) ∧ (S' 1044 0) = (S 1044 0) ∧ (S' 1045 0) = (S 1045 0) ∧ (S 1032 0) ≤ (S' 1032 0) ∧ (S' 1032 0) ≤ 1 + (S' 1020 0) ∧ (S' 1100018 0) = (S' 1032 0) ∧ (S 1024 0) ≤ (S' 1024 0) ∧ ((S' 1021 0) = 0 → (S' 1023 0) = (S 1023 0) ∧ (S' 1024 0) + 0 ≤ (S 1024 0) + 2 * ((S' 1020 0) - (S 1020 0))) ∧ (0 < (S' 1021 0) → (S' 1024 0) ≤ (S 1024 0) + 2 * ((S' 1020 0) - (S 1020 0)) + 2 * (30 * (20 - (S 1023 0)) + 29)) ∧ -1 ≤ r ∧ r < 12000 ∧ ((S' 1021 0) = 0 → (S 1020 0) < (S' 1020 0) ∧ (S 1024 0) ≤ r ∧ sm_sx (S' 1100001) (S' 1100002) (S' 1100005) (S' 1100003) (S' 1100004) (S' 1024 0) 2 r (17 * (21 - (S 1023 0)) + 5) (21 - (S 1023 0)) (if 0 < (S 1044 0) then 1 else 0) (if 0 < (S 1044 0) + (S 1045 0) then 1 else 0) ∧ (S' 1100002 r) = (17 * (21 - (S 1023 0)) + 5) ∧ (S' 1100005 r) = (21 - (S 1023 0)) ∧ (S' 1100003 r) = (if 0 < (S 1044 0) then 1 else 0) ∧ (S' 1100004 r) = (if 0 < (S 1044 0) + (S 1045 0) then 1 else 0)))
def T_attempt (d : Int) : Prop := ∀ (S : sv_S), sm_ok S → (0 ≤ (S 1020 0) ∧ (S 1020 0) < (S 1012 0) ∧ sm_TK (S 6) (S 8) (S 9) (S 10) (S 1012 0) ∧ 0 ≤ (S 1021 0) ∧ 0 ≤ (S 1004 0) ∧ (S 1004 0) ≤ 4000 ∧ 0 ≤ (S 1007 0) ∧ (S 1007 0) ≤ 90 ∧ sm_LN (S 4) (S 1007 0) ∧ ((S 1021 0) = 0 → sm_WF (S 11) (S 12) (S 13) (S 1100001) (S 1100002) (S 1100005) (S 1100003) (S 1100004) (S 1024 0) (S 1007 0) (S 1009 0) (S 1032 0)) ∧ sm_HD (S 23) (S 24) (S 1100018 0) (S 1007 0) ∧ sm_HD (S 25) (fun _ : Int => (S 1042 0)) 1 (S 1007 0) ∧ 0 ≤ (S 1043 0) ∧ (S 1043 0) < (S 1100018 0) ∧ (S 1100018 0) = (S 1032 0) ∧ (S 1032 0) ≤ 1 + (S 1020 0) ∧ 0 ≤ (S 1031 0) ∧ (S 1031 0) ≤ 100 ∧ 0 ≤ (S 1044 0) ∧ (S 1044 0) ≤ 30 ∧ 0 ≤ (S 1045 0) ∧ (S 1045 0) ≤ 30 ∧ 0 ≤ (S 1024 0) ∧ ((S 1021 0) = 0 → 0 ≤ (S 1023 0) ∧ (S 1023 0) ≤ 20 ∧ (S 1031 0) ≤ 3 * (S 1023 0) + 5 ∧ (S 1024 0) ≤ 2 * (S 1020 0) ∧ (S 1044 0) ≤ (S 1023 0) ∧ (S 1045 0) ≤ (S 1023 0)) ∧ (S 1021 0) = 0 ∧ 1 ≤ (S 1023 0) ∧ (S 1044 0) + 1 ≤ (S 1023 0) ∧ (S 1045 0) + 1 ≤ (S 1023 0) ∧ (S 1031 0) ≤ 3 * (S 1023 0) + 2 ∧ 1 ≤ (S 6 (S 1020 0)) ∧ (S 6 (S 1020 0)) ≤ 5) → (30 * (20 - (S 1023 0)) + 29) = d → sv_T sm_XS sm_cs sm_L sm_sh (30 * (20 - (S 1023 0)) + 29).toNat (q_attempt S) 80 0 (lv_args 0 [.ref 0]) [] S
def q_cases (S : sv_S) : Option Value → sv_S → Prop := fun v S' => ∃ r : Int, v = some (sv_I r) ∧ sv_R r ∧ sm_ok S' ∧ sv_mod [1020, 1021, 1022, 1023, 5, 1011, 3, 4, 1007, 1009, 11, 12, 13, 14, 1024, 15, 16, 1031, 1032, 17, 18, 19, 20, 21, 22, 23, 24, 25, 1042, 1043, 1044, 1045, 1100001, 1100002, 1100005, 1100003, 1100004, 1100018] S S' ∧ ((S 1020 0) ≤ (S' 1020 0) ∧ (S' 1020 0) < (S' 1012 0) ∧ 0 ≤ (S' 1021 0) ∧ (0 < (S 1021 0) → 0 < (S' 1021 0)) ∧ (S 1007 0) ≤ (S' 1007 0) ∧ (S' 1007 0) ≤ 90 ∧ sm_LN (S' 4) (S' 1007 0) ∧ ((S 1009 0) = 1 → (S' 1009 0) = 1) ∧ ((S' 1021 0) = 0 → sm_WF (S' 11) (S' 12) (S' 13) (S' 1100001) (S' 1100002) (S' 1100005) (S' 1100003) (S' 1100004) (S' 1024 0) (S' 1007 0) (S' 1009 0) (S' 1032 0) ∧ sm_PX (S 11) (S 12) (S 13) (S 1100001) (S 1100002) (S 1100005) (S 1100003) (S 1100004) (S' 11) (S' 12) (S' 13) (S' 1100001) (S' 1100002) (S' 1100005) (S' 1100003) (S' 1100004) (S 1024 0)) ∧ sm_KL (S 15) (S 16) (S' 15) (S' 16) (S 1031 0) ∧ sm_HD (S' 23) (S' 24) (S' 1100018 0) (S' 1007 0) ∧ sm_HD (S' 25) (fun _ : Int => (S' 1042 0)) 1 (S' 1007 0) ∧ (S' 1031 0) = (S 1031 0) ∧ (S' 1043 0) = (S 1043 0) ∧ (S' 1044 0) = (S 1044 0) ∧ (S' 1045 0) = (S 1045 0) ∧ (S 1032 0) ≤ (S' 1032 0) ∧ (S' 1032 0) ≤ 1 + (S' 1020 0) ∧ (S' 1100018 0) = (S' 1032 0) ∧ (S 1024 0) ≤ (S' 1024 0) ∧ ((S' 1021 0) = 0 → (S' 1023 0) = (S 1023 0) ∧ (S' 1024 0) + 0 ≤ (S 1024 0) + 2 * ((S' 1020 0) - (S 1020 0))) ∧ (0 < (S' 1021 0) → (S' 1024 0) ≤ (S 1024 0) + 2 * ((S' 1020 0) - (S 1020 0)) + 2 * (30 * (20 - (S 1023 0)) + 29)) ∧ -1 ≤ r ∧ r < 12000 ∧ ((S' 1021 0) = 0 → (S 1020 0) < (S' 1020 0) ∧ (S 1024 0) ≤ r ∧ sm_sx (S' 1100001) (S' 1100002) (S' 1100005) (S' 1100003) (S' 1100004) (S' 1024 0) 2 r (17 * (21 - (S 1023 0)) + 5) (21 - (S 1023 0)) (if 0 < (S 1044 0) then 1 else 0) (if 0 < (S 1044 0) + (S 1045 0) then 1 else 0) ∧ (S' 1100002 r) = (17 * (21 - (S 1023 0)) + 5) ∧ (S' 1100005 r) = (21 - (S 1023 0)) ∧ (S' 1100003 r) = (if 0 < (S 1044 0) then 1 else 0) ∧ (S' 1100004 r) = (if 0 < (S 1044 0) + (S 1045 0) then 1 else 0)))
def T_cases (d : Int) : Prop := ∀ (S : sv_S), sm_ok S → (0 ≤ (S 1020 0) ∧ (S 1020 0) < (S 1012 0) ∧ sm_TK (S 6) (S 8) (S 9) (S 10) (S 1012 0) ∧ 0 ≤ (S 1021 0) ∧ 0 ≤ (S 1004 0) ∧ (S 1004 0) ≤ 4000 ∧ 0 ≤ (S 1007 0) ∧ (S 1007 0) ≤ 90 ∧ sm_LN (S 4) (S 1007 0) ∧ ((S 1021 0) = 0 → sm_WF (S 11) (S 12) (S 13) (S 1100001) (S 1100002) (S 1100005) (S 1100003) (S 1100004) (S 1024 0) (S 1007 0) (S 1009 0) (S 1032 0)) ∧ sm_HD (S 23) (S 24) (S 1100018 0) (S 1007 0) ∧ sm_HD (S 25) (fun _ : Int => (S 1042 0)) 1 (S 1007 0) ∧ 0 ≤ (S 1043 0) ∧ (S 1043 0) < (S 1100018 0) ∧ (S 1100018 0) = (S 1032 0) ∧ (S 1032 0) ≤ 1 + (S 1020 0) ∧ 0 ≤ (S 1031 0) ∧ (S 1031 0) ≤ 100 ∧ 0 ≤ (S 1044 0) ∧ (S 1044 0) ≤ 30 ∧ 0 ≤ (S 1045 0) ∧ (S 1045 0) ≤ 30 ∧ 0 ≤ (S 1024 0) ∧ ((S 1021 0) = 0 → 0 ≤ (S 1023 0) ∧ (S 1023 0) ≤ 20 ∧ (S 1031 0) ≤ 3 * (S 1023 0) + 5 ∧ (S 1024 0) ≤ 2 * (S 1020 0) ∧ (S 1044 0) ≤ (S 1023 0) ∧ (S 1045 0) ≤ (S 1023 0)) ∧ (S 1021 0) = 0 ∧ 1 ≤ (S 1023 0) ∧ (S 1044 0) + 1 ≤ (S 1023 0) ∧ (S 1045 0) + 1 ≤ (S 1023 0) ∧ (S 1031 0) ≤ 3 * (S 1023 0) + 2 ∧ 1 ≤ (S 6 (S 1020 0)) ∧ (S 6 (S 1020 0)) ≤ 5) → (30 * (20 - (S 1023 0)) + 29) = d → sv_T sm_XS sm_cs sm_L sm_sh (30 * (20 - (S 1023 0)) + 29).toNat (q_cases S) 81 0 (lv_args 0 [.ref 0]) [] S
def P_P (d : Int) : Prop := T_expression d ∧ T_opened d ∧ T_assigned d ∧ T_conditional d ∧ T_binary d ∧ T_unit d ∧ T_postfix d ∧ T_left d ∧ T_fresh d ∧ T_member d ∧ T_arguments d ∧ T_items d ∧ T_primary d ∧ T_bracketed d ∧ T_pairs d ∧ T_function d ∧ T_parts d ∧ T_statement d ∧ T_statementBody d ∧ T_plain d ∧ T_block d ∧ T_declarations d ∧ T_condition d ∧ T_looped d ∧ T_whether d ∧ T_until d ∧ T_counted d ∧ T_each d ∧ T_back_ d ∧ T_toss d ∧ T_attempt d ∧ T_cases d
theorem la_expression_0 {x0 : Int} (h0 : 0 ≤ x0) (h1 : x0 ≤ 1) : 0 ≤ x0 ∧ x0 ≤ 1 := by omega
theorem la_expression_1 {x0 x1 x2 x3 x4 x5 x6 x7 x8 x9 : Int} (h0 : 0 ≤ x0) (h1 : x0 < x1) (h2 : x1 = x2) (h3 : x2 ≤ 1 + x3) (h4 : 0 ≤ x4) (h5 : 0 ≤ x5) (h6 : 0 ≤ x6) (h7 : 0 ≤ x7) (h8 : 0 ≤ x8) (h9 : x8 ≤ 20) (h10 : x4 ≤ 3 * x8 + 5) (h11 : x7 ≤ 2 * x3) (h12 : x5 ≤ x8) (h13 : x6 ≤ x8) : 0 ≤ x0 ∧ x0 < x1 ∧ x1 = x2 ∧ x2 ≤ 1 + x3 ∧ 0 ≤ x4 ∧ x4 ≤ 100 ∧ 0 ≤ x5 ∧ x5 ≤ 30 ∧ 0 ≤ x6 ∧ x6 ≤ 30 ∧ 0 ≤ x7 ∧ (x9 = 0 → 0 ≤ x8 ∧ x8 ≤ 20 ∧ x4 ≤ 3 * x8 + 5 ∧ x7 ≤ 2 * x3 ∧ x5 ≤ x8 ∧ x6 ≤ x8) := by omega
theorem la_expression_2 {x0 : Int} (h0 : x0 = 0) : ¬ 0 < x0 := by omega
theorem la_expression_3 {x0 x1 : Int} (h0 : x0 ≤ 20) (h1 : x1 = 30 * (20 - x0) + 25) : 0 ≤ x1 := by omega
theorem la_expression_4 {x0 x1 x2 : Int} (h0 : 30 * (20 - x0) + 26 = x1) (h1 : x2 = 30 * (20 - x0) + 25) : x2 < x1 := by omega
theorem la_expression_5 {x0 x1 : Int} (h0 : x0 = 30 * (20 - x1) + 25) : x0 + 1 ≤ 30 * (20 - x1) + 26 := by omega
theorem la_expression_6 {x0 x1 : Int} (h0 : 0 ≤ x0) (h1 : x0 ≤ x1) : 0 ≤ x1 := by omega
theorem la_expression_7 {x0 x1 : Int} (h0 : 0 ≤ x0) (h1 : x1 = x0) : 0 ≤ x1 := by omega
theorem la_expression_8 {x0 x1 x2 x3 x4 x5 : Int} (h0 : x0 < x1) (h1 : x1 = x2) (h2 : x3 = x0) (h3 : x2 ≤ x4) (h4 : x5 = x4) : x3 < x5 := by omega
theorem la_expression_9 {x0 x1 x2 : Int} (h0 : x0 ≤ 20) (h1 : x1 ≤ 3 * x0 + 5) (h2 : x2 = x1) : x2 ≤ 100 := by omega
theorem la_expression_10 {x0 x1 x2 : Int} (h0 : x0 ≤ 20) (h1 : x1 ≤ x0) (h2 : x2 = x1) : x2 ≤ 30 := by omega
theorem la_expression_11 {x0 x1 x2 x3 x4 x5 x6 x7 x8 x9 x10 x11 x12 : Int} (h0 : 0 ≤ x0) (h1 : x0 ≤ 20) (h2 : x1 ≤ 3 * x0 + 5) (h3 : x2 ≤ 2 * x3) (h4 : x4 ≤ x0) (h5 : x5 ≤ x0) (h6 : 0 ≤ x6) (h7 : x7 = x1) (h8 : x8 = x4) (h9 : x9 = x5) (h10 : x6 = 0 → x10 = x0 ∧ x11 + 1 ≤ x2 + 2 * (x12 - x3)) : x6 = 0 → 0 ≤ x10 ∧ x10 ≤ 20 ∧ x7 ≤ 3 * x10 + 5 ∧ x11 ≤ 2 * x12 ∧ x8 ≤ x10 ∧ x9 ≤ x10 := by omega
theorem la_expression_12 {x0 x1 x2 x3 x4 x5 x6 x7 : Int} (h0 : x0 ≤ 20) (h1 : x1 = 0 → x2 = x0 ∧ x3 + 1 ≤ x4 + 2 * (x5 - x6)) (h2 : 0 < x1 → x3 ≤ x4 + 2 * (x5 - x6) + 2 * x7) (h3 : x7 = 30 * (20 - x0) + 25) : 0 < x1 → x3 ≤ x4 + 2 * (x5 - x6) + 2 * (30 * (20 - x0) + 26) := by omega
theorem la_expression_13 {x0 x1 x2 : Int} (h0 : x0 < x1) (h1 : 0 ≤ x2) : 0 ≤ 2 * (x1 - x0) + x2 := by omega
theorem la_expression_14 {x0 : Int} (h0 : 0 ≤ x0) (h1 : ¬ x0 = 0) : 0 < x0 := by omega
theorem la_expression_15 {x0 : Int} (h0 : 0 < x0) (h1 : x0 = 0) : False := by omega
theorem la_expression_16 {x0 : Int} (h0 : ¬ ¬ x0 = 0) : x0 = 0 := by omega
theorem la_expression_17 {x0 : Int} (h0 : ¬ ¬ x0 = 0) : ¬ 0 < x0 := by omega
theorem la_expression_18 {x0 : Int} (h0 : 0 ≤ x0) (h1 : ¬ ¬ x0 = 0) : x0 = 0 := by omega
theorem la_expression_19 {x0 x1 x2 : Int} (h0 : 0 ≤ x0) (h1 : x1 ≤ 4001) (h2 : x2 < x1) (h3 : x0 < x2) : 0 ≤ x2 ∧ x2 ≤ 4000 := by omega
theorem la_expression_20 {x0 : Int} (h0 : x0 ≤ 20) : 0 + 1 ≤ 30 * (20 - x0) + 26 := by omega
theorem la_expression_21 {x0 x1 : Int} (h0 : x0 ≤ 4001) (h1 : 0 ≤ x1) (h2 : x1 < x0) : sv_R (x1 + 1) := by omega
theorem la_expression_22 {x0 x1 : Int} (h0 : 0 ≤ x0) (h1 : x0 < x1) : 0 ≤ x1 + 1 := by omega
theorem la_expression_23 {x0 : Int} (h0 : x0 = 5) : 1 ≤ x0 := by omega
theorem la_expression_24 {x0 : Int} (h0 : x0 = 5) : x0 ≤ 5 := by omega
theorem la_expression_25 {x0 x1 : Int} (h0 : x0 ≤ 1 + x1) : x0 ≤ 1 + (x1 + 1) := by omega
theorem la_expression_26 {x0 x1 : Int} (h0 : x0 ≤ 2 * x1) : x0 ≤ 2 * (x1 + 1) := by omega
theorem la_expression_27 {x0 x1 x2 x3 : Int} (h0 : 30 * (20 - x0) + 26 = x1) (h1 : x2 = x0) (h2 : x3 = 30 * (20 - x2) + 25) : x3 < x1 := by omega
theorem la_expression_28 {x0 x1 x2 : Int} (h0 : x0 = x1) (h1 : x2 = 30 * (20 - x0) + 25) : x2 + 1 ≤ 30 * (20 - x1) + 26 := by omega
theorem la_expression_29 {x0 x1 x2 : Int} (h0 : 0 ≤ x0) (h1 : x0 < x1) (h2 : x1 ≤ x2) : 0 ≤ x2 := by omega
theorem la_expression_30 {x0 x1 x2 x3 x4 x5 x6 x7 x8 : Int} (h0 : x0 ≤ 4001) (h1 : 0 ≤ x1) (h2 : x2 ≤ 2 * x3) (h3 : x4 < x0) (h4 : 0 ≤ x5) (h5 : x5 = 0 → x6 = x1 ∧ x7 + 1 ≤ x2 + 2 * (x4 - (x3 + 1))) (h6 : 0 < x5 → x7 ≤ x2 + 2 * (x4 - (x3 + 1)) + 2 * x8) (h7 : x8 = 30 * (20 - x1) + 25) : x7 < 12000 := by omega
theorem la_expression_31 {x0 : Int} (h0 : 0 ≤ x0) (h1 : x0 ≤ 20) : sv_R (17 * (20 - x0) + 17) := by omega
theorem la_expression_32 {x0 : Int} (h0 : 0 ≤ x0) (h1 : x0 ≤ 20) : sv_R (20 - x0) := by omega
theorem la_expression_33 {x0 x1 x2 : Int} (h0 : 0 ≤ x0) (h1 : x0 < x1) (h2 : x1 + 1 ≤ x2) : 0 ≤ x2 := by omega
theorem la_expression_34 {x0 x1 x2 : Int} (h0 : x0 = x1) (h1 : 0 ≤ x2) (h2 : x2 < x1) : 0 ≤ x0 := by omega
theorem la_expression_35 {x0 x1 x2 : Int} (h0 : x0 = x1) (h1 : x2 = x1 + 1) : x0 < x2 := by omega
theorem la_expression_36 {x0 x1 x2 : Int} (h0 : x0 ≤ x1) (h1 : x2 = x1 + 1) : x0 ≤ x2 := by omega
theorem la_expression_37 {x0 x1 x2 x3 x4 : Int} (h0 : x0 < x1) (h1 : x1 ≤ x2) (h2 : x3 = x2) (h3 : x4 = x0) : x4 < x3 := by omega
theorem la_expression_38 {x0 x1 : Int} (h0 : x0 = x1) : 17 * (20 - x0) + 17 ≤ 17 * (20 - x1) + 17 := by omega
theorem la_expression_39 {x0 x1 : Int} (h0 : x0 = x1) : 20 - x0 ≤ 20 - x1 := by omega
theorem la_expression_40 {x0 x1 : Int} (h0 : x0 = x1 + 1) : x1 ≤ x0 := by omega
theorem la_expression_41 {x0 x1 x2 : Int} (h0 : 0 ≤ x0) (h1 : x0 ≤ x1) (h2 : x2 = x1 + 1) : 0 ≤ x2 := by omega
theorem la_expression_42 {x0 x1 x2 x3 x4 x5 x6 x7 x8 x9 x10 x11 x12 x13 x14 x15 : Int} (h0 : x0 ≤ 2 * x1) (h1 : 0 ≤ x2) (h2 : x2 ≤ 20) (h3 : x3 ≤ 3 * x2 + 5) (h4 : x4 ≤ x2) (h5 : x5 ≤ x2) (h6 : x6 + 1 ≤ x0 + 2 * (x7 - x1)) (h7 : x8 = x3) (h8 : x9 = x4) (h9 : x10 = x5) (h10 : x11 = 0 → x12 = x2 ∧ x13 + 1 ≤ x6 + 2 * (x14 - (x7 + 1))) (h11 : x15 = x13 + 1) : x11 = 0 → 0 ≤ x12 ∧ x12 ≤ 20 ∧ x8 ≤ 3 * x12 + 5 ∧ x15 ≤ 2 * x14 ∧ x9 ≤ x12 ∧ x10 ≤ x12 := by omega
theorem la_expression_43 {x0 x1 x2 : Int} (h0 : x0 < x1) (h1 : x1 + 1 ≤ x2) : x0 ≤ x2 := by omega
theorem la_expression_44 {x0 x1 : Int} (h0 : x0 = 0) : 0 < x0 → 0 < x1 := by omega
theorem la_expression_45 {x0 x1 x2 : Int} (h0 : x0 ≤ x1) (h1 : x1 ≤ x2) : x0 ≤ x2 := by omega
theorem la_expression_46 {x0 x1 x2 : Int} (h0 : x0 = 1 → x1 = 1) (h1 : x1 = 1 → x2 = 1) : x0 = 1 → x2 = 1 := by omega
theorem la_expression_47 {x0 x1 x2 x3 : Int} (h0 : x0 ≤ x1) (h1 : x1 ≤ x2) (h2 : x3 = x2) : x0 ≤ x3 := by omega
theorem la_expression_48 {x0 x1 : Int} (h0 : x0 = x1) : x1 ≤ x0 := by omega
theorem la_expression_49 {x0 x1 x2 : Int} (h0 : x0 = x1) (h1 : x2 = x0) : x2 = x1 := by omega
theorem la_expression_50 {x0 x1 x2 x3 : Int} (h0 : x0 ≤ x1) (h1 : x1 ≤ x2) (h2 : x3 = x2 + 1) : x0 ≤ x3 := by omega
theorem la_expression_51 {x0 x1 x2 x3 x4 x5 x6 x7 x8 x9 x10 : Int} (h0 : x0 = x1) (h1 : x2 + 1 ≤ x3 + 2 * (x4 - x5)) (h2 : x6 = 0 → x7 = x0 ∧ x8 + 1 ≤ x2 + 2 * (x9 - (x4 + 1))) (h3 : x10 = x8 + 1) : x6 = 0 → x7 = x1 ∧ x10 + 1 ≤ x3 + 2 * (x9 - x5) := by omega
theorem la_expression_52 {x0 x1 x2 x3 x4 x5 x6 x7 x8 x9 x10 x11 : Int} (h0 : x0 ≤ 20) (h1 : x1 = x0) (h2 : x2 + 1 ≤ x3 + 2 * (x4 - x5)) (h3 : x6 = 0 → x7 = x1 ∧ x8 + 1 ≤ x2 + 2 * (x9 - (x4 + 1))) (h4 : 0 < x6 → x8 ≤ x2 + 2 * (x9 - (x4 + 1)) + 2 * x10) (h5 : x10 = 30 * (20 - x1) + 25) (h6 : x11 = x8 + 1) : 0 < x6 → x11 ≤ x3 + 2 * (x9 - x5) + 2 * (30 * (20 - x0) + 26) := by omega
theorem la_expression_53 {x0 x1 x2 : Int} (h0 : 0 ≤ x0) (h1 : x0 ≤ x1) (h2 : x2 = x1) : (-1) ≤ x2 := by omega
theorem la_expression_54 {x0 x1 : Int} (h0 : x0 = x1) : ¬ x0 < x1 := by omega
theorem la_expression_55 {x0 x1 x2 x3 x4 x5 x6 x7 x8 x9 : Int} (h0 : x0 ≤ 4001) (h1 : 0 ≤ x1) (h2 : x2 ≤ 2 * x3) (h3 : x4 < x0) (h4 : 0 ≤ x5) (h5 : x5 = 0 → x6 = x1 ∧ x7 + 1 ≤ x2 + 2 * (x4 - (x3 + 1))) (h6 : 0 < x5 → x7 ≤ x2 + 2 * (x4 - (x3 + 1)) + 2 * x8) (h7 : x8 = 30 * (20 - x1) + 25) (h8 : x9 = x7) : x9 < 12000 := by omega
theorem la_expression_56 {x0 x1 x2 : Int} (h0 : x0 < x1) (h1 : x1 + 1 < x2) : x0 < x2 := by omega
theorem la_expression_57 : (1 : Int) = 1 := by omega
theorem la_expression_58 {x0 : Int} : 17 * (20 - x0) + 17 ≤ 17 * (20 - x0) + 17 := by omega
theorem la_expression_59 {x0 : Int} : 20 - x0 ≤ 20 - x0 := by omega
theorem la_expression_60 {x0 : Int} (h0 : x0 = 3) : ¬ x0 = 2 := by omega
theorem la_expression_61 {x0 x1 : Int} (h0 : 0 ≤ x0) (h1 : x0 < x1) : 0 ≤ x1 := by omega
theorem la_expression_62 {x0 x1 x2 x3 : Int} (h0 : x0 < x1) (h1 : x1 ≤ x2) (h2 : x3 = x0) : x3 < x2 := by omega
theorem la_expression_63 {x0 x1 x2 : Int} (h0 : x0 < x1) (h1 : x1 ≤ x2) : x0 < x2 := by omega
theorem la_expression_64 {x0 x1 x2 : Int} (h0 : x0 < x1) (h1 : x2 = x0) : x2 < x1 := by omega
theorem la_expression_65 {x0 x1 x2 : Int} (h0 : x0 < x1) (h1 : x2 + 1 < x0) : x2 + 1 < x1 := by omega
theorem la_expression_66 {x0 : Int} : x0 = x0 := by omega
theorem la_expression_67 {x0 x1 : Int} (h0 : x0 = x1) : x1 = x0 := by omega
theorem la_expression_68 {x0 x1 : Int} (h0 : x0 = x1) : 5 * x1 = 5 * x0 := by omega
theorem la_expression_69 {x0 x1 : Int} (h0 : x0 = x1) : 5 * x1 + 1 = 5 * x0 + 1 := by omega
theorem la_expression_70 {x0 x1 : Int} (h0 : x0 = x1) : 5 * x1 + 2 = 5 * x0 + 2 := by omega
theorem la_expression_71 {x0 x1 : Int} (h0 : x0 = x1) : 5 * x1 + 3 = 5 * x0 + 3 := by omega
theorem la_expression_72 {x0 x1 : Int} (h0 : x0 = x1) : 5 * x1 + 4 = 5 * x0 + 4 := by omega
theorem la_expression_73 {x0 : Int} (h0 : x0 = 3) (h1 : x0 = 7) : False := by omega
theorem la_expression_74 {x0 x1 x2 x3 x4 : Int} (h0 : x0 + 1 ≤ x1) (h1 : x2 ≤ 1) (h2 : x3 = 1) : 2 * (x4 - x1) + x2 < 2 * (x4 - x0) + x3 := by omega
set_option maxHeartbeats 8000000 in
theorem f_expression : ∀ (d : Int) (p1 : Int) (S : sv_S), sm_ok S → (0 ≤ p1 ∧ p1 ≤ 1) → (0 ≤ (S 1020 0) ∧ (S 1020 0) < (S 1012 0) ∧ sm_TK (S 6) (S 8) (S 9) (S 10) (S 1012 0) ∧ 0 ≤ (S 1021 0) ∧ 0 ≤ (S 1004 0) ∧ (S 1004 0) ≤ 4000 ∧ 0 ≤ (S 1007 0) ∧ (S 1007 0) ≤ 90 ∧ sm_LN (S 4) (S 1007 0) ∧ ((S 1021 0) = 0 → sm_WF (S 11) (S 12) (S 13) (S 1100001) (S 1100002) (S 1100005) (S 1100003) (S 1100004) (S 1024 0) (S 1007 0) (S 1009 0) (S 1032 0)) ∧ sm_HD (S 23) (S 24) (S 1100018 0) (S 1007 0) ∧ sm_HD (S 25) (fun _ : Int => (S 1042 0)) 1 (S 1007 0) ∧ 0 ≤ (S 1043 0) ∧ (S 1043 0) < (S 1100018 0) ∧ (S 1100018 0) = (S 1032 0) ∧ (S 1032 0) ≤ 1 + (S 1020 0) ∧ 0 ≤ (S 1031 0) ∧ (S 1031 0) ≤ 100 ∧ 0 ≤ (S 1044 0) ∧ (S 1044 0) ≤ 30 ∧ 0 ≤ (S 1045 0) ∧ (S 1045 0) ≤ 30 ∧ 0 ≤ (S 1024 0) ∧ ((S 1021 0) = 0 → 0 ≤ (S 1023 0) ∧ (S 1023 0) ≤ 20 ∧ (S 1031 0) ≤ 3 * (S 1023 0) + 5 ∧ (S 1024 0) ≤ 2 * (S 1020 0) ∧ (S 1044 0) ≤ (S 1023 0) ∧ (S 1045 0) ≤ (S 1023 0)) ∧ (S 1021 0) = 0) → (30 * (20 - (S 1023 0)) + 26) = d → (0 ≤ p1 ∧ p1 ≤ 1) ∧ (0 ≤ (S 1020 0) ∧ (S 1020 0) < (S 1012 0) ∧ sm_TK (S 6) (S 8) (S 9) (S 10) (S 1012 0) ∧ 0 ≤ (S 1021 0) ∧ 0 ≤ (S 1004 0) ∧ (S 1004 0) ≤ 4000 ∧ 0 ≤ (S 1007 0) ∧ (S 1007 0) ≤ 90 ∧ sm_LN (S 4) (S 1007 0) ∧ ((S 1021 0) = 0 → sm_WF (S 11) (S 12) (S 13) (S 1100001) (S 1100002) (S 1100005) (S 1100003) (S 1100004) (S 1024 0) (S 1007 0) (S 1009 0) (S 1032 0)) ∧ sm_HD (S 23) (S 24) (S 1100018 0) (S 1007 0) ∧ sm_HD (S 25) (fun _ : Int => (S 1042 0)) 1 (S 1007 0) ∧ 0 ≤ (S 1043 0) ∧ (S 1043 0) < (S 1100018 0) ∧ (S 1100018 0) = (S 1032 0) ∧ (S 1032 0) ≤ 1 + (S 1020 0) ∧ 0 ≤ (S 1031 0) ∧ (S 1031 0) ≤ 100 ∧ 0 ≤ (S 1044 0) ∧ (S 1044 0) ≤ 30 ∧ 0 ≤ (S 1045 0) ∧ (S 1045 0) ≤ 30 ∧ 0 ≤ (S 1024 0) ∧ ((S 1021 0) = 0 → 0 ≤ (S 1023 0) ∧ (S 1023 0) ≤ 20 ∧ (S 1031 0) ≤ 3 * (S 1023 0) + 5 ∧ (S 1024 0) ≤ 2 * (S 1020 0) ∧ (S 1044 0) ≤ (S 1023 0) ∧ (S 1045 0) ≤ (S 1023 0))) ∧ (0 ≤ ((if 0 < (S 1021 0) then 12 else 30 * (20 - (S 1023 0)) + 25)) ∧ ((if 0 < (S 1021 0) then 12 else 30 * (20 - (S 1023 0)) + 25)) < d) ∧ (0 ≤ ((if 0 < (S 1021 0) then 12 else 30 * (20 - (S 1023 0)) + 25)) ∧ ((if 0 < (S 1021 0) then 12 else 30 * (20 - (S 1023 0)) + 25)) + 1 ≤ (30 * (20 - (S 1023 0)) + 26)) ∧ (∀ r9 : Int, sv_R r9 → ∀ g5 : sv_S, ((S 1020 0) ≤ (g5 1020 0) ∧ (g5 1020 0) < (S 1012 0) ∧ 0 ≤ (g5 1021 0) ∧ (0 < (S 1021 0) → 0 < (g5 1021 0)) ∧ (S 1007 0) ≤ (g5 1007 0) ∧ (g5 1007 0) ≤ 90 ∧ sm_LN (g5 4) (g5 1007 0) ∧ ((S 1009 0) = 1 → (g5 1009 0) = 1) ∧ ((g5 1021 0) = 0 → sm_WF (g5 11) (g5 12) (g5 13) (g5 1100001) (g5 1100002) (g5 1100005) (g5 1100003) (g5 1100004) (g5 1024 0) (g5 1007 0) (g5 1009 0) (g5 1032 0) ∧ sm_PX (S 11) (S 12) (S 13) (S 1100001) (S 1100002) (S 1100005) (S 1100003) (S 1100004) (g5 11) (g5 12) (g5 13) (g5 1100001) (g5 1100002) (g5 1100005) (g5 1100003) (g5 1100004) (S 1024 0)) ∧ sm_KL (S 15) (S 16) (g5 15) (g5 16) (S 1031 0) ∧ sm_HD (g5 23) (g5 24) (g5 1100018 0) (g5 1007 0) ∧ sm_HD (g5 25) (fun _ : Int => (g5 1042 0)) 1 (g5 1007 0) ∧ (g5 1031 0) = (S 1031 0) ∧ (g5 1043 0) = (S 1043 0) ∧ (g5 1044 0) = (S 1044 0) ∧ (g5 1045 0) = (S 1045 0) ∧ (S 1032 0) ≤ (g5 1032 0) ∧ (g5 1032 0) ≤ 1 + (g5 1020 0) ∧ (g5 1100018 0) = (g5 1032 0) ∧ (S 1024 0) ≤ (g5 1024 0) ∧ ((g5 1021 0) = 0 → (g5 1023 0) = (S 1023 0) ∧ (g5 1024 0) + 1 ≤ (S 1024 0) + 2 * ((g5 1020 0) - (S 1020 0))) ∧ (0 < (g5 1021 0) → (g5 1024 0) ≤ (S 1024 0) + 2 * ((g5 1020 0) - (S 1020 0)) + 2 * ((if 0 < (S 1021 0) then 12 else 30 * (20 - (S 1023 0)) + 25))) ∧ -1 ≤ r9 ∧ r9 < 12000 ∧ ((g5 1021 0) = 0 → (S 1020 0) < (g5 1020 0) ∧ 1 ≤ (S 6 (S 1020 0)) ∧ sm_ex (g5 1100001) (g5 1100002) (g5 1100005) (g5 1024 0) 1 r9 (17 * (20 - (S 1023 0)) + 17) (20 - (S 1023 0)) ∧ ((g5 11 r9) = 2 ∨ (g5 11 r9) = 7 → (g5 1100002 r9) ≤ 17 * (20 - (S 1023 0)) + 2)) ∧ (0 < (S 1021 0) → (g5 1020 0) = (S 1020 0) ∧ (g5 1024 0) = (S 1024 0))) → ((0 ≤ (g5 1020 0) ∧ (g5 1020 0) < (S 1012 0) ∧ sm_TK (S 6) (S 8) (S 9) (S 10) (S 1012 0) ∧ 0 ≤ (g5 1021 0) ∧ 0 ≤ (S 1004 0) ∧ (S 1004 0) ≤ 4000 ∧ 0 ≤ (g5 1007 0) ∧ (g5 1007 0) ≤ 90 ∧ sm_LN (g5 4) (g5 1007 0) ∧ ((g5 1021 0) = 0 → sm_WF (g5 11) (g5 12) (g5 13) (g5 1100001) (g5 1100002) (g5 1100005) (g5 1100003) (g5 1100004) (g5 1024 0) (g5 1007 0) (g5 1009 0) (g5 1032 0)) ∧ sm_HD (g5 23) (g5 24) (g5 1100018 0) (g5 1007 0) ∧ sm_HD (g5 25) (fun _ : Int => (g5 1042 0)) 1 (g5 1007 0) ∧ 0 ≤ (g5 1043 0) ∧ (g5 1043 0) < (g5 1100018 0) ∧ (g5 1100018 0) = (g5 1032 0) ∧ (g5 1032 0) ≤ 1 + (g5 1020 0) ∧ 0 ≤ (g5 1031 0) ∧ (g5 1031 0) ≤ 100 ∧ 0 ≤ (g5 1044 0) ∧ (g5 1044 0) ≤ 30 ∧ 0 ≤ (g5 1045 0) ∧ (g5 1045 0) ≤ 30 ∧ 0 ≤ (g5 1024 0) ∧ ((g5 1021 0) = 0 → 0 ≤ (g5 1023 0) ∧ (g5 1023 0) ≤ 20 ∧ (g5 1031 0) ≤ 3 * (g5 1023 0) + 5 ∧ (g5 1024 0) ≤ 2 * (g5 1020 0) ∧ (g5 1044 0) ≤ (g5 1023 0) ∧ (g5 1045 0) ≤ (g5 1023 0)) ∧ (S 1020 0) ≤ (g5 1020 0) ∧ (g5 1020 0) < (S 1012 0) ∧ 0 ≤ (g5 1021 0) ∧ (0 < (S 1021 0) → 0 < (g5 1021 0)) ∧ (S 1007 0) ≤ (g5 1007 0) ∧ (g5 1007 0) ≤ 90 ∧ sm_LN (g5 4) (g5 1007 0) ∧ ((S 1009 0) = 1 → (g5 1009 0) = 1) ∧ ((g5 1021 0) = 0 → sm_WF (g5 11) (g5 12) (g5 13) (g5 1100001) (g5 1100002) (g5 1100005) (g5 1100003) (g5 1100004) (g5 1024 0) (g5 1007 0) (g5 1009 0) (g5 1032 0) ∧ sm_PX (S 11) (S 12) (S 13) (S 1100001) (S 1100002) (S 1100005) (S 1100003) (S 1100004) (g5 11) (g5 12) (g5 13) (g5 1100001) (g5 1100002) (g5 1100005) (g5 1100003) (g5 1100004) (S 1024 0)) ∧ sm_KL (S 15) (S 16) (g5 15) (g5 16) (S 1031 0) ∧ sm_HD (g5 23) (g5 24) (g5 1100018 0) (g5 1007 0) ∧ sm_HD (g5 25) (fun _ : Int => (g5 1042 0)) 1 (g5 1007 0) ∧ (g5 1031 0) = (S 1031 0) ∧ (g5 1043 0) = (S 1043 0) ∧ (g5 1044 0) = (S 1044 0) ∧ (g5 1045 0) = (S 1045 0) ∧ (S 1032 0) ≤ (g5 1032 0) ∧ (g5 1032 0) ≤ 1 + (g5 1020 0) ∧ (g5 1100018 0) = (g5 1032 0) ∧ (S 1024 0) ≤ (g5 1024 0) ∧ ((g5 1021 0) = 0 → (g5 1023 0) = (S 1023 0) ∧ (g5 1024 0) + 1 ≤ (S 1024 0) + 2 * ((g5 1020 0) - (S 1020 0))) ∧ (0 < (g5 1021 0) → (g5 1024 0) ≤ (S 1024 0) + 2 * ((g5 1020 0) - (S 1020 0)) + 2 * (30 * (20 - (S 1023 0)) + 26)) ∧ -1 ≤ r9 ∧ r9 < 12000 ∧ ((g5 1021 0) = 0 → (S 1020 0) < (g5 1020 0) ∧ 1 ≤ (S 6 (S 1020 0)) ∧ sm_ex (g5 1100001) (g5 1100002) (g5 1100005) (g5 1024 0) 1 r9 (17 * (20 - (S 1023 0)) + 17) (20 - (S 1023 0)) ∧ ((g5 11 r9) = 2 ∨ (g5 11 r9) = 7 → (g5 1100002 r9) ≤ 17 * (20 - (S 1023 0)) + 2))) ∧ (∀ l2_12 : Int, sv_R l2_12 → ∀ g11 : sv_S, (0 ≤ (g11 1020 0) ∧ (g11 1020 0) < (S 1012 0) ∧ sm_TK (S 6) (S 8) (S 9) (S 10) (S 1012 0) ∧ 0 ≤ (g11 1021 0) ∧ 0 ≤ (S 1004 0) ∧ (S 1004 0) ≤ 4000 ∧ 0 ≤ (g11 1007 0) ∧ (g11 1007 0) ≤ 90 ∧ sm_LN (g11 4) (g11 1007 0) ∧ ((g11 1021 0) = 0 → sm_WF (g11 11) (g11 12) (g11 13) (g11 1100001) (g11 1100002) (g11 1100005) (g11 1100003) (g11 1100004) (g11 1024 0) (g11 1007 0) (g11 1009 0) (g11 1032 0)) ∧ sm_HD (g11 23) (g11 24) (g11 1100018 0) (g11 1007 0) ∧ sm_HD (g11 25) (fun _ : Int => (g11 1042 0)) 1 (g11 1007 0) ∧ 0 ≤ (g11 1043 0) ∧ (g11 1043 0) < (g11 1100018 0) ∧ (g11 1100018 0) = (g11 1032 0) ∧ (g11 1032 0) ≤ 1 + (g11 1020 0) ∧ 0 ≤ (g11 1031 0) ∧ (g11 1031 0) ≤ 100 ∧ 0 ≤ (g11 1044 0) ∧ (g11 1044 0) ≤ 30 ∧ 0 ≤ (g11 1045 0) ∧ (g11 1045 0) ≤ 30 ∧ 0 ≤ (g11 1024 0) ∧ ((g11 1021 0) = 0 → 0 ≤ (g11 1023 0) ∧ (g11 1023 0) ≤ 20 ∧ (g11 1031 0) ≤ 3 * (g11 1023 0) + 5 ∧ (g11 1024 0) ≤ 2 * (g11 1020 0) ∧ (g11 1044 0) ≤ (g11 1023 0) ∧ (g11 1045 0) ≤ (g11 1023 0)) ∧ (S 1020 0) ≤ (g11 1020 0) ∧ (g11 1020 0) < (S 1012 0) ∧ 0 ≤ (g11 1021 0) ∧ (0 < (S 1021 0) → 0 < (g11 1021 0)) ∧ (S 1007 0) ≤ (g11 1007 0) ∧ (g11 1007 0) ≤ 90 ∧ sm_LN (g11 4) (g11 1007 0) ∧ ((S 1009 0) = 1 → (g11 1009 0) = 1) ∧ ((g11 1021 0) = 0 → sm_WF (g11 11) (g11 12) (g11 13) (g11 1100001) (g11 1100002) (g11 1100005) (g11 1100003) (g11 1100004) (g11 1024 0) (g11 1007 0) (g11 1009 0) (g11 1032 0) ∧ sm_PX (S 11) (S 12) (S 13) (S 1100001) (S 1100002) (S 1100005) (S 1100003) (S 1100004) (g11 11) (g11 12) (g11 13) (g11 1100001) (g11 1100002) (g11 1100005) (g11 1100003) (g11 1100004) (S 1024 0)) ∧ sm_KL (S 15) (S 16) (g11 15) (g11 16) (S 1031 0) ∧ sm_HD (g11 23) (g11 24) (g11 1100018 0) (g11 1007 0) ∧ sm_HD (g11 25) (fun _ : Int => (g11 1042 0)) 1 (g11 1007 0) ∧ (g11 1031 0) = (S 1031 0) ∧ (g11 1043 0) = (S 1043 0) ∧ (g11 1044 0) = (S 1044 0) ∧ (g11 1045 0) = (S 1045 0) ∧ (S 1032 0) ≤ (g11 1032 0) ∧ (g11 1032 0) ≤ 1 + (g11 1020 0) ∧ (g11 1100018 0) = (g11 1032 0) ∧ (S 1024 0) ≤ (g11 1024 0) ∧ ((g11 1021 0) = 0 → (g11 1023 0) = (S 1023 0) ∧ (g11 1024 0) + 1 ≤ (S 1024 0) + 2 * ((g11 1020 0) - (S 1020 0))) ∧ (0 < (g11 1021 0) → (g11 1024 0) ≤ (S 1024 0) + 2 * ((g11 1020 0) - (S 1020 0)) + 2 * (30 * (20 - (S 1023 0)) + 26)) ∧ -1 ≤ l2_12 ∧ l2_12 < 12000 ∧ ((g11 1021 0) = 0 → (S 1020 0) < (g11 1020 0) ∧ 1 ≤ (S 6 (S 1020 0)) ∧ sm_ex (g11 1100001) (g11 1100002) (g11 1100005) (g11 1024 0) 1 l2_12 (17 * (20 - (S 1023 0)) + 17) (20 - (S 1023 0)) ∧ ((g11 11 l2_12) = 2 ∨ (g11 11 l2_12) = 7 → (g11 1100002 l2_12) ≤ 17 * (20 - (S 1023 0)) + 2))) → (0 ≤ 2 * ((S 1012 0) - (g11 1020 0)) + (if (g11 1021 0) = 0 then 1 else 0)) ∧ (sv_R (g11 1021 0) → (((¬ (g11 1021 0) = (0 : Int)) → ((S 1020 0) ≤ (g11 1020 0) ∧ (g11 1020 0) < (S 1012 0) ∧ 0 ≤ (g11 1021 0) ∧ (0 < (S 1021 0) → 0 < (g11 1021 0)) ∧ (S 1007 0) ≤ (g11 1007 0) ∧ (g11 1007 0) ≤ 90 ∧ sm_LN (g11 4) (g11 1007 0) ∧ ((S 1009 0) = 1 → (g11 1009 0) = 1) ∧ ((g11 1021 0) = 0 → sm_WF (g11 11) (g11 12) (g11 13) (g11 1100001) (g11 1100002) (g11 1100005) (g11 1100003) (g11 1100004) (g11 1024 0) (g11 1007 0) (g11 1009 0) (g11 1032 0) ∧ sm_PX (S 11) (S 12) (S 13) (S 1100001) (S 1100002) (S 1100005) (S 1100003) (S 1100004) (g11 11) (g11 12) (g11 13) (g11 1100001) (g11 1100002) (g11 1100005) (g11 1100003) (g11 1100004) (S 1024 0)) ∧ sm_KL (S 15) (S 16) (g11 15) (g11 16) (S 1031 0) ∧ sm_HD (g11 23) (g11 24) (g11 1100018 0) (g11 1007 0) ∧ sm_HD (g11 25) (fun _ : Int => (g11 1042 0)) 1 (g11 1007 0) ∧ (g11 1031 0) = (S 1031 0) ∧ (g11 1043 0) = (S 1043 0) ∧ (g11 1044 0) = (S 1044 0) ∧ (g11 1045 0) = (S 1045 0) ∧ (S 1032 0) ≤ (g11 1032 0) ∧ (g11 1032 0) ≤ 1 + (g11 1020 0) ∧ (g11 1100018 0) = (g11 1032 0) ∧ (S 1024 0) ≤ (g11 1024 0) ∧ ((g11 1021 0) = 0 → (g11 1023 0) = (S 1023 0) ∧ (g11 1024 0) + 1 ≤ (S 1024 0) + 2 * ((g11 1020 0) - (S 1020 0))) ∧ (0 < (g11 1021 0) → (g11 1024 0) ≤ (S 1024 0) + 2 * ((g11 1020 0) - (S 1020 0)) + 2 * (30 * (20 - (S 1023 0)) + 26)) ∧ -1 ≤ l2_12 ∧ l2_12 < 12000 ∧ ((g11 1021 0) = 0 → (S 1020 0) < (g11 1020 0) ∧ 1 ≤ (S 6 (S 1020 0)) ∧ sm_ex (g11 1100001) (g11 1100002) (g11 1100005) (g11 1024 0) 1 l2_12 (17 * (20 - (S 1023 0)) + 17) (20 - (S 1023 0)) ∧ ((g11 11 l2_12) = 2 ∨ (g11 11 l2_12) = 7 → (g11 1100002 l2_12) ≤ 17 * (20 - (S 1023 0)) + 2)))) ∧ ((¬ (¬ (g11 1021 0) = (0 : Int))) → (0 ≤ (g11 1020 0) ∧ (g11 1020 0) ≤ 4000) ∧ (0 + 1 ≤ (30 * (20 - (S 1023 0)) + 26)) ∧ (((¬ ((S 6 (g11 1020 0)) = 5 ∧ (S 7 (g11 1020 0)) = (32 : Int))) → ((S 1020 0) ≤ (g11 1020 0) ∧ (g11 1020 0) < (S 1012 0) ∧ 0 ≤ (g11 1021 0) ∧ (0 < (S 1021 0) → 0 < (g11 1021 0)) ∧ (S 1007 0) ≤ (g11 1007 0) ∧ (g11 1007 0) ≤ 90 ∧ sm_LN (g11 4) (g11 1007 0) ∧ ((S 1009 0) = 1 → (g11 1009 0) = 1) ∧ ((g11 1021 0) = 0 → sm_WF (g11 11) (g11 12) (g11 13) (g11 1100001) (g11 1100002) (g11 1100005) (g11 1100003) (g11 1100004) (g11 1024 0) (g11 1007 0) (g11 1009 0) (g11 1032 0) ∧ sm_PX (S 11) (S 12) (S 13) (S 1100001) (S 1100002) (S 1100005) (S 1100003) (S 1100004) (g11 11) (g11 12) (g11 13) (g11 1100001) (g11 1100002) (g11 1100005) (g11 1100003) (g11 1100004) (S 1024 0)) ∧ sm_KL (S 15) (S 16) (g11 15) (g11 16) (S 1031 0) ∧ sm_HD (g11 23) (g11 24) (g11 1100018 0) (g11 1007 0) ∧ sm_HD (g11 25) (fun _ : Int => (g11 1042 0)) 1 (g11 1007 0) ∧ (g11 1031 0) = (S 1031 0) ∧ (g11 1043 0) = (S 1043 0) ∧ (g11 1044 0) = (S 1044 0) ∧ (g11 1045 0) = (S 1045 0) ∧ (S 1032 0) ≤ (g11 1032 0) ∧ (g11 1032 0) ≤ 1 + (g11 1020 0) ∧ (g11 1100018 0) = (g11 1032 0) ∧ (S 1024 0) ≤ (g11 1024 0) ∧ ((g11 1021 0) = 0 → (g11 1023 0) = (S 1023 0) ∧ (g11 1024 0) + 1 ≤ (S 1024 0) + 2 * ((g11 1020 0) - (S 1020 0))) ∧ (0 < (g11 1021 0) → (g11 1024 0) ≤ (S 1024 0) + 2 * ((g11 1020 0) - (S 1020 0)) + 2 * (30 * (20 - (S 1023 0)) + 26)) ∧ -1 ≤ l2_12 ∧ l2_12 < 12000 ∧ ((g11 1021 0) = 0 → (S 1020 0) < (g11 1020 0) ∧ 1 ≤ (S 6 (S 1020 0)) ∧ sm_ex (g11 1100001) (g11 1100002) (g11 1100005) (g11 1024 0) 1 l2_12 (17 * (20 - (S 1023 0)) + 17) (20 - (S 1023 0)) ∧ ((g11 11 l2_12) = 2 ∨ (g11 11 l2_12) = 7 → (g11 1100002 l2_12) ≤ 17 * (20 - (S 1023 0)) + 2)))) ∧ (((S 6 (g11 1020 0)) = 5 ∧ (S 7 (g11 1020 0)) = (32 : Int)) → (sv_R (g11 1020 0) → (sv_R ((g11 1020 0) + (1 : Int))) ∧ (0 ≤ ((g11 1020 0) + (1 : Int)) ∧ ((g11 1020 0) + (1 : Int)) < (S 1012 0) ∧ sm_TK (S 6) (S 8) (S 9) (S 10) (S 1012 0) ∧ 0 ≤ (g11 1021 0) ∧ 0 ≤ (S 1004 0) ∧ (S 1004 0) ≤ 4000 ∧ 0 ≤ (g11 1007 0) ∧ (g11 1007 0) ≤ 90 ∧ sm_LN (g11 4) (g11 1007 0) ∧ ((g11 1021 0) = 0 → sm_WF (g11 11) (g11 12) (g11 13) (g11 1100001) (g11 1100002) (g11 1100005) (g11 1100003) (g11 1100004) (g11 1024 0) (g11 1007 0) (g11 1009 0) (g11 1032 0)) ∧ sm_HD (g11 23) (g11 24) (g11 1100018 0) (g11 1007 0) ∧ sm_HD (g11 25) (fun _ : Int => (g11 1042 0)) 1 (g11 1007 0) ∧ 0 ≤ (g11 1043 0) ∧ (g11 1043 0) < (g11 1100018 0) ∧ (g11 1100018 0) = (g11 1032 0) ∧ (g11 1032 0) ≤ 1 + ((g11 1020 0) + (1 : Int)) ∧ 0 ≤ (g11 1031 0) ∧ (g11 1031 0) ≤ 100 ∧ 0 ≤ (g11 1044 0) ∧ (g11 1044 0) ≤ 30 ∧ 0 ≤ (g11 1045 0) ∧ (g11 1045 0) ≤ 30 ∧ 0 ≤ (g11 1024 0) ∧ ((g11 1021 0) = 0 → 0 ≤ (g11 1023 0) ∧ (g11 1023 0) ≤ 20 ∧ (g11 1031 0) ≤ 3 * (g11 1023 0) + 5 ∧ (g11 1024 0) ≤ 2 * ((g11 1020 0) + (1 : Int)) ∧ (g11 1044 0) ≤ (g11 1023 0) ∧ (g11 1045 0) ≤ (g11 1023 0))) ∧ (0 ≤ ((if 0 < (g11 1021 0) then 12 else 30 * (20 - (g11 1023 0)) + 25)) ∧ ((if 0 < (g11 1021 0) then 12 else 30 * (20 - (g11 1023 0)) + 25)) < d) ∧ (0 ≤ ((if 0 < (g11 1021 0) then 12 else 30 * (20 - (g11 1023 0)) + 25)) ∧ ((if 0 < (g11 1021 0) then 12 else 30 * (20 - (g11 1023 0)) + 25)) + 1 ≤ (30 * (20 - (S 1023 0)) + 26)) ∧ (∀ r33 : Int, sv_R r33 → ∀ g29 : sv_S, (((g11 1020 0) + (1 : Int)) ≤ (g29 1020 0) ∧ (g29 1020 0) < (S 1012 0) ∧ 0 ≤ (g29 1021 0) ∧ (0 < (g11 1021 0) → 0 < (g29 1021 0)) ∧ (g11 1007 0) ≤ (g29 1007 0) ∧ (g29 1007 0) ≤ 90 ∧ sm_LN (g29 4) (g29 1007 0) ∧ ((g11 1009 0) = 1 → (g29 1009 0) = 1) ∧ ((g29 1021 0) = 0 → sm_WF (g29 11) (g29 12) (g29 13) (g29 1100001) (g29 1100002) (g29 1100005) (g29 1100003) (g29 1100004) (g29 1024 0) (g29 1007 0) (g29 1009 0) (g29 1032 0) ∧ sm_PX (g11 11) (g11 12) (g11 13) (g11 1100001) (g11 1100002) (g11 1100005) (g11 1100003) (g11 1100004) (g29 11) (g29 12) (g29 13) (g29 1100001) (g29 1100002) (g29 1100005) (g29 1100003) (g29 1100004) (g11 1024 0)) ∧ sm_KL (g11 15) (g11 16) (g29 15) (g29 16) (g11 1031 0) ∧ sm_HD (g29 23) (g29 24) (g29 1100018 0) (g29 1007 0) ∧ sm_HD (g29 25) (fun _ : Int => (g29 1042 0)) 1 (g29 1007 0) ∧ (g29 1031 0) = (g11 1031 0) ∧ (g29 1043 0) = (g11 1043 0) ∧ (g29 1044 0) = (g11 1044 0) ∧ (g29 1045 0) = (g11 1045 0) ∧ (g11 1032 0) ≤ (g29 1032 0) ∧ (g29 1032 0) ≤ 1 + (g29 1020 0) ∧ (g29 1100018 0) = (g29 1032 0) ∧ (g11 1024 0) ≤ (g29 1024 0) ∧ ((g29 1021 0) = 0 → (g29 1023 0) = (g11 1023 0) ∧ (g29 1024 0) + 1 ≤ (g11 1024 0) + 2 * ((g29 1020 0) - ((g11 1020 0) + (1 : Int)))) ∧ (0 < (g29 1021 0) → (g29 1024 0) ≤ (g11 1024 0) + 2 * ((g29 1020 0) - ((g11 1020 0) + (1 : Int))) + 2 * ((if 0 < (g11 1021 0) then 12 else 30 * (20 - (g11 1023 0)) + 25))) ∧ -1 ≤ r33 ∧ r33 < 12000 ∧ ((g29 1021 0) = 0 → ((g11 1020 0) + (1 : Int)) < (g29 1020 0) ∧ 1 ≤ (S 6 ((g11 1020 0) + (1 : Int))) ∧ sm_ex (g29 1100001) (g29 1100002) (g29 1100005) (g29 1024 0) 1 r33 (17 * (20 - (g11 1023 0)) + 17) (20 - (g11 1023 0)) ∧ ((g29 11 r33) = 2 ∨ (g29 11 r33) = 7 → (g29 1100002 r33) ≤ 17 * (20 - (g11 1023 0)) + 2)) ∧ (0 < (g11 1021 0) → (g29 1020 0) = ((g11 1020 0) + (1 : Int)) ∧ (g29 1024 0) = (g11 1024 0))) → (0 ≤ (g29 1024 0) ∧ (g29 1024 0) < 12000) ∧ (∀ r41 : Int, sv_R r41 → ∀ g37 : sv_S, (r41 = (g29 1024 0) ∧ (g37 1024 0) = (g29 1024 0) + 1 ∧ (g37 11 r41) = (3 : Int) ∧ (g37 12 (5 * r41)) = l2_12 ∧ (g37 12 (5 * r41 + 1)) = r33 ∧ (g37 12 (5 * r41 + 2)) = (0 : Int) ∧ (g37 12 (5 * r41 + 3)) = -1 ∧ (g37 12 (5 * r41 + 4)) = -1 ∧ (g37 13 r41) = -1 ∧ (g37 14 r41) = 0 ∧ (∀ n : Int, n < (g29 1024 0) → (g37 14 n) = (g29 14 n)) ∧ (sm_WF (g29 11) (g29 12) (g29 13) (g29 1100001) (g29 1100002) (g29 1100005) (g29 1100003) (g29 1100004) (g29 1024 0) (g29 1007 0) (g29 1009 0) (g29 1032 0) → sm_WF (g37 11) (g37 12) (g37 13) (g29 1100001) (g29 1100002) (g29 1100005) (g29 1100003) (g29 1100004) (g37 1024 0) (g29 1007 0) (g29 1009 0) (g29 1032 0) ∧ (g29 1100001 r41) = 0) ∧ sm_PX (g29 11) (g29 12) (g29 13) (g29 1100001) (g29 1100002) (g29 1100005) (g29 1100003) (g29 1100004) (g37 11) (g37 12) (g37 13) (g29 1100001) (g29 1100002) (g29 1100005) (g29 1100003) (g29 1100004) (g29 1024 0)) → (sv_R ((17 * (20 - (S 1023 0)) + 17))) ∧ (sv_R ((20 - (S 1023 0)))) ∧ (((g29 1021 0) = 0 → sm_WF (g37 11) (g37 12) (g37 13) (g29 1100001) (g29 1100002) (g29 1100005) (g29 1100003) (g29 1100004) (g37 1024 0) (g29 1007 0) (g29 1009 0) (g29 1032 0) → (g29 1100001 r41) = 0 → 0 ≤ r41 → r41 < (g37 1024 0) → (g37 13 r41) = -1 → (g37 11 r41) = 3 → (sm_ex (g29 1100001) (g29 1100002) (g29 1100005) (g37 1024 0) 1 (g37 12 (5 * r41)) (17 * (20 - (S 1023 0)) + 17) (20 - (S 1023 0))) → ((g37 12 (5 * r41)) < r41) → (sm_ex (g29 1100001) (g29 1100002) (g29 1100005) (g37 1024 0) 1 (g37 12 (5 * r41 + 1)) (17 * (20 - (S 1023 0)) + 17) (20 - (S 1023 0))) → sm_WF (g37 11) (g37 12) (g37 13) (fun i' : Int => if i' = r41 then (1 : Int) else (g29 1100001) i') (fun i' : Int => if i' = r41 then ((17 * (20 - (S 1023 0)) + 17)) else (g29 1100002) i') (fun i' : Int => if i' = r41 then ((20 - (S 1023 0))) else (g29 1100005) i') (fun i' : Int => if i' = r41 then (0 : Int) else (g29 1100003) i') (fun i' : Int => if i' = r41 then (0 : Int) else (g29 1100004) i') (g37 1024 0) (g29 1007 0) (g29 1009 0) (g29 1032 0)) → ((0 ≤ (g29 1020 0) ∧ (g29 1020 0) < (S 1012 0) ∧ sm_TK (S 6) (S 8) (S 9) (S 10) (S 1012 0) ∧ 0 ≤ (g29 1021 0) ∧ 0 ≤ (S 1004 0) ∧ (S 1004 0) ≤ 4000 ∧ 0 ≤ (g29 1007 0) ∧ (g29 1007 0) ≤ 90 ∧ sm_LN (g29 4) (g29 1007 0) ∧ ((g29 1021 0) = 0 → sm_WF (g37 11) (g37 12) (g37 13) (fun i' : Int => if i' = r41 then (1 : Int) else (g29 1100001) i') (fun i' : Int => if i' = r41 then ((17 * (20 - (S 1023 0)) + 17)) else (g29 1100002) i') (fun i' : Int => if i' = r41 then ((20 - (S 1023 0))) else (g29 1100005) i') (fun i' : Int => if i' = r41 then (0 : Int) else (g29 1100003) i') (fun i' : Int => if i' = r41 then (0 : Int) else (g29 1100004) i') (g37 1024 0) (g29 1007 0) (g29 1009 0) (g29 1032 0)) ∧ sm_HD (g29 23) (g29 24) (g29 1100018 0) (g29 1007 0) ∧ sm_HD (g29 25) (fun _ : Int => (g29 1042 0)) 1 (g29 1007 0) ∧ 0 ≤ (g29 1043 0) ∧ (g29 1043 0) < (g29 1100018 0) ∧ (g29 1100018 0) = (g29 1032 0) ∧ (g29 1032 0) ≤ 1 + (g29 1020 0) ∧ 0 ≤ (g29 1031 0) ∧ (g29 1031 0) ≤ 100 ∧ 0 ≤ (g29 1044 0) ∧ (g29 1044 0) ≤ 30 ∧ 0 ≤ (g29 1045 0) ∧ (g29 1045 0) ≤ 30 ∧ 0 ≤ (g37 1024 0) ∧ ((g29 1021 0) = 0 → 0 ≤ (g29 1023 0) ∧ (g29 1023 0) ≤ 20 ∧ (g29 1031 0) ≤ 3 * (g29 1023 0) + 5 ∧ (g37 1024 0) ≤ 2 * (g29 1020 0) ∧ (g29 1044 0) ≤ (g29 1023 0) ∧ (g29 1045 0) ≤ (g29 1023 0)) ∧ (S 1020 0) ≤ (g29 1020 0) ∧ (g29 1020 0) < (S 1012 0) ∧ 0 ≤ (g29 1021 0) ∧ (0 < (S 1021 0) → 0 < (g29 1021 0)) ∧ (S 1007 0) ≤ (g29 1007 0) ∧ (g29 1007 0) ≤ 90 ∧ sm_LN (g29 4) (g29 1007 0) ∧ ((S 1009 0) = 1 → (g29 1009 0) = 1) ∧ ((g29 1021 0) = 0 → sm_WF (g37 11) (g37 12) (g37 13) (fun i' : Int => if i' = r41 then (1 : Int) else (g29 1100001) i') (fun i' : Int => if i' = r41 then ((17 * (20 - (S 1023 0)) + 17)) else (g29 1100002) i') (fun i' : Int => if i' = r41 then ((20 - (S 1023 0))) else (g29 1100005) i') (fun i' : Int => if i' = r41 then (0 : Int) else (g29 1100003) i') (fun i' : Int => if i' = r41 then (0 : Int) else (g29 1100004) i') (g37 1024 0) (g29 1007 0) (g29 1009 0) (g29 1032 0) ∧ sm_PX (S 11) (S 12) (S 13) (S 1100001) (S 1100002) (S 1100005) (S 1100003) (S 1100004) (g37 11) (g37 12) (g37 13) (fun i' : Int => if i' = r41 then (1 : Int) else (g29 1100001) i') (fun i' : Int => if i' = r41 then ((17 * (20 - (S 1023 0)) + 17)) else (g29 1100002) i') (fun i' : Int => if i' = r41 then ((20 - (S 1023 0))) else (g29 1100005) i') (fun i' : Int => if i' = r41 then (0 : Int) else (g29 1100003) i') (fun i' : Int => if i' = r41 then (0 : Int) else (g29 1100004) i') (S 1024 0)) ∧ sm_KL (S 15) (S 16) (g29 15) (g29 16) (S 1031 0) ∧ sm_HD (g29 23) (g29 24) (g29 1100018 0) (g29 1007 0) ∧ sm_HD (g29 25) (fun _ : Int => (g29 1042 0)) 1 (g29 1007 0) ∧ (g29 1031 0) = (S 1031 0) ∧ (g29 1043 0) = (S 1043 0) ∧ (g29 1044 0) = (S 1044 0) ∧ (g29 1045 0) = (S 1045 0) ∧ (S 1032 0) ≤ (g29 1032 0) ∧ (g29 1032 0) ≤ 1 + (g29 1020 0) ∧ (g29 1100018 0) = (g29 1032 0) ∧ (S 1024 0) ≤ (g37 1024 0) ∧ ((g29 1021 0) = 0 → (g29 1023 0) = (S 1023 0) ∧ (g37 1024 0) + 1 ≤ (S 1024 0) + 2 * ((g29 1020 0) - (S 1020 0))) ∧ (0 < (g29 1021 0) → (g37 1024 0) ≤ (S 1024 0) + 2 * ((g29 1020 0) - (S 1020 0)) + 2 * (30 * (20 - (S 1023 0)) + 26)) ∧ -1 ≤ r41 ∧ r41 < 12000 ∧ ((g29 1021 0) = 0 → (S 1020 0) < (g29 1020 0) ∧ 1 ≤ (S 6 (S 1020 0)) ∧ sm_ex (fun i' : Int => if i' = r41 then (1 : Int) else (g29 1100001) i') (fun i' : Int => if i' = r41 then ((17 * (20 - (S 1023 0)) + 17)) else (g29 1100002) i') (fun i' : Int => if i' = r41 then ((20 - (S 1023 0))) else (g29 1100005) i') (g37 1024 0) 1 r41 (17 * (20 - (S 1023 0)) + 17) (20 - (S 1023 0)) ∧ ((g37 11 r41) = 2 ∨ (g37 11 r41) = 7 → (if r41 = r41 then ((17 * (20 - (S 1023 0)) + 17)) else (g29 1100002 r41)) ≤ 17 * (20 - (S 1023 0)) + 2))) ∧ (2 * ((S 1012 0) - (g29 1020 0)) + (if (g29 1021 0) = 0 then 1 else 0)) < (2 * ((S 1012 0) - (g11 1020 0)) + (if (g11 1021 0) = 0 then 1 else 0))))))))))))))) := by
  intro d
  intro p1
  intro S
  intro h1_
  rintro ⟨h2_, h3_⟩
  rintro ⟨h4_, ⟨h5_, ⟨h6_, ⟨h7_, ⟨h8_, ⟨h9_, ⟨h10_, ⟨h11_, ⟨h12_, ⟨h13_, ⟨h14_, ⟨h15_, ⟨h16_, ⟨h17_, ⟨h18_, ⟨h19_, ⟨h20_, ⟨h21_, ⟨h22_, ⟨h23_, ⟨h24_, ⟨h25_, ⟨h26_, ⟨h27_, h28_⟩⟩⟩⟩⟩⟩⟩⟩⟩⟩⟩⟩⟩⟩⟩⟩⟩⟩⟩⟩⟩⟩⟩⟩
  obtain ⟨h29_, ⟨h30_, ⟨h31_, ⟨h32_, ⟨h33_, h34_⟩⟩⟩⟩⟩ := (h27_ h28_)
  have h35_ := (h13_ h28_)
  intro h36_
  refine ⟨(la_expression_0 h2_ h3_), ?_⟩
  refine ⟨⟨h4_, ⟨h5_, ⟨h6_, ⟨h7_, ⟨h8_, ⟨h9_, ⟨h10_, ⟨h11_, ⟨h12_, ⟨h13_, ⟨h14_, ⟨h15_, (la_expression_1 h16_ h17_ h18_ h19_ h20_ h22_ h24_ h26_ h29_ h30_ h31_ h32_ h33_ h34_)⟩⟩⟩⟩⟩⟩⟩⟩⟩⟩⟩⟩, ?_⟩
  refine ⟨?_, ?_⟩
  · skip
    refine ⟨?_, ?_⟩
    · skip
      have e37_ : (if 0 < S 1021 0 then 12 else 30 * (20 - S 1023 0) + 25 : Int) = 30 * (20 - S 1023 0) + 25 := if_neg (la_expression_2 h28_)
      exact (la_expression_3 h30_ e37_)
    have e38_ : (if 0 < S 1021 0 then 12 else 30 * (20 - S 1023 0) + 25 : Int) = 30 * (20 - S 1023 0) + 25 := if_neg (la_expression_2 h28_)
    exact (la_expression_4 h36_ e38_)
  refine ⟨?_, ?_⟩
  · skip
    refine ⟨?_, ?_⟩
    · skip
      have e39_ : (if 0 < S 1021 0 then 12 else 30 * (20 - S 1023 0) + 25 : Int) = 30 * (20 - S 1023 0) + 25 := if_neg (la_expression_2 h28_)
      exact (la_expression_3 h30_ e39_)
    have e40_ : (if 0 < S 1021 0 then 12 else 30 * (20 - S 1023 0) + 25 : Int) = 30 * (20 - S 1023 0) + 25 := if_neg (la_expression_2 h28_)
    exact (la_expression_5 e40_)
  intro r9
  intro h41_
  intro g5
  rintro ⟨h42_, ⟨h43_, ⟨h44_, ⟨h45_, ⟨h46_, ⟨h47_, ⟨h48_, ⟨h49_, ⟨h50_, ⟨h51_, ⟨h52_, ⟨h53_, ⟨h54_, ⟨h55_, ⟨h56_, ⟨h57_, ⟨h58_, ⟨h59_, ⟨h60_, ⟨h61_, ⟨h62_, ⟨h63_, ⟨h64_, ⟨h65_, ⟨h66_, h67_⟩⟩⟩⟩⟩⟩⟩⟩⟩⟩⟩⟩⟩⟩⟩⟩⟩⟩⟩⟩⟩⟩⟩⟩⟩
  have e68_ : (if 0 < S 1021 0 then 12 else 30 * (20 - S 1023 0) + 25 : Int) = 30 * (20 - S 1023 0) + 25 := if_neg (la_expression_2 h28_)
  refine ⟨?_, ?_⟩
  · skip
    refine ⟨(la_expression_6 h4_ h42_), ?_⟩
    refine ⟨h43_, ?_⟩
    refine ⟨h6_, ?_⟩
    refine ⟨h44_, ?_⟩
    refine ⟨h8_, ?_⟩
    refine ⟨h9_, ?_⟩
    refine ⟨(la_expression_6 h10_ h46_), ?_⟩
    refine ⟨h47_, ?_⟩
    refine ⟨h48_, ?_⟩
    refine ⟨?_, ?_⟩
    · skip
      intro h69_
      obtain ⟨h70_, h71_⟩ := (h62_ h69_)
      obtain ⟨h72_, h73_⟩ := (h50_ h69_)
      obtain ⟨h74_, ⟨h75_, ⟨h76_, h77_⟩⟩⟩ := (h66_ h69_)
      exact h72_
    refine ⟨h52_, ?_⟩
    refine ⟨h53_, ?_⟩
    refine ⟨(la_expression_7 h16_ h55_), ?_⟩
    refine ⟨(la_expression_8 h17_ h18_ h55_ h58_ h60_), ?_⟩
    refine ⟨h60_, ?_⟩
    refine ⟨h59_, ?_⟩
    refine ⟨(la_expression_7 h20_ h54_), ?_⟩
    refine ⟨(la_expression_9 h30_ h31_ h54_), ?_⟩
    refine ⟨(la_expression_7 h22_ h56_), ?_⟩
    refine ⟨(la_expression_10 h30_ h33_ h56_), ?_⟩
    refine ⟨(la_expression_7 h24_ h57_), ?_⟩
    refine ⟨(la_expression_10 h30_ h34_ h57_), ?_⟩
    refine ⟨(la_expression_6 h26_ h61_), ?_⟩
    refine ⟨(la_expression_11 h29_ h30_ h31_ h32_ h33_ h34_ h44_ h54_ h56_ h57_ h62_), ?_⟩
    refine ⟨h42_, ?_⟩
    refine ⟨h43_, ?_⟩
    refine ⟨h44_, ?_⟩
    refine ⟨h45_, ?_⟩
    refine ⟨h46_, ?_⟩
    refine ⟨h47_, ?_⟩
    refine ⟨h48_, ?_⟩
    refine ⟨h49_, ?_⟩
    refine ⟨h50_, ?_⟩
    refine ⟨h51_, ?_⟩
    refine ⟨h52_, ?_⟩
    refine ⟨h53_, ?_⟩
    refine ⟨h54_, ?_⟩
    refine ⟨h55_, ?_⟩
    refine ⟨h56_, ?_⟩
    refine ⟨h57_, ?_⟩
    refine ⟨h58_, ?_⟩
    refine ⟨h59_, ?_⟩
    refine ⟨h60_, ?_⟩
    refine ⟨h61_, ?_⟩
    refine ⟨h62_, ?_⟩
    refine ⟨(la_expression_12 h30_ h62_ h63_ e68_), ?_⟩
    refine ⟨h64_, ?_⟩
    refine ⟨h65_, ?_⟩
    intro h78_
    obtain ⟨h79_, h80_⟩ := (h62_ h78_)
    obtain ⟨h81_, h82_⟩ := (h50_ h78_)
    obtain ⟨h83_, ⟨h84_, ⟨h85_, h86_⟩⟩⟩ := (h66_ h78_)
    refine ⟨h83_, ?_⟩
    refine ⟨h84_, ?_⟩
    refine ⟨h85_, ?_⟩
    intro h87_
    have h88_ := (h86_ h87_)
    exact h88_
  intro l2_12
  intro h89_
  intro g11
  rintro ⟨h90_, ⟨h91_, ⟨h92_, ⟨h93_, ⟨h94_, ⟨h95_, ⟨h96_, ⟨h97_, ⟨h98_, ⟨h99_, ⟨h100_, ⟨h101_, ⟨h102_, ⟨h103_, ⟨h104_, ⟨h105_, ⟨h106_, ⟨h107_, ⟨h108_, ⟨h109_, ⟨h110_, ⟨h111_, ⟨h112_, ⟨h113_, ⟨h114_, ⟨h115_, ⟨h116_, ⟨h117_, ⟨h118_, ⟨h119_, ⟨h120_, ⟨h121_, ⟨h122_, ⟨h123_, ⟨h124_, ⟨h125_, ⟨h126_, ⟨h127_, ⟨h128_, ⟨h129_, ⟨h130_, ⟨h131_, ⟨h132_, ⟨h133_, ⟨h134_, ⟨h135_, ⟨h136_, ⟨h137_, h138_⟩⟩⟩⟩⟩⟩⟩⟩⟩⟩⟩⟩⟩⟩⟩⟩⟩⟩⟩⟩⟩⟩⟩⟩⟩⟩⟩⟩⟩⟩⟩⟩⟩⟩⟩⟩⟩⟩⟩⟩⟩⟩⟩⟩⟩⟩⟩⟩
  refine ⟨?_, ?_⟩
  · skip
    exact (la_expression_13 h91_ (sv_i01 (p := g11 1021 0 = 0)).1)
  intro h139_
  refine ⟨?_, ?_⟩
  · skip
    intro h140_
    have h141_ := (h135_ (la_expression_14 h93_ h140_))
    refine ⟨h114_, ?_⟩
    refine ⟨h91_, ?_⟩
    refine ⟨h93_, ?_⟩
    refine ⟨h117_, ?_⟩
    refine ⟨h118_, ?_⟩
    refine ⟨h97_, ?_⟩
    refine ⟨h98_, ?_⟩
    refine ⟨h121_, ?_⟩
    refine ⟨h122_, ?_⟩
    refine ⟨h123_, ?_⟩
    refine ⟨h100_, ?_⟩
    refine ⟨h101_, ?_⟩
    refine ⟨h126_, ?_⟩
    refine ⟨h127_, ?_⟩
    refine ⟨h128_, ?_⟩
    refine ⟨h129_, ?_⟩
    refine ⟨h130_, ?_⟩
    refine ⟨h105_, ?_⟩
    refine ⟨h104_, ?_⟩
    refine ⟨h133_, ?_⟩
    refine ⟨h134_, ?_⟩
    refine ⟨h135_, ?_⟩
    refine ⟨h136_, ?_⟩
    refine ⟨h137_, ?_⟩
    intro h142_
    refine ⟨?_, ?_⟩
    · skip
      exact ((la_expression_15 (la_expression_14 h93_ h140_) h142_)).elim
    refine ⟨?_, ?_⟩
    · skip
      exact ((la_expression_15 (la_expression_14 h93_ h140_) h142_)).elim
    refine ⟨?_, ?_⟩
    · skip
      exact ((la_expression_15 (la_expression_14 h93_ h140_) h142_)).elim
    intro h143_
    exact ((la_expression_15 (la_expression_14 h93_ h140_) h142_)).elim
  intro h144_
  obtain ⟨h145_, ⟨h146_, ⟨h147_, ⟨h148_, ⟨h149_, h150_⟩⟩⟩⟩⟩ := (h113_ (la_expression_16 h144_))
  obtain ⟨h151_, h152_⟩ := (h134_ (la_expression_16 h144_))
  have h153_ := (h99_ (la_expression_18 h93_ h144_))
  obtain ⟨h154_, h155_⟩ := (h122_ (la_expression_18 h93_ h144_))
  obtain ⟨h156_, ⟨h157_, ⟨h158_, h159_⟩⟩⟩ := (h138_ (la_expression_18 h93_ h144_))
  refine ⟨(la_expression_19 h4_ (sm_TK_t h6_).2 h91_ h156_), ?_⟩
  refine ⟨(la_expression_20 h30_), ?_⟩
  refine ⟨?_, ?_⟩
  · skip
    intro h160_
    refine ⟨h114_, ?_⟩
    refine ⟨h91_, ?_⟩
    refine ⟨h93_, ?_⟩
    refine ⟨h117_, ?_⟩
    refine ⟨h118_, ?_⟩
    refine ⟨h97_, ?_⟩
    refine ⟨h98_, ?_⟩
    refine ⟨h121_, ?_⟩
    refine ⟨h122_, ?_⟩
    refine ⟨h123_, ?_⟩
    refine ⟨h100_, ?_⟩
    refine ⟨h101_, ?_⟩
    refine ⟨h126_, ?_⟩
    refine ⟨h127_, ?_⟩
    refine ⟨h128_, ?_⟩
    refine ⟨h129_, ?_⟩
    refine ⟨h130_, ?_⟩
    refine ⟨h105_, ?_⟩
    refine ⟨h104_, ?_⟩
    refine ⟨h133_, ?_⟩
    refine ⟨h134_, ?_⟩
    refine ⟨h135_, ?_⟩
    refine ⟨h136_, ?_⟩
    refine ⟨h137_, ?_⟩
    intro h161_
    refine ⟨h156_, ?_⟩
    refine ⟨h157_, ?_⟩
    refine ⟨h158_, ?_⟩
    intro h162_
    have h163_ := (h159_ h162_)
    exact h163_
  rintro ⟨h164_, h165_⟩
  intro h166_
  refine ⟨(la_expression_21 (sm_TK_t h6_).2 h90_ h91_), ?_⟩
  refine ⟨?_, ?_⟩
  · skip
    refine ⟨(la_expression_22 h4_ h156_), ?_⟩
    refine ⟨?_, ?_⟩
    · skip
      have h167_ := ((sm_TK_go h6_ (g11 1020 0) h90_ h91_) (la_expression_23 h164_))
      have h168_ := ((sm_TK_go h6_ (S 1020 0) h4_ h5_) h157_)
      have h169_ := (h167_ (la_expression_24 h164_))
      exact h169_
    refine ⟨h6_, ?_⟩
    refine ⟨h93_, ?_⟩
    refine ⟨h8_, ?_⟩
    refine ⟨h9_, ?_⟩
    refine ⟨h96_, ?_⟩
    refine ⟨h97_, ?_⟩
    refine ⟨h98_, ?_⟩
    refine ⟨h99_, ?_⟩
    refine ⟨h100_, ?_⟩
    refine ⟨h101_, ?_⟩
    refine ⟨h102_, ?_⟩
    refine ⟨h103_, ?_⟩
    refine ⟨h104_, ?_⟩
    refine ⟨(la_expression_25 h105_), ?_⟩
    refine ⟨h106_, ?_⟩
    refine ⟨h107_, ?_⟩
    refine ⟨h108_, ?_⟩
    refine ⟨h109_, ?_⟩
    refine ⟨h110_, ?_⟩
    refine ⟨h111_, ?_⟩
    refine ⟨h112_, ?_⟩
    intro h170_
    refine ⟨h145_, ?_⟩
    refine ⟨h146_, ?_⟩
    refine ⟨h147_, ?_⟩
    refine ⟨(la_expression_26 h148_), ?_⟩
    refine ⟨h149_, ?_⟩
    exact h150_
  refine ⟨?_, ?_⟩
  · skip
    refine ⟨?_, ?_⟩
    · skip
      have e171_ : (if 0 < g11 1021 0 then 12 else 30 * (20 - g11 1023 0) + 25 : Int) = 30 * (20 - g11 1023 0) + 25 := if_neg (la_expression_17 h144_)
      have h172_ := ((sm_TK_go h6_ (g11 1020 0) h90_ h91_) (la_expression_23 h164_))
      have h173_ := ((sm_TK_go h6_ (S 1020 0) h4_ h5_) h157_)
      have h174_ := (h172_ (la_expression_24 h164_))
      exact (la_expression_3 h146_ e171_)
    have e175_ : (if 0 < g11 1021 0 then 12 else 30 * (20 - g11 1023 0) + 25 : Int) = 30 * (20 - g11 1023 0) + 25 := if_neg (la_expression_17 h144_)
    have h176_ := ((sm_TK_go h6_ (g11 1020 0) h90_ h91_) (la_expression_23 h164_))
    have h177_ := ((sm_TK_go h6_ (S 1020 0) h4_ h5_) h157_)
    have h178_ := (h176_ (la_expression_24 h164_))
    exact (la_expression_27 h36_ h151_ e175_)
  refine ⟨?_, ?_⟩
  · skip
    refine ⟨?_, ?_⟩
    · skip
      have e179_ : (if 0 < g11 1021 0 then 12 else 30 * (20 - g11 1023 0) + 25 : Int) = 30 * (20 - g11 1023 0) + 25 := if_neg (la_expression_17 h144_)
      have h180_ := ((sm_TK_go h6_ (g11 1020 0) h90_ h91_) (la_expression_23 h164_))
      have h181_ := ((sm_TK_go h6_ (S 1020 0) h4_ h5_) h157_)
      have h182_ := (h180_ (la_expression_24 h164_))
      exact (la_expression_3 h146_ e179_)
    have e183_ : (if 0 < g11 1021 0 then 12 else 30 * (20 - g11 1023 0) + 25 : Int) = 30 * (20 - g11 1023 0) + 25 := if_neg (la_expression_17 h144_)
    have h184_ := ((sm_TK_go h6_ (g11 1020 0) h90_ h91_) (la_expression_23 h164_))
    have h185_ := ((sm_TK_go h6_ (S 1020 0) h4_ h5_) h157_)
    have h186_ := (h184_ (la_expression_24 h164_))
    exact (la_expression_28 h151_ e183_)
  intro r33
  intro h187_
  intro g29
  rintro ⟨h188_, ⟨h189_, ⟨h190_, ⟨h191_, ⟨h192_, ⟨h193_, ⟨h194_, ⟨h195_, ⟨h196_, ⟨h197_, ⟨h198_, ⟨h199_, ⟨h200_, ⟨h201_, ⟨h202_, ⟨h203_, ⟨h204_, ⟨h205_, ⟨h206_, ⟨h207_, ⟨h208_, ⟨h209_, ⟨h210_, ⟨h211_, ⟨h212_, h213_⟩⟩⟩⟩⟩⟩⟩⟩⟩⟩⟩⟩⟩⟩⟩⟩⟩⟩⟩⟩⟩⟩⟩⟩⟩
  have e214_ : (if 0 < g11 1021 0 then 12 else 30 * (20 - g11 1023 0) + 25 : Int) = 30 * (20 - g11 1023 0) + 25 := if_neg (la_expression_17 h144_)
  refine ⟨?_, ?_⟩
  · skip
    refine ⟨(la_expression_29 (sm_ex_e h158_).1 (sm_ex_e h158_).2.1 h207_), ?_⟩
    have h215_ := ((sm_TK_go h6_ (g11 1020 0) h90_ h91_) (la_expression_23 h164_))
    have h216_ := ((sm_TK_go h6_ (S 1020 0) h4_ h5_) h157_)
    have h217_ := (h215_ (la_expression_24 h164_))
    exact (la_expression_30 (sm_TK_t h6_).2 h145_ h148_ h189_ h190_ h208_ h209_ e214_)
  intro r41
  intro h218_
  intro g37
  rintro ⟨h219_, ⟨h220_, ⟨h221_, ⟨h222_, ⟨h223_, ⟨h224_, ⟨h225_, ⟨h226_, ⟨h227_, ⟨h228_, ⟨h229_, ⟨h230_, h231_⟩⟩⟩⟩⟩⟩⟩⟩⟩⟩⟩⟩
  refine ⟨(la_expression_31 h29_ h30_), ?_⟩
  refine ⟨(la_expression_32 h29_ h30_), ?_⟩
  intro h232_
  refine ⟨?_, ?_⟩
  · skip
    refine ⟨(la_expression_33 h4_ h156_ h188_), ?_⟩
    refine ⟨h189_, ?_⟩
    refine ⟨h6_, ?_⟩
    refine ⟨h190_, ?_⟩
    refine ⟨h8_, ?_⟩
    refine ⟨h9_, ?_⟩
    refine ⟨(la_expression_6 h96_ h192_), ?_⟩
    refine ⟨h193_, ?_⟩
    refine ⟨h194_, ?_⟩
    refine ⟨?_, ?_⟩
    · skip
      intro h233_
      obtain ⟨h234_, h235_⟩ := (h208_ h233_)
      obtain ⟨h236_, h237_⟩ := (h196_ h233_)
      obtain ⟨h238_, ⟨h239_, ⟨h240_, h241_⟩⟩⟩ := (h212_ h233_)
      obtain ⟨h242_, h243_⟩ := (h230_ h236_)
      have h244_ := (h232_ h233_)
      have h245_ := (h244_ h242_)
      have h246_ := (h245_ h243_)
      have h247_ := (h246_ (la_expression_34 h219_ (sm_ex_e h240_).1 (sm_ex_e h240_).2.1))
      have h248_ := (h247_ (la_expression_35 h219_ h220_))
      have h249_ := (h248_ h227_)
      have h250_ := (h249_ h221_)
      have h251_ := (h250_ (sm_ex_eq h222_ (sm_ex_N (sm_ex_w (sm_ex_px (sm_PX_le h237_ (Int.le_refl _)) h158_) (Int.le_refl _) (Int.le_refl _)) (la_expression_36 h207_ h220_))))
      have h252_ := (h251_ (la_expression_37 (sm_ex_e h158_).2.1 h207_ h219_ h222_))
      have h253_ := (h252_ (sm_ex_eq h223_ (sm_ex_N (sm_ex_w h240_ (la_expression_38 h151_) (la_expression_39 h151_)) (la_expression_40 h220_))))
      exact h253_
    refine ⟨h198_, ?_⟩
    refine ⟨h199_, ?_⟩
    refine ⟨(la_expression_7 h102_ h201_), ?_⟩
    refine ⟨(la_expression_8 h103_ h104_ h201_ h204_ h206_), ?_⟩
    refine ⟨h206_, ?_⟩
    refine ⟨h205_, ?_⟩
    refine ⟨(la_expression_7 h106_ h200_), ?_⟩
    refine ⟨(la_expression_9 h146_ h147_ h200_), ?_⟩
    refine ⟨(la_expression_7 h108_ h202_), ?_⟩
    refine ⟨(la_expression_10 h146_ h149_ h202_), ?_⟩
    refine ⟨(la_expression_7 h110_ h203_), ?_⟩
    refine ⟨(la_expression_10 h146_ h150_ h203_), ?_⟩
    refine ⟨(la_expression_41 h112_ h207_ h220_), ?_⟩
    refine ⟨(la_expression_42 h32_ h145_ h146_ h147_ h149_ h150_ h152_ h200_ h202_ h203_ h208_ h220_), ?_⟩
    refine ⟨(la_expression_43 h156_ h188_), ?_⟩
    refine ⟨h189_, ?_⟩
    refine ⟨h190_, ?_⟩
    refine ⟨(la_expression_44 h28_), ?_⟩
    refine ⟨(la_expression_45 h118_ h192_), ?_⟩
    refine ⟨h193_, ?_⟩
    refine ⟨h194_, ?_⟩
    refine ⟨(la_expression_46 h121_ h195_), ?_⟩
    refine ⟨?_, ?_⟩
    · skip
      intro h254_
      obtain ⟨h255_, h256_⟩ := (h208_ h254_)
      obtain ⟨h257_, h258_⟩ := (h196_ h254_)
      obtain ⟨h259_, ⟨h260_, ⟨h261_, h262_⟩⟩⟩ := (h212_ h254_)
      obtain ⟨h263_, h264_⟩ := (h230_ h257_)
      have h265_ := (h232_ h254_)
      have h266_ := (h265_ h263_)
      have h267_ := (h266_ h264_)
      have h268_ := (h267_ (la_expression_34 h219_ (sm_ex_e h261_).1 (sm_ex_e h261_).2.1))
      have h269_ := (h268_ (la_expression_35 h219_ h220_))
      have h270_ := (h269_ h227_)
      have h271_ := (h270_ h221_)
      have h272_ := (h271_ (sm_ex_eq h222_ (sm_ex_N (sm_ex_w (sm_ex_px (sm_PX_le h258_ (Int.le_refl _)) h158_) (Int.le_refl _) (Int.le_refl _)) (la_expression_36 h207_ h220_))))
      have h273_ := (h272_ (la_expression_37 (sm_ex_e h158_).2.1 h207_ h219_ h222_))
      have h274_ := (h273_ (sm_ex_eq h223_ (sm_ex_N (sm_ex_w h261_ (la_expression_38 h151_) (la_expression_39 h151_)) (la_expression_40 h220_))))
      refine ⟨h274_, ?_⟩
      exact (sm_PX_up_Ws (sm_PX_up_Lp (sm_PX_up_V (sm_PX_up_M (sm_PX_up_C (sm_PX_tr (sm_PX_tr (sm_PX_le h155_ (Int.le_refl _)) h258_ h133_) h231_ (la_expression_45 h133_ h207_)) (la_expression_47 h133_ h207_ h219_)) (la_expression_47 h133_ h207_ h219_)) (la_expression_47 h133_ h207_ h219_)) (la_expression_47 h133_ h207_ h219_)) (la_expression_47 h133_ h207_ h219_))
    refine ⟨(sm_KL_tr (sm_KL_le h123_ (Int.le_refl _)) (sm_KL_le h197_ (la_expression_48 h126_)) (Int.le_refl _)), ?_⟩
    refine ⟨h198_, ?_⟩
    refine ⟨h199_, ?_⟩
    refine ⟨(la_expression_49 h126_ h200_), ?_⟩
    refine ⟨(la_expression_49 h127_ h201_), ?_⟩
    refine ⟨(la_expression_49 h128_ h202_), ?_⟩
    refine ⟨(la_expression_49 h129_ h203_), ?_⟩
    refine ⟨(la_expression_45 h130_ h204_), ?_⟩
    refine ⟨h205_, ?_⟩
    refine ⟨h206_, ?_⟩
    refine ⟨(la_expression_50 h133_ h207_ h220_), ?_⟩
    refine ⟨(la_expression_51 h151_ h152_ h208_ h220_), ?_⟩
    refine ⟨(la_expression_52 h30_ h151_ h152_ h208_ h209_ e214_ h220_), ?_⟩
    refine ⟨(la_expression_53 h112_ h207_ h219_), ?_⟩
    refine ⟨?_, ?_⟩
    · skip
      have h275_ := (h229_ r41)
      have h276_ := ((sm_TK_go h6_ (g11 1020 0) h90_ h91_) (la_expression_23 h164_))
      have h277_ := ((sm_TK_go h6_ (S 1020 0) h4_ h5_) h157_)
      have h278_ := (h276_ (la_expression_24 h164_))
      exact (la_expression_55 (sm_TK_t h6_).2 h145_ h148_ h189_ h190_ h208_ h209_ e214_ h219_)
    intro h279_
    obtain ⟨h280_, h281_⟩ := (h208_ h279_)
    obtain ⟨h282_, h283_⟩ := (h196_ h279_)
    obtain ⟨h284_, ⟨h285_, ⟨h286_, h287_⟩⟩⟩ := (h212_ h279_)
    obtain ⟨h288_, h289_⟩ := (h230_ h282_)
    have h290_ := (h232_ h279_)
    have h291_ := (h290_ h288_)
    have h292_ := (h291_ h289_)
    have h293_ := (h292_ (la_expression_34 h219_ (sm_ex_e h286_).1 (sm_ex_e h286_).2.1))
    have h294_ := (h293_ (la_expression_35 h219_ h220_))
    have h295_ := (h294_ h227_)
    have h296_ := (h295_ h221_)
    have h297_ := (h296_ (sm_ex_eq h222_ (sm_ex_N (sm_ex_w (sm_ex_px (sm_PX_le h283_ (Int.le_refl _)) h158_) (Int.le_refl _) (Int.le_refl _)) (la_expression_36 h207_ h220_))))
    have h298_ := (h297_ (la_expression_37 (sm_ex_e h158_).2.1 h207_ h219_ h222_))
    have h299_ := (h298_ (sm_ex_eq h223_ (sm_ex_N (sm_ex_w h286_ (la_expression_38 h151_) (la_expression_39 h151_)) (la_expression_40 h220_))))
    refine ⟨(la_expression_56 h156_ h284_), ?_⟩
    refine ⟨h157_, ?_⟩
    refine ⟨(sm_ex_if (la_expression_34 h219_ (sm_ex_e h286_).1 (sm_ex_e h286_).2.1) (la_expression_35 h219_ h220_) la_expression_57 la_expression_58 la_expression_59), ?_⟩
    intro h300_
    have h301_ := (h300_.resolve_left (la_expression_60 h221_))
    have h302_ := (h229_ r41)
    have e303_ : (if r41 = r41 then 17 * (20 - S 1023 0) + 17 else g29 1100002 r41 : Int) = 17 * (20 - S 1023 0) + 17 := if_pos la_expression_66
    have h304_ := ((sm_TK_go h6_ (S 1020 0) h4_ h5_) h157_)
    have h305_ := ((sm_TK_go h6_ (g11 1020 0 + 1) (la_expression_22 h4_ h156_) (la_expression_65 h189_ h284_)) h285_)
    have h306_ := ((sm_TK_go h6_ (g11 1020 0) h90_ h91_) (la_expression_23 h164_))
    have h307_ := (h306_ (la_expression_24 h164_))
    have e308_ : g11 11 l2_12 = g11 11 (g37 12 (5 * r41)) := congrArg ((g11 11)) (la_expression_67 h222_)
    have e309_ : g11 1100001 l2_12 = g11 1100001 (g37 12 (5 * r41)) := congrArg ((g11 1100001)) (la_expression_67 h222_)
    have e310_ : g11 1100002 l2_12 = g11 1100002 (g37 12 (5 * r41)) := congrArg ((g11 1100002)) (la_expression_67 h222_)
    have e311_ : g11 1100003 l2_12 = g11 1100003 (g37 12 (5 * r41)) := congrArg ((g11 1100003)) (la_expression_67 h222_)
    have e312_ : g11 1100004 l2_12 = g11 1100004 (g37 12 (5 * r41)) := congrArg ((g11 1100004)) (la_expression_67 h222_)
    have e313_ : g11 1100005 l2_12 = g11 1100005 (g37 12 (5 * r41)) := congrArg ((g11 1100005)) (la_expression_67 h222_)
    have e314_ : g11 12 (5 * l2_12) = g11 12 (5 * g37 12 (5 * r41)) := congrArg ((g11 12)) (la_expression_68 h222_)
    have e315_ : g11 12 (5 * l2_12 + 1) = g11 12 (5 * g37 12 (5 * r41) + 1) := congrArg ((g11 12)) (la_expression_69 h222_)
    have e316_ : g11 12 (5 * l2_12 + 2) = g11 12 (5 * g37 12 (5 * r41) + 2) := congrArg ((g11 12)) (la_expression_70 h222_)
    have e317_ : g11 12 (5 * l2_12 + 3) = g11 12 (5 * g37 12 (5 * r41) + 3) := congrArg ((g11 12)) (la_expression_71 h222_)
    have e318_ : g11 12 (5 * l2_12 + 4) = g11 12 (5 * g37 12 (5 * r41) + 4) := congrArg ((g11 12)) (la_expression_72 h222_)
    have e319_ : g11 13 l2_12 = g11 13 (g37 12 (5 * r41)) := congrArg ((g11 13)) (la_expression_67 h222_)
    have e320_ : g29 11 l2_12 = g29 11 (g37 12 (5 * r41)) := congrArg ((g29 11)) (la_expression_67 h222_)
    have e321_ : g29 1100001 l2_12 = g29 1100001 (g37 12 (5 * r41)) := congrArg ((g29 1100001)) (la_expression_67 h222_)
    have e322_ : g29 1100002 l2_12 = g29 1100002 (g37 12 (5 * r41)) := congrArg ((g29 1100002)) (la_expression_67 h222_)
    have e323_ : g29 1100003 l2_12 = g29 1100003 (g37 12 (5 * r41)) := congrArg ((g29 1100003)) (la_expression_67 h222_)
    have e324_ : g29 1100004 l2_12 = g29 1100004 (g37 12 (5 * r41)) := congrArg ((g29 1100004)) (la_expression_67 h222_)
    have e325_ : g29 1100005 l2_12 = g29 1100005 (g37 12 (5 * r41)) := congrArg ((g29 1100005)) (la_expression_67 h222_)
    have e326_ : g29 12 (5 * l2_12) = g29 12 (5 * g37 12 (5 * r41)) := congrArg ((g29 12)) (la_expression_68 h222_)
    have e327_ : g29 12 (5 * l2_12 + 1) = g29 12 (5 * g37 12 (5 * r41) + 1) := congrArg ((g29 12)) (la_expression_69 h222_)
    have e328_ : g29 12 (5 * l2_12 + 2) = g29 12 (5 * g37 12 (5 * r41) + 2) := congrArg ((g29 12)) (la_expression_70 h222_)
    have e329_ : g29 12 (5 * l2_12 + 3) = g29 12 (5 * g37 12 (5 * r41) + 3) := congrArg ((g29 12)) (la_expression_71 h222_)
    have e330_ : g29 12 (5 * l2_12 + 4) = g29 12 (5 * g37 12 (5 * r41) + 4) := congrArg ((g29 12)) (la_expression_72 h222_)
    have e331_ : g29 13 l2_12 = g29 13 (g37 12 (5 * r41)) := congrArg ((g29 13)) (la_expression_67 h222_)
    have e332_ : g37 11 l2_12 = g37 11 (g37 12 (5 * r41)) := congrArg ((g37 11)) (la_expression_67 h222_)
    have e333_ : g37 13 l2_12 = g37 13 (g37 12 (5 * r41)) := congrArg ((g37 13)) (la_expression_67 h222_)
    exact ((la_expression_73 h221_ h301_)).elim
  have h334_ := (h229_ r41)
  have e335_ : (if g11 1021 0 = 0 then 1 else 0 : Int) = 1 := if_pos (la_expression_18 h93_ h144_)
  have h336_ := ((sm_TK_go h6_ (g11 1020 0) h90_ h91_) (la_expression_23 h164_))
  have h337_ := ((sm_TK_go h6_ (S 1020 0) h4_ h5_) h157_)
  have h338_ := (h336_ (la_expression_24 h164_))
  exact (la_expression_74 h188_ (sv_i01 (p := g29 1021 0 = 0)).2 e335_)
set_option maxRecDepth 8000 in
set_option maxHeartbeats 2000000 in
theorem s_expression (d : Int) (h0 : 0 ≤ d) (IH : ∀ d' : Int, 0 ≤ d' → d' < d → P_P d') : T_expression d := by
  intro p1 S hok hp1 hpre hd
  have h := f_expression d p1 S hok hp1 hpre hd
  have hM := sm_h43
  show sv_T sm_XS sm_cs sm_L sm_sh (30 * (20 - (S 1023 0)) + 26).toNat (q_expression p1 S) 43 0 [(0, .ref 0), (1, sv_I p1)] [] S
  refine sv_aload_n hM dX12_expression_0 rfl rfl ?_
  refine sv_iload_n hM dX12_expression_1 rfl rfl ?_
  obtain ⟨o1, h⟩ := h
  obtain ⟨o2, h⟩ := h
  obtain ⟨o3, h⟩ := h
  obtain ⟨o4, h⟩ := h
  refine sv_callV hM dX12_expression_2 sm_iv_442 (by decide) (sm_a0 _) rfl rfl (Nat.le_of_ble_eq_true rfl) sm_h47 (Nat.le_of_ble_eq_true rfl) (Nat.le_of_ble_eq_true rfl) (F' := (((if 0 < (S 1021 0) then 12 else 30 * (20 - (S 1023 0)) + 25))).toNat) (sv_Fe o4) rfl ((IH ((if 0 < (S 1021 0) then 12 else 30 * (20 - (S 1023 0)) + 25)) o3.1 o3.2).2.2.1 p1 S hok o1 o2 rfl) (fun v S1 hq => ?_)
  obtain ⟨r9, rfl, hr9, ok6, md7, hp8⟩ := hq
  obtain ⟨g5, rfl⟩ : ∃ g, S1 = sv_sts S [1020, 1021, 1022, 1023, 5, 1011, 3, 4, 1007, 1009, 11, 12, 13, 14, 1024, 15, 16, 1031, 1032, 17, 18, 19, 20, 21, 22, 23, 24, 25, 1042, 1043, 1044, 1045, 1100001, 1100002, 1100005, 1100003, 1100004, 1100018] g := ⟨_, md7.eq⟩
  show sv_T sm_XS sm_cs sm_L sm_sh (30 * (20 - (S 1023 0)) + 26).toNat (q_expression p1 S) 43 5 [(0, .ref 0), (1, sv_I p1)] [sv_I r9] (sv_sts S [1020, 1021, 1022, 1023, 5, 1011, 3, 4, 1007, 1009, 11, 12, 13, 14, 1024, 15, 16, 1031, 1032, 17, 18, 19, 20, 21, 22, 23, 24, 25, 1042, 1043, 1044, 1045, 1100001, 1100002, 1100005, 1100003, 1100004, 1100018] g5)
  have md10 : sv_mod [1020, 1021, 1022, 1023, 5, 1011, 3, 4, 1007, 1009, 11, 12, 13, 14, 1024, 15, 16, 1031, 1032, 17, 18, 19, 20, 21, 22, 23, 24, 25, 1042, 1043, 1044, 1045, 1100001, 1100002, 1100005, 1100003, 1100004, 1100018] S (sv_sts S [1020, 1021, 1022, 1023, 5, 1011, 3, 4, 1007, 1009, 11, 12, 13, 14, 1024, 15, 16, 1031, 1032, 17, 18, 19, 20, 21, 22, 23, 24, 25, 1042, 1043, 1044, 1045, 1100001, 1100002, 1100005, 1100003, 1100004, 1100018] g5) := sv_mod.sts sv_mod.rf (by decide)
  have h := h r9 hr9 g5 hp8
  refine sv_istore_n hM dX12_expression_5 (by decide) rfl ?_
  show sv_T sm_XS sm_cs sm_L sm_sh (30 * (20 - (S 1023 0)) + 26).toNat (q_expression p1 S) 43 6 [(0, .ref 0), (1, sv_I p1), (2, sv_I r9)] [] (sv_sts S [1020, 1021, 1022, 1023, 5, 1011, 3, 4, 1007, 1009, 11, 12, 13, 14, 1024, 15, 16, 1031, 1032, 17, 18, 19, 20, 21, 22, 23, 24, 25, 1042, 1043, 1044, 1045, 1100001, 1100002, 1100005, 1100003, 1100004, 1100018] g5)
  obtain ⟨hin14, h⟩ := h
  have hJ : ∀ a : Int × sv_S, (sv_R a.1 ∧ sm_ok (sv_sts (sv_sts S [1020, 1021, 1022, 1023, 5, 1011, 3, 4, 1007, 1009, 11, 12, 13, 14, 1024, 15, 16, 1031, 1032, 17, 18, 19, 20, 21, 22, 23, 24, 25, 1042, 1043, 1044, 1045, 1100001, 1100002, 1100005, 1100003, 1100004, 1100018] g5) [1020, 1021, 1022, 1023, 5, 1011, 3, 4, 1007, 1009, 11, 12, 13, 14, 1024, 15, 16, 1031, 1032, 17, 18, 19, 20, 21, 22, 23, 24, 25, 1042, 1043, 1044, 1045, 1100001, 1100002, 1100005, 1100003, 1100004, 1100018] a.2) ∧ (0 ≤ (a.2 1020 0) ∧ (a.2 1020 0) < (S 1012 0) ∧ sm_TK (S 6) (S 8) (S 9) (S 10) (S 1012 0) ∧ 0 ≤ (a.2 1021 0) ∧ 0 ≤ (S 1004 0) ∧ (S 1004 0) ≤ 4000 ∧ 0 ≤ (a.2 1007 0) ∧ (a.2 1007 0) ≤ 90 ∧ sm_LN (a.2 4) (a.2 1007 0) ∧ ((a.2 1021 0) = 0 → sm_WF (a.2 11) (a.2 12) (a.2 13) (a.2 1100001) (a.2 1100002) (a.2 1100005) (a.2 1100003) (a.2 1100004) (a.2 1024 0) (a.2 1007 0) (a.2 1009 0) (a.2 1032 0)) ∧ sm_HD (a.2 23) (a.2 24) (a.2 1100018 0) (a.2 1007 0) ∧ sm_HD (a.2 25) (fun _ : Int => (a.2 1042 0)) 1 (a.2 1007 0) ∧ 0 ≤ (a.2 1043 0) ∧ (a.2 1043 0) < (a.2 1100018 0) ∧ (a.2 1100018 0) = (a.2 1032 0) ∧ (a.2 1032 0) ≤ 1 + (a.2 1020 0) ∧ 0 ≤ (a.2 1031 0) ∧ (a.2 1031 0) ≤ 100 ∧ 0 ≤ (a.2 1044 0) ∧ (a.2 1044 0) ≤ 30 ∧ 0 ≤ (a.2 1045 0) ∧ (a.2 1045 0) ≤ 30 ∧ 0 ≤ (a.2 1024 0) ∧ ((a.2 1021 0) = 0 → 0 ≤ (a.2 1023 0) ∧ (a.2 1023 0) ≤ 20 ∧ (a.2 1031 0) ≤ 3 * (a.2 1023 0) + 5 ∧ (a.2 1024 0) ≤ 2 * (a.2 1020 0) ∧ (a.2 1044 0) ≤ (a.2 1023 0) ∧ (a.2 1045 0) ≤ (a.2 1023 0)) ∧ (S 1020 0) ≤ (a.2 1020 0) ∧ (a.2 1020 0) < (S 1012 0) ∧ 0 ≤ (a.2 1021 0) ∧ (0 < (S 1021 0) → 0 < (a.2 1021 0)) ∧ (S 1007 0) ≤ (a.2 1007 0) ∧ (a.2 1007 0) ≤ 90 ∧ sm_LN (a.2 4) (a.2 1007 0) ∧ ((S 1009 0) = 1 → (a.2 1009 0) = 1) ∧ ((a.2 1021 0) = 0 → sm_WF (a.2 11) (a.2 12) (a.2 13) (a.2 1100001) (a.2 1100002) (a.2 1100005) (a.2 1100003) (a.2 1100004) (a.2 1024 0) (a.2 1007 0) (a.2 1009 0) (a.2 1032 0) ∧ sm_PX (S 11) (S 12) (S 13) (S 1100001) (S 1100002) (S 1100005) (S 1100003) (S 1100004) (a.2 11) (a.2 12) (a.2 13) (a.2 1100001) (a.2 1100002) (a.2 1100005) (a.2 1100003) (a.2 1100004) (S 1024 0)) ∧ sm_KL (S 15) (S 16) (a.2 15) (a.2 16) (S 1031 0) ∧ sm_HD (a.2 23) (a.2 24) (a.2 1100018 0) (a.2 1007 0) ∧ sm_HD (a.2 25) (fun _ : Int => (a.2 1042 0)) 1 (a.2 1007 0) ∧ (a.2 1031 0) = (S 1031 0) ∧ (a.2 1043 0) = (S 1043 0) ∧ (a.2 1044 0) = (S 1044 0) ∧ (a.2 1045 0) = (S 1045 0) ∧ (S 1032 0) ≤ (a.2 1032 0) ∧ (a.2 1032 0) ≤ 1 + (a.2 1020 0) ∧ (a.2 1100018 0) = (a.2 1032 0) ∧ (S 1024 0) ≤ (a.2 1024 0) ∧ ((a.2 1021 0) = 0 → (a.2 1023 0) = (S 1023 0) ∧ (a.2 1024 0) + 1 ≤ (S 1024 0) + 2 * ((a.2 1020 0) - (S 1020 0))) ∧ (0 < (a.2 1021 0) → (a.2 1024 0) ≤ (S 1024 0) + 2 * ((a.2 1020 0) - (S 1020 0)) + 2 * (30 * (20 - (S 1023 0)) + 26)) ∧ -1 ≤ a.1 ∧ a.1 < 12000 ∧ ((a.2 1021 0) = 0 → (S 1020 0) < (a.2 1020 0) ∧ 1 ≤ (S 6 (S 1020 0)) ∧ sm_ex (a.2 1100001) (a.2 1100002) (a.2 1100005) (a.2 1024 0) 1 a.1 (17 * (20 - (S 1023 0)) + 17) (20 - (S 1023 0)) ∧ ((a.2 11 a.1) = 2 ∨ (a.2 11 a.1) = 7 → (a.2 1100002 a.1) ≤ 17 * (20 - (S 1023 0)) + 2)))) → sv_T sm_XS sm_cs sm_L sm_sh (30 * (20 - (S 1023 0)) + 26).toNat (q_expression p1 S) 43 6 [(0, .ref 0), (1, sv_I p1), (2, sv_I a.1)] [] (sv_sts (sv_sts S [1020, 1021, 1022, 1023, 5, 1011, 3, 4, 1007, 1009, 11, 12, 13, 14, 1024, 15, 16, 1031, 1032, 17, 18, 19, 20, 21, 22, 23, 24, 25, 1042, 1043, 1044, 1045, 1100001, 1100002, 1100005, 1100003, 1100004, 1100018] g5) [1020, 1021, 1022, 1023, 5, 1011, 3, 4, 1007, 1009, 11, 12, 13, 14, 1024, 15, 16, 1031, 1032, 17, 18, 19, 20, 21, 22, 23, 24, 25, 1042, 1043, 1044, 1045, 1100001, 1100002, 1100005, 1100003, 1100004, 1100018] a.2) := by
    refine sv_loop (α := Int × sv_S) (fun a => sv_R a.1 ∧ sm_ok (sv_sts (sv_sts S [1020, 1021, 1022, 1023, 5, 1011, 3, 4, 1007, 1009, 11, 12, 13, 14, 1024, 15, 16, 1031, 1032, 17, 18, 19, 20, 21, 22, 23, 24, 25, 1042, 1043, 1044, 1045, 1100001, 1100002, 1100005, 1100003, 1100004, 1100018] g5) [1020, 1021, 1022, 1023, 5, 1011, 3, 4, 1007, 1009, 11, 12, 13, 14, 1024, 15, 16, 1031, 1032, 17, 18, 19, 20, 21, 22, 23, 24, 25, 1042, 1043, 1044, 1045, 1100001, 1100002, 1100005, 1100003, 1100004, 1100018] a.2) ∧ (0 ≤ (a.2 1020 0) ∧ (a.2 1020 0) < (S 1012 0) ∧ sm_TK (S 6) (S 8) (S 9) (S 10) (S 1012 0) ∧ 0 ≤ (a.2 1021 0) ∧ 0 ≤ (S 1004 0) ∧ (S 1004 0) ≤ 4000 ∧ 0 ≤ (a.2 1007 0) ∧ (a.2 1007 0) ≤ 90 ∧ sm_LN (a.2 4) (a.2 1007 0) ∧ ((a.2 1021 0) = 0 → sm_WF (a.2 11) (a.2 12) (a.2 13) (a.2 1100001) (a.2 1100002) (a.2 1100005) (a.2 1100003) (a.2 1100004) (a.2 1024 0) (a.2 1007 0) (a.2 1009 0) (a.2 1032 0)) ∧ sm_HD (a.2 23) (a.2 24) (a.2 1100018 0) (a.2 1007 0) ∧ sm_HD (a.2 25) (fun _ : Int => (a.2 1042 0)) 1 (a.2 1007 0) ∧ 0 ≤ (a.2 1043 0) ∧ (a.2 1043 0) < (a.2 1100018 0) ∧ (a.2 1100018 0) = (a.2 1032 0) ∧ (a.2 1032 0) ≤ 1 + (a.2 1020 0) ∧ 0 ≤ (a.2 1031 0) ∧ (a.2 1031 0) ≤ 100 ∧ 0 ≤ (a.2 1044 0) ∧ (a.2 1044 0) ≤ 30 ∧ 0 ≤ (a.2 1045 0) ∧ (a.2 1045 0) ≤ 30 ∧ 0 ≤ (a.2 1024 0) ∧ ((a.2 1021 0) = 0 → 0 ≤ (a.2 1023 0) ∧ (a.2 1023 0) ≤ 20 ∧ (a.2 1031 0) ≤ 3 * (a.2 1023 0) + 5 ∧ (a.2 1024 0) ≤ 2 * (a.2 1020 0) ∧ (a.2 1044 0) ≤ (a.2 1023 0) ∧ (a.2 1045 0) ≤ (a.2 1023 0)) ∧ (S 1020 0) ≤ (a.2 1020 0) ∧ (a.2 1020 0) < (S 1012 0) ∧ 0 ≤ (a.2 1021 0) ∧ (0 < (S 1021 0) → 0 < (a.2 1021 0)) ∧ (S 1007 0) ≤ (a.2 1007 0) ∧ (a.2 1007 0) ≤ 90 ∧ sm_LN (a.2 4) (a.2 1007 0) ∧ ((S 1009 0) = 1 → (a.2 1009 0) = 1) ∧ ((a.2 1021 0) = 0 → sm_WF (a.2 11) (a.2 12) (a.2 13) (a.2 1100001) (a.2 1100002) (a.2 1100005) (a.2 1100003) (a.2 1100004) (a.2 1024 0) (a.2 1007 0) (a.2 1009 0) (a.2 1032 0) ∧ sm_PX (S 11) (S 12) (S 13) (S 1100001) (S 1100002) (S 1100005) (S 1100003) (S 1100004) (a.2 11) (a.2 12) (a.2 13) (a.2 1100001) (a.2 1100002) (a.2 1100005) (a.2 1100003) (a.2 1100004) (S 1024 0)) ∧ sm_KL (S 15) (S 16) (a.2 15) (a.2 16) (S 1031 0) ∧ sm_HD (a.2 23) (a.2 24) (a.2 1100018 0) (a.2 1007 0) ∧ sm_HD (a.2 25) (fun _ : Int => (a.2 1042 0)) 1 (a.2 1007 0) ∧ (a.2 1031 0) = (S 1031 0) ∧ (a.2 1043 0) = (S 1043 0) ∧ (a.2 1044 0) = (S 1044 0) ∧ (a.2 1045 0) = (S 1045 0) ∧ (S 1032 0) ≤ (a.2 1032 0) ∧ (a.2 1032 0) ≤ 1 + (a.2 1020 0) ∧ (a.2 1100018 0) = (a.2 1032 0) ∧ (S 1024 0) ≤ (a.2 1024 0) ∧ ((a.2 1021 0) = 0 → (a.2 1023 0) = (S 1023 0) ∧ (a.2 1024 0) + 1 ≤ (S 1024 0) + 2 * ((a.2 1020 0) - (S 1020 0))) ∧ (0 < (a.2 1021 0) → (a.2 1024 0) ≤ (S 1024 0) + 2 * ((a.2 1020 0) - (S 1020 0)) + 2 * (30 * (20 - (S 1023 0)) + 26)) ∧ -1 ≤ a.1 ∧ a.1 < 12000 ∧ ((a.2 1021 0) = 0 → (S 1020 0) < (a.2 1020 0) ∧ 1 ≤ (S 6 (S 1020 0)) ∧ sm_ex (a.2 1100001) (a.2 1100002) (a.2 1100005) (a.2 1024 0) 1 a.1 (17 * (20 - (S 1023 0)) + 17) (20 - (S 1023 0)) ∧ ((a.2 11 a.1) = 2 ∨ (a.2 11 a.1) = 7 → (a.2 1100002 a.1) ≤ 17 * (20 - (S 1023 0)) + 2)))) (fun a => 2 * ((S 1012 0) - (a.2 1020 0)) + (if (a.2 1021 0) = 0 then 1 else 0)) (fun a => sv_T sm_XS sm_cs sm_L sm_sh (30 * (20 - (S 1023 0)) + 26).toNat (q_expression p1 S) 43 6 [(0, .ref 0), (1, sv_I p1), (2, sv_I a.1)] [] (sv_sts (sv_sts S [1020, 1021, 1022, 1023, 5, 1011, 3, 4, 1007, 1009, 11, 12, 13, 14, 1024, 15, 16, 1031, 1032, 17, 18, 19, 20, 21, 22, 23, 24, 25, 1042, 1043, 1044, 1045, 1100001, 1100002, 1100005, 1100003, 1100004, 1100018] g5) [1020, 1021, 1022, 1023, 5, 1011, 3, 4, 1007, 1009, 11, 12, 13, 14, 1024, 15, 16, 1031, 1032, 17, 18, 19, 20, 21, 22, 23, 24, 25, 1042, 1043, 1044, 1045, 1100001, 1100002, 1100005, 1100003, 1100004, 1100018] a.2)) (fun a q => (h a.1 q.1 a.2 q.2.2).1) (fun a q ih13 => ?_)
    obtain ⟨l2_12, g11⟩ := a
    obtain ⟨hl2_12, ok15, hin14i⟩ := q
    have h := (h l2_12 hl2_12 g11 hin14i).2
    show sv_T sm_XS sm_cs sm_L sm_sh (30 * (20 - (S 1023 0)) + 26).toNat (q_expression p1 S) 43 6 [(0, .ref 0), (1, sv_I p1), (2, sv_I l2_12)] [] (sv_sts (sv_sts S [1020, 1021, 1022, 1023, 5, 1011, 3, 4, 1007, 1009, 11, 12, 13, 14, 1024, 15, 16, 1031, 1032, 17, 18, 19, 20, 21, 22, 23, 24, 25, 1042, 1043, 1044, 1045, 1100001, 1100002, 1100005, 1100003, 1100004, 1100018] g5) [1020, 1021, 1022, 1023, 5, 1011, 3, 4, 1007, 1009, 11, 12, 13, 14, 1024, 15, 16, 1031, 1032, 17, 18, 19, 20, 21, 22, 23, 24, 25, 1042, 1043, 1044, 1045, 1100001, 1100002, 1100005, 1100003, 1100004, 1100018] g11)
    have md16 : sv_mod [1020, 1021, 1022, 1023, 5, 1011, 3, 4, 1007, 1009, 11, 12, 13, 14, 1024, 15, 16, 1031, 1032, 17, 18, 19, 20, 21, 22, 23, 24, 25, 1042, 1043, 1044, 1045, 1100001, 1100002, 1100005, 1100003, 1100004, 1100018] S (sv_sts (sv_sts S [1020, 1021, 1022, 1023, 5, 1011, 3, 4, 1007, 1009, 11, 12, 13, 14, 1024, 15, 16, 1031, 1032, 17, 18, 19, 20, 21, 22, 23, 24, 25, 1042, 1043, 1044, 1045, 1100001, 1100002, 1100005, 1100003, 1100004, 1100018] g5) [1020, 1021, 1022, 1023, 5, 1011, 3, 4, 1007, 1009, 11, 12, 13, 14, 1024, 15, 16, 1031, 1032, 17, 18, 19, 20, 21, 22, 23, 24, 25, 1042, 1043, 1044, 1045, 1100001, 1100002, 1100005, 1100003, 1100004, 1100018] g11) := sv_mod.sts md10 (by decide)
    have md17 : sv_mod [1020, 1021, 1022, 1023, 5, 1011, 3, 4, 1007, 1009, 11, 12, 13, 14, 1024, 15, 16, 1031, 1032, 17, 18, 19, 20, 21, 22, 23, 24, 25, 1042, 1043, 1044, 1045, 1100001, 1100002, 1100005, 1100003, 1100004, 1100018] (sv_sts S [1020, 1021, 1022, 1023, 5, 1011, 3, 4, 1007, 1009, 11, 12, 13, 14, 1024, 15, 16, 1031, 1032, 17, 18, 19, 20, 21, 22, 23, 24, 25, 1042, 1043, 1044, 1045, 1100001, 1100002, 1100005, 1100003, 1100004, 1100018] g5) (sv_sts (sv_sts S [1020, 1021, 1022, 1023, 5, 1011, 3, 4, 1007, 1009, 11, 12, 13, 14, 1024, 15, 16, 1031, 1032, 17, 18, 19, 20, 21, 22, 23, 24, 25, 1042, 1043, 1044, 1045, 1100001, 1100002, 1100005, 1100003, 1100004, 1100018] g5) [1020, 1021, 1022, 1023, 5, 1011, 3, 4, 1007, 1009, 11, 12, 13, 14, 1024, 15, 16, 1031, 1032, 17, 18, 19, 20, 21, 22, 23, 24, 25, 1042, 1043, 1044, 1045, 1100001, 1100002, 1100005, 1100003, 1100004, 1100018] g11) := sv_mod.sts sv_mod.rf (by decide)
    refine sv_aload_n hM dX12_expression_6 rfl rfl ?_
    have k18 : sv_R (g11 1021 0) := sm_okI ok15 sm_r1021 0
    have h := h k18
    refine sv_getI hM dX12_expression_7 sm_fl_389 (sm_a0 _) sm_k21 rfl (x := (g11 1021 0)) rfl ?_
    refine sv_cond_ne hM dX12_expression_10 k18 (t := 48) rfl rfl (fun hc => ?_) (fun hc => ?_)
    · have h := h.1 (hc)
      refine sv_iload_n hM dX12_expression_48 rfl rfl ?_
      exact sv_iret hM dX12_expression_49 rfl rfl ⟨l2_12, rfl, hl2_12, ok15, md16, h⟩
    · have h := h.2 (hc)
      refine sv_aload_n hM dX12_expression_13 rfl rfl ?_
      refine sv_bipush (d := (32 : Int)) hM dX12_expression_14 rfl rfl ?_
      obtain ⟨o19, h⟩ := h
      obtain ⟨o20, h⟩ := h
      refine sv_callV hM dX12_expression_16 sm_iv_398 (by decide) (sm_a0 _) rfl rfl (Nat.le_of_ble_eq_true rfl) sm_h24 (Nat.le_of_ble_eq_true rfl) (Nat.le_of_ble_eq_true rfl) (F' := 0) (sv_Fn (n := 0) o20) rfl (t_isSign (32 : Int) (sv_sts (sv_sts S [1020, 1021, 1022, 1023, 5, 1011, 3, 4, 1007, 1009, 11, 12, 13, 14, 1024, 15, 16, 1031, 1032, 17, 18, 19, 20, 21, 22, 23, 24, 25, 1042, 1043, 1044, 1045, 1100001, 1100002, 1100005, 1100003, 1100004, 1100018] g5) [1020, 1021, 1022, 1023, 5, 1011, 3, 4, 1007, 1009, 11, 12, 13, 14, 1024, 15, 16, 1031, 1032, 17, 18, 19, 20, 21, 22, 23, 24, 25, 1042, 1043, 1044, 1045, 1100001, 1100002, 1100005, 1100003, 1100004, 1100018] g11) ok15 (⟨by decide, by decide⟩ : sv_R (32 : Int)) o19) (fun v S1 hq => ?_)
      obtain ⟨rfl, hS1⟩ := hq
      obtain rfl : (sv_sts (sv_sts S [1020, 1021, 1022, 1023, 5, 1011, 3, 4, 1007, 1009, 11, 12, 13, 14, 1024, 15, 16, 1031, 1032, 17, 18, 19, 20, 21, 22, 23, 24, 25, 1042, 1043, 1044, 1045, 1100001, 1100002, 1100005, 1100003, 1100004, 1100018] g5) [1020, 1021, 1022, 1023, 5, 1011, 3, 4, 1007, 1009, 11, 12, 13, 14, 1024, 15, 16, 1031, 1032, 17, 18, 19, 20, 21, 22, 23, 24, 25, 1042, 1043, 1044, 1045, 1100001, 1100002, 1100005, 1100003, 1100004, 1100018] g11) = S1 := hS1.symm
      show sv_T sm_XS sm_cs sm_L sm_sh (30 * (20 - (S 1023 0)) + 26).toNat (q_expression p1 S) 43 19 [(0, .ref 0), (1, sv_I p1), (2, sv_I l2_12)] [sv_I (if (S 6 (g11 1020 0)) = 5 ∧ (S 7 (g11 1020 0)) = (32 : Int) then 1 else 0)] (sv_sts (sv_sts S [1020, 1021, 1022, 1023, 5, 1011, 3, 4, 1007, 1009, 11, 12, 13, 14, 1024, 15, 16, 1031, 1032, 17, 18, 19, 20, 21, 22, 23, 24, 25, 1042, 1043, 1044, 1045, 1100001, 1100002, 1100005, 1100003, 1100004, 1100018] g5) [1020, 1021, 1022, 1023, 5, 1011, 3, 4, 1007, 1009, 11, 12, 13, 14, 1024, 15, 16, 1031, 1032, 17, 18, 19, 20, 21, 22, 23, 24, 25, 1042, 1043, 1044, 1045, 1100001, 1100002, 1100005, 1100003, 1100004, 1100018] g11)
      refine sv_cond_eq hM dX12_expression_19 (sv_Rite : sv_R (if (S 6 (g11 1020 0)) = 5 ∧ (S 7 (g11 1020 0)) = (32 : Int) then 1 else 0)) (t := 48) rfl rfl (fun hc => ?_) (fun hc => ?_)
      · have h := h.1 (sv_iten hc)
        refine sv_iload_n hM dX12_expression_48 rfl rfl ?_
        exact sv_iret hM dX12_expression_49 rfl rfl ⟨l2_12, rfl, hl2_12, ok15, md16, h⟩
      · have h := h.2 (sv_itep hc)
        refine sv_aload_n hM dX12_expression_22 rfl rfl ?_
        refine sv_dupA hM dX12_expression_23 rfl ?_
        have k21 : sv_R (g11 1020 0) := sm_okI ok15 sm_r1020 0
        have h := h k21
        refine sv_getI hM dX12_expression_24 sm_fl_392 (sm_a0 _) sm_k20 rfl (x := (g11 1020 0)) rfl ?_
        refine sv_iconst (d := (1 : Int)) hM dX12_expression_27 rfl rfl ?_
        refine sv_iadd hM dX12_expression_28 rfl ?_
        obtain ⟨o22, h⟩ := h
        refine sv_putI sm_X hM dX12_expression_29 sm_fp_392 (sm_a0 _) sm_q20 (Or.inl rfl) rfl rfl rfl rfl ?_
        have ok23 : sm_ok (sv_up (sv_sts (sv_sts S [1020, 1021, 1022, 1023, 5, 1011, 3, 4, 1007, 1009, 11, 12, 13, 14, 1024, 15, 16, 1031, 1032, 17, 18, 19, 20, 21, 22, 23, 24, 25, 1042, 1043, 1044, 1045, 1100001, 1100002, 1100005, 1100003, 1100004, 1100018] g5) [1020, 1021, 1022, 1023, 5, 1011, 3, 4, 1007, 1009, 11, 12, 13, 14, 1024, 15, 16, 1031, 1032, 17, 18, 19, 20, 21, 22, 23, 24, 25, 1042, 1043, 1044, 1045, 1100001, 1100002, 1100005, 1100003, 1100004, 1100018] g11) 1020 0 ((g11 1020 0) + (1 : Int))) := sm_upI ok15 sm_r1020 o22
        have md24 : sv_mod [1020, 1021, 1022, 1023, 5, 1011, 3, 4, 1007, 1009, 11, 12, 13, 14, 1024, 15, 16, 1031, 1032, 17, 18, 19, 20, 21, 22, 23, 24, 25, 1042, 1043, 1044, 1045, 1100001, 1100002, 1100005, 1100003, 1100004, 1100018] S (sv_up (sv_sts (sv_sts S [1020, 1021, 1022, 1023, 5, 1011, 3, 4, 1007, 1009, 11, 12, 13, 14, 1024, 15, 16, 1031, 1032, 17, 18, 19, 20, 21, 22, 23, 24, 25, 1042, 1043, 1044, 1045, 1100001, 1100002, 1100005, 1100003, 1100004, 1100018] g5) [1020, 1021, 1022, 1023, 5, 1011, 3, 4, 1007, 1009, 11, 12, 13, 14, 1024, 15, 16, 1031, 1032, 17, 18, 19, 20, 21, 22, 23, 24, 25, 1042, 1043, 1044, 1045, 1100001, 1100002, 1100005, 1100003, 1100004, 1100018] g11) 1020 0 ((g11 1020 0) + (1 : Int))) := sv_mod.up md16 (by decide)
        have md25 : sv_mod [1020, 1021, 1022, 1023, 5, 1011, 3, 4, 1007, 1009, 11, 12, 13, 14, 1024, 15, 16, 1031, 1032, 17, 18, 19, 20, 21, 22, 23, 24, 25, 1042, 1043, 1044, 1045, 1100001, 1100002, 1100005, 1100003, 1100004, 1100018] (sv_sts S [1020, 1021, 1022, 1023, 5, 1011, 3, 4, 1007, 1009, 11, 12, 13, 14, 1024, 15, 16, 1031, 1032, 17, 18, 19, 20, 21, 22, 23, 24, 25, 1042, 1043, 1044, 1045, 1100001, 1100002, 1100005, 1100003, 1100004, 1100018] g5) (sv_up (sv_sts (sv_sts S [1020, 1021, 1022, 1023, 5, 1011, 3, 4, 1007, 1009, 11, 12, 13, 14, 1024, 15, 16, 1031, 1032, 17, 18, 19, 20, 21, 22, 23, 24, 25, 1042, 1043, 1044, 1045, 1100001, 1100002, 1100005, 1100003, 1100004, 1100018] g5) [1020, 1021, 1022, 1023, 5, 1011, 3, 4, 1007, 1009, 11, 12, 13, 14, 1024, 15, 16, 1031, 1032, 17, 18, 19, 20, 21, 22, 23, 24, 25, 1042, 1043, 1044, 1045, 1100001, 1100002, 1100005, 1100003, 1100004, 1100018] g11) 1020 0 ((g11 1020 0) + (1 : Int))) := sv_mod.up md17 (by decide)
        refine sv_aload_n hM dX12_expression_32 rfl rfl ?_
        refine sv_iconst (d := (3 : Int)) hM dX12_expression_33 rfl rfl ?_
        refine sv_iload_n hM dX12_expression_34 rfl rfl ?_
        refine sv_aload_n hM dX12_expression_35 rfl rfl ?_
        refine sv_iload_n hM dX12_expression_36 rfl rfl ?_
        obtain ⟨o26, h⟩ := h
        obtain ⟨o27, h⟩ := h
        obtain ⟨o28, h⟩ := h
        refine sv_callV hM dX12_expression_37 sm_iv_442 (by decide) (sm_a0 _) rfl rfl (Nat.le_of_ble_eq_true rfl) sm_h47 (Nat.le_of_ble_eq_true rfl) (Nat.le_of_ble_eq_true rfl) (F' := (((if 0 < (g11 1021 0) then 12 else 30 * (20 - (g11 1023 0)) + 25))).toNat) (sv_Fe o28) rfl ((IH ((if 0 < (g11 1021 0) then 12 else 30 * (20 - (g11 1023 0)) + 25)) o27.1 o27.2).2.2.1 p1 (sv_up (sv_sts (sv_sts S [1020, 1021, 1022, 1023, 5, 1011, 3, 4, 1007, 1009, 11, 12, 13, 14, 1024, 15, 16, 1031, 1032, 17, 18, 19, 20, 21, 22, 23, 24, 25, 1042, 1043, 1044, 1045, 1100001, 1100002, 1100005, 1100003, 1100004, 1100018] g5) [1020, 1021, 1022, 1023, 5, 1011, 3, 4, 1007, 1009, 11, 12, 13, 14, 1024, 15, 16, 1031, 1032, 17, 18, 19, 20, 21, 22, 23, 24, 25, 1042, 1043, 1044, 1045, 1100001, 1100002, 1100005, 1100003, 1100004, 1100018] g11) 1020 0 ((g11 1020 0) + (1 : Int))) ok23 o1 o26 rfl) (fun v S1 hq => ?_)
        obtain ⟨r33, rfl, hr33, ok30, md31, hp32⟩ := hq
        obtain ⟨g29, rfl⟩ : ∃ g, S1 = sv_sts (sv_up (sv_sts (sv_sts S [1020, 1021, 1022, 1023, 5, 1011, 3, 4, 1007, 1009, 11, 12, 13, 14, 1024, 15, 16, 1031, 1032, 17, 18, 19, 20, 21, 22, 23, 24, 25, 1042, 1043, 1044, 1045, 1100001, 1100002, 1100005, 1100003, 1100004, 1100018] g5) [1020, 1021, 1022, 1023, 5, 1011, 3, 4, 1007, 1009, 11, 12, 13, 14, 1024, 15, 16, 1031, 1032, 17, 18, 19, 20, 21, 22, 23, 24, 25, 1042, 1043, 1044, 1045, 1100001, 1100002, 1100005, 1100003, 1100004, 1100018] g11) 1020 0 ((g11 1020 0) + (1 : Int))) [1020, 1021, 1022, 1023, 5, 1011, 3, 4, 1007, 1009, 11, 12, 13, 14, 1024, 15, 16, 1031, 1032, 17, 18, 19, 20, 21, 22, 23, 24, 25, 1042, 1043, 1044, 1045, 1100001, 1100002, 1100005, 1100003, 1100004, 1100018] g := ⟨_, md31.eq⟩
        show sv_T sm_XS sm_cs sm_L sm_sh (30 * (20 - (S 1023 0)) + 26).toNat (q_expression p1 S) 43 40 [(0, .ref 0), (1, sv_I p1), (2, sv_I l2_12)] [sv_I r33, sv_I l2_12, sv_I (3 : Int), .ref 0] (sv_sts (sv_up (sv_sts (sv_sts S [1020, 1021, 1022, 1023, 5, 1011, 3, 4, 1007, 1009, 11, 12, 13, 14, 1024, 15, 16, 1031, 1032, 17, 18, 19, 20, 21, 22, 23, 24, 25, 1042, 1043, 1044, 1045, 1100001, 1100002, 1100005, 1100003, 1100004, 1100018] g5) [1020, 1021, 1022, 1023, 5, 1011, 3, 4, 1007, 1009, 11, 12, 13, 14, 1024, 15, 16, 1031, 1032, 17, 18, 19, 20, 21, 22, 23, 24, 25, 1042, 1043, 1044, 1045, 1100001, 1100002, 1100005, 1100003, 1100004, 1100018] g11) 1020 0 ((g11 1020 0) + (1 : Int))) [1020, 1021, 1022, 1023, 5, 1011, 3, 4, 1007, 1009, 11, 12, 13, 14, 1024, 15, 16, 1031, 1032, 17, 18, 19, 20, 21, 22, 23, 24, 25, 1042, 1043, 1044, 1045, 1100001, 1100002, 1100005, 1100003, 1100004, 1100018] g29)
        have md34 : sv_mod [1020, 1021, 1022, 1023, 5, 1011, 3, 4, 1007, 1009, 11, 12, 13, 14, 1024, 15, 16, 1031, 1032, 17, 18, 19, 20, 21, 22, 23, 24, 25, 1042, 1043, 1044, 1045, 1100001, 1100002, 1100005, 1100003, 1100004, 1100018] S (sv_sts (sv_up (sv_sts (sv_sts S [1020, 1021, 1022, 1023, 5, 1011, 3, 4, 1007, 1009, 11, 12, 13, 14, 1024, 15, 16, 1031, 1032, 17, 18, 19, 20, 21, 22, 23, 24, 25, 1042, 1043, 1044, 1045, 1100001, 1100002, 1100005, 1100003, 1100004, 1100018] g5) [1020, 1021, 1022, 1023, 5, 1011, 3, 4, 1007, 1009, 11, 12, 13, 14, 1024, 15, 16, 1031, 1032, 17, 18, 19, 20, 21, 22, 23, 24, 25, 1042, 1043, 1044, 1045, 1100001, 1100002, 1100005, 1100003, 1100004, 1100018] g11) 1020 0 ((g11 1020 0) + (1 : Int))) [1020, 1021, 1022, 1023, 5, 1011, 3, 4, 1007, 1009, 11, 12, 13, 14, 1024, 15, 16, 1031, 1032, 17, 18, 19, 20, 21, 22, 23, 24, 25, 1042, 1043, 1044, 1045, 1100001, 1100002, 1100005, 1100003, 1100004, 1100018] g29) := sv_mod.sts md24 (by decide)
        have md35 : sv_mod [1020, 1021, 1022, 1023, 5, 1011, 3, 4, 1007, 1009, 11, 12, 13, 14, 1024, 15, 16, 1031, 1032, 17, 18, 19, 20, 21, 22, 23, 24, 25, 1042, 1043, 1044, 1045, 1100001, 1100002, 1100005, 1100003, 1100004, 1100018] (sv_sts S [1020, 1021, 1022, 1023, 5, 1011, 3, 4, 1007, 1009, 11, 12, 13, 14, 1024, 15, 16, 1031, 1032, 17, 18, 19, 20, 21, 22, 23, 24, 25, 1042, 1043, 1044, 1045, 1100001, 1100002, 1100005, 1100003, 1100004, 1100018] g5) (sv_sts (sv_up (sv_sts (sv_sts S [1020, 1021, 1022, 1023, 5, 1011, 3, 4, 1007, 1009, 11, 12, 13, 14, 1024, 15, 16, 1031, 1032, 17, 18, 19, 20, 21, 22, 23, 24, 25, 1042, 1043, 1044, 1045, 1100001, 1100002, 1100005, 1100003, 1100004, 1100018] g5) [1020, 1021, 1022, 1023, 5, 1011, 3, 4, 1007, 1009, 11, 12, 13, 14, 1024, 15, 16, 1031, 1032, 17, 18, 19, 20, 21, 22, 23, 24, 25, 1042, 1043, 1044, 1045, 1100001, 1100002, 1100005, 1100003, 1100004, 1100018] g11) 1020 0 ((g11 1020 0) + (1 : Int))) [1020, 1021, 1022, 1023, 5, 1011, 3, 4, 1007, 1009, 11, 12, 13, 14, 1024, 15, 16, 1031, 1032, 17, 18, 19, 20, 21, 22, 23, 24, 25, 1042, 1043, 1044, 1045, 1100001, 1100002, 1100005, 1100003, 1100004, 1100018] g29) := sv_mod.sts md25 (by decide)
        have h := h r33 hr33 g29 hp32
        refine sv_iconst (d := (0 : Int)) hM dX12_expression_40 rfl rfl ?_
        obtain ⟨o36, h⟩ := h
        refine sv_callV hM dX12_expression_41 sm_iv_446 (by decide) (sm_a0 _) rfl rfl (Nat.le_of_ble_eq_true rfl) sm_h33 (Nat.le_of_ble_eq_true rfl) (Nat.le_of_ble_eq_true rfl) (F' := 0) (sv_Fn (n := 0) o20) rfl (t_node (3 : Int) l2_12 r33 (0 : Int) (sv_sts (sv_up (sv_sts (sv_sts S [1020, 1021, 1022, 1023, 5, 1011, 3, 4, 1007, 1009, 11, 12, 13, 14, 1024, 15, 16, 1031, 1032, 17, 18, 19, 20, 21, 22, 23, 24, 25, 1042, 1043, 1044, 1045, 1100001, 1100002, 1100005, 1100003, 1100004, 1100018] g5) [1020, 1021, 1022, 1023, 5, 1011, 3, 4, 1007, 1009, 11, 12, 13, 14, 1024, 15, 16, 1031, 1032, 17, 18, 19, 20, 21, 22, 23, 24, 25, 1042, 1043, 1044, 1045, 1100001, 1100002, 1100005, 1100003, 1100004, 1100018] g11) 1020 0 ((g11 1020 0) + (1 : Int))) [1020, 1021, 1022, 1023, 5, 1011, 3, 4, 1007, 1009, 11, 12, 13, 14, 1024, 15, 16, 1031, 1032, 17, 18, 19, 20, 21, 22, 23, 24, 25, 1042, 1043, 1044, 1045, 1100001, 1100002, 1100005, 1100003, 1100004, 1100018] g29) ok30 (⟨by decide, by decide⟩ : sv_R (3 : Int)) hl2_12 hr33 (⟨by decide, by decide⟩ : sv_R (0 : Int)) o36) (fun v S1 hq => ?_)
        obtain ⟨r41, rfl, hr41, ok38, md39, hp40⟩ := hq
        obtain ⟨g37, rfl⟩ : ∃ g, S1 = sv_sts (sv_sts (sv_up (sv_sts (sv_sts S [1020, 1021, 1022, 1023, 5, 1011, 3, 4, 1007, 1009, 11, 12, 13, 14, 1024, 15, 16, 1031, 1032, 17, 18, 19, 20, 21, 22, 23, 24, 25, 1042, 1043, 1044, 1045, 1100001, 1100002, 1100005, 1100003, 1100004, 1100018] g5) [1020, 1021, 1022, 1023, 5, 1011, 3, 4, 1007, 1009, 11, 12, 13, 14, 1024, 15, 16, 1031, 1032, 17, 18, 19, 20, 21, 22, 23, 24, 25, 1042, 1043, 1044, 1045, 1100001, 1100002, 1100005, 1100003, 1100004, 1100018] g11) 1020 0 ((g11 1020 0) + (1 : Int))) [1020, 1021, 1022, 1023, 5, 1011, 3, 4, 1007, 1009, 11, 12, 13, 14, 1024, 15, 16, 1031, 1032, 17, 18, 19, 20, 21, 22, 23, 24, 25, 1042, 1043, 1044, 1045, 1100001, 1100002, 1100005, 1100003, 1100004, 1100018] g29) [1024, 11, 12, 13, 14] g := ⟨_, md39.eq⟩
        show sv_T sm_XS sm_cs sm_L sm_sh (30 * (20 - (S 1023 0)) + 26).toNat (q_expression p1 S) 43 44 [(0, .ref 0), (1, sv_I p1), (2, sv_I l2_12)] [sv_I r41] (sv_sts (sv_sts (sv_up (sv_sts (sv_sts S [1020, 1021, 1022, 1023, 5, 1011, 3, 4, 1007, 1009, 11, 12, 13, 14, 1024, 15, 16, 1031, 1032, 17, 18, 19, 20, 21, 22, 23, 24, 25, 1042, 1043, 1044, 1045, 1100001, 1100002, 1100005, 1100003, 1100004, 1100018] g5) [1020, 1021, 1022, 1023, 5, 1011, 3, 4, 1007, 1009, 11, 12, 13, 14, 1024, 15, 16, 1031, 1032, 17, 18, 19, 20, 21, 22, 23, 24, 25, 1042, 1043, 1044, 1045, 1100001, 1100002, 1100005, 1100003, 1100004, 1100018] g11) 1020 0 ((g11 1020 0) + (1 : Int))) [1020, 1021, 1022, 1023, 5, 1011, 3, 4, 1007, 1009, 11, 12, 13, 14, 1024, 15, 16, 1031, 1032, 17, 18, 19, 20, 21, 22, 23, 24, 25, 1042, 1043, 1044, 1045, 1100001, 1100002, 1100005, 1100003, 1100004, 1100018] g29) [1024, 11, 12, 13, 14] g37)
        have md42 : sv_mod [1020, 1021, 1022, 1023, 5, 1011, 3, 4, 1007, 1009, 11, 12, 13, 14, 1024, 15, 16, 1031, 1032, 17, 18, 19, 20, 21, 22, 23, 24, 25, 1042, 1043, 1044, 1045, 1100001, 1100002, 1100005, 1100003, 1100004, 1100018] S (sv_sts (sv_sts (sv_up (sv_sts (sv_sts S [1020, 1021, 1022, 1023, 5, 1011, 3, 4, 1007, 1009, 11, 12, 13, 14, 1024, 15, 16, 1031, 1032, 17, 18, 19, 20, 21, 22, 23, 24, 25, 1042, 1043, 1044, 1045, 1100001, 1100002, 1100005, 1100003, 1100004, 1100018] g5) [1020, 1021, 1022, 1023, 5, 1011, 3, 4, 1007, 1009, 11, 12, 13, 14, 1024, 15, 16, 1031, 1032, 17, 18, 19, 20, 21, 22, 23, 24, 25, 1042, 1043, 1044, 1045, 1100001, 1100002, 1100005, 1100003, 1100004, 1100018] g11) 1020 0 ((g11 1020 0) + (1 : Int))) [1020, 1021, 1022, 1023, 5, 1011, 3, 4, 1007, 1009, 11, 12, 13, 14, 1024, 15, 16, 1031, 1032, 17, 18, 19, 20, 21, 22, 23, 24, 25, 1042, 1043, 1044, 1045, 1100001, 1100002, 1100005, 1100003, 1100004, 1100018] g29) [1024, 11, 12, 13, 14] g37) := sv_mod.sts md34 (by decide)
        have md43 : sv_mod [1020, 1021, 1022, 1023, 5, 1011, 3, 4, 1007, 1009, 11, 12, 13, 14, 1024, 15, 16, 1031, 1032, 17, 18, 19, 20, 21, 22, 23, 24, 25, 1042, 1043, 1044, 1045, 1100001, 1100002, 1100005, 1100003, 1100004, 1100018] (sv_sts S [1020, 1021, 1022, 1023, 5, 1011, 3, 4, 1007, 1009, 11, 12, 13, 14, 1024, 15, 16, 1031, 1032, 17, 18, 19, 20, 21, 22, 23, 24, 25, 1042, 1043, 1044, 1045, 1100001, 1100002, 1100005, 1100003, 1100004, 1100018] g5) (sv_sts (sv_sts (sv_up (sv_sts (sv_sts S [1020, 1021, 1022, 1023, 5, 1011, 3, 4, 1007, 1009, 11, 12, 13, 14, 1024, 15, 16, 1031, 1032, 17, 18, 19, 20, 21, 22, 23, 24, 25, 1042, 1043, 1044, 1045, 1100001, 1100002, 1100005, 1100003, 1100004, 1100018] g5) [1020, 1021, 1022, 1023, 5, 1011, 3, 4, 1007, 1009, 11, 12, 13, 14, 1024, 15, 16, 1031, 1032, 17, 18, 19, 20, 21, 22, 23, 24, 25, 1042, 1043, 1044, 1045, 1100001, 1100002, 1100005, 1100003, 1100004, 1100018] g11) 1020 0 ((g11 1020 0) + (1 : Int))) [1020, 1021, 1022, 1023, 5, 1011, 3, 4, 1007, 1009, 11, 12, 13, 14, 1024, 15, 16, 1031, 1032, 17, 18, 19, 20, 21, 22, 23, 24, 25, 1042, 1043, 1044, 1045, 1100001, 1100002, 1100005, 1100003, 1100004, 1100018] g29) [1024, 11, 12, 13, 14] g37) := sv_mod.sts md35 (by decide)
        have h := h r41 hr41 g37 hp40
        refine sv_ghost sm_X 1100001 r41 (1 : Int) (by decide) ?_
        have ok44 : sm_ok (sv_up (sv_sts (sv_sts (sv_up (sv_sts (sv_sts S [1020, 1021, 1022, 1023, 5, 1011, 3, 4, 1007, 1009, 11, 12, 13, 14, 1024, 15, 16, 1031, 1032, 17, 18, 19, 20, 21, 22, 23, 24, 25, 1042, 1043, 1044, 1045, 1100001, 1100002, 1100005, 1100003, 1100004, 1100018] g5) [1020, 1021, 1022, 1023, 5, 1011, 3, 4, 1007, 1009, 11, 12, 13, 14, 1024, 15, 16, 1031, 1032, 17, 18, 19, 20, 21, 22, 23, 24, 25, 1042, 1043, 1044, 1045, 1100001, 1100002, 1100005, 1100003, 1100004, 1100018] g11) 1020 0 ((g11 1020 0) + (1 : Int))) [1020, 1021, 1022, 1023, 5, 1011, 3, 4, 1007, 1009, 11, 12, 13, 14, 1024, 15, 16, 1031, 1032, 17, 18, 19, 20, 21, 22, 23, 24, 25, 1042, 1043, 1044, 1045, 1100001, 1100002, 1100005, 1100003, 1100004, 1100018] g29) [1024, 11, 12, 13, 14] g37) 1100001 r41 (1 : Int)) := sm_upI ok38 sm_r1100001 (⟨by decide, by decide⟩ : sv_R (1 : Int))
        have md45 : sv_mod [1020, 1021, 1022, 1023, 5, 1011, 3, 4, 1007, 1009, 11, 12, 13, 14, 1024, 15, 16, 1031, 1032, 17, 18, 19, 20, 21, 22, 23, 24, 25, 1042, 1043, 1044, 1045, 1100001, 1100002, 1100005, 1100003, 1100004, 1100018] S (sv_up (sv_sts (sv_sts (sv_up (sv_sts (sv_sts S [1020, 1021, 1022, 1023, 5, 1011, 3, 4, 1007, 1009, 11, 12, 13, 14, 1024, 15, 16, 1031, 1032, 17, 18, 19, 20, 21, 22, 23, 24, 25, 1042, 1043, 1044, 1045, 1100001, 1100002, 1100005, 1100003, 1100004, 1100018] g5) [1020, 1021, 1022, 1023, 5, 1011, 3, 4, 1007, 1009, 11, 12, 13, 14, 1024, 15, 16, 1031, 1032, 17, 18, 19, 20, 21, 22, 23, 24, 25, 1042, 1043, 1044, 1045, 1100001, 1100002, 1100005, 1100003, 1100004, 1100018] g11) 1020 0 ((g11 1020 0) + (1 : Int))) [1020, 1021, 1022, 1023, 5, 1011, 3, 4, 1007, 1009, 11, 12, 13, 14, 1024, 15, 16, 1031, 1032, 17, 18, 19, 20, 21, 22, 23, 24, 25, 1042, 1043, 1044, 1045, 1100001, 1100002, 1100005, 1100003, 1100004, 1100018] g29) [1024, 11, 12, 13, 14] g37) 1100001 r41 (1 : Int)) := sv_mod.up md42 (by decide)
        have md46 : sv_mod [1020, 1021, 1022, 1023, 5, 1011, 3, 4, 1007, 1009, 11, 12, 13, 14, 1024, 15, 16, 1031, 1032, 17, 18, 19, 20, 21, 22, 23, 24, 25, 1042, 1043, 1044, 1045, 1100001, 1100002, 1100005, 1100003, 1100004, 1100018] (sv_sts S [1020, 1021, 1022, 1023, 5, 1011, 3, 4, 1007, 1009, 11, 12, 13, 14, 1024, 15, 16, 1031, 1032, 17, 18, 19, 20, 21, 22, 23, 24, 25, 1042, 1043, 1044, 1045, 1100001, 1100002, 1100005, 1100003, 1100004, 1100018] g5) (sv_up (sv_sts (sv_sts (sv_up (sv_sts (sv_sts S [1020, 1021, 1022, 1023, 5, 1011, 3, 4, 1007, 1009, 11, 12, 13, 14, 1024, 15, 16, 1031, 1032, 17, 18, 19, 20, 21, 22, 23, 24, 25, 1042, 1043, 1044, 1045, 1100001, 1100002, 1100005, 1100003, 1100004, 1100018] g5) [1020, 1021, 1022, 1023, 5, 1011, 3, 4, 1007, 1009, 11, 12, 13, 14, 1024, 15, 16, 1031, 1032, 17, 18, 19, 20, 21, 22, 23, 24, 25, 1042, 1043, 1044, 1045, 1100001, 1100002, 1100005, 1100003, 1100004, 1100018] g11) 1020 0 ((g11 1020 0) + (1 : Int))) [1020, 1021, 1022, 1023, 5, 1011, 3, 4, 1007, 1009, 11, 12, 13, 14, 1024, 15, 16, 1031, 1032, 17, 18, 19, 20, 21, 22, 23, 24, 25, 1042, 1043, 1044, 1045, 1100001, 1100002, 1100005, 1100003, 1100004, 1100018] g29) [1024, 11, 12, 13, 14] g37) 1100001 r41 (1 : Int)) := sv_mod.up md43 (by decide)
        obtain ⟨o47, h⟩ := h
        refine sv_ghost sm_X 1100002 r41 ((17 * (20 - (S 1023 0)) + 17)) (by decide) ?_
        have ok48 : sm_ok (sv_up (sv_up (sv_sts (sv_sts (sv_up (sv_sts (sv_sts S [1020, 1021, 1022, 1023, 5, 1011, 3, 4, 1007, 1009, 11, 12, 13, 14, 1024, 15, 16, 1031, 1032, 17, 18, 19, 20, 21, 22, 23, 24, 25, 1042, 1043, 1044, 1045, 1100001, 1100002, 1100005, 1100003, 1100004, 1100018] g5) [1020, 1021, 1022, 1023, 5, 1011, 3, 4, 1007, 1009, 11, 12, 13, 14, 1024, 15, 16, 1031, 1032, 17, 18, 19, 20, 21, 22, 23, 24, 25, 1042, 1043, 1044, 1045, 1100001, 1100002, 1100005, 1100003, 1100004, 1100018] g11) 1020 0 ((g11 1020 0) + (1 : Int))) [1020, 1021, 1022, 1023, 5, 1011, 3, 4, 1007, 1009, 11, 12, 13, 14, 1024, 15, 16, 1031, 1032, 17, 18, 19, 20, 21, 22, 23, 24, 25, 1042, 1043, 1044, 1045, 1100001, 1100002, 1100005, 1100003, 1100004, 1100018] g29) [1024, 11, 12, 13, 14] g37) 1100001 r41 (1 : Int)) 1100002 r41 ((17 * (20 - (S 1023 0)) + 17))) := sm_upI ok44 sm_r1100002 o47
        have md49 : sv_mod [1020, 1021, 1022, 1023, 5, 1011, 3, 4, 1007, 1009, 11, 12, 13, 14, 1024, 15, 16, 1031, 1032, 17, 18, 19, 20, 21, 22, 23, 24, 25, 1042, 1043, 1044, 1045, 1100001, 1100002, 1100005, 1100003, 1100004, 1100018] S (sv_up (sv_up (sv_sts (sv_sts (sv_up (sv_sts (sv_sts S [1020, 1021, 1022, 1023, 5, 1011, 3, 4, 1007, 1009, 11, 12, 13, 14, 1024, 15, 16, 1031, 1032, 17, 18, 19, 20, 21, 22, 23, 24, 25, 1042, 1043, 1044, 1045, 1100001, 1100002, 1100005, 1100003, 1100004, 1100018] g5) [1020, 1021, 1022, 1023, 5, 1011, 3, 4, 1007, 1009, 11, 12, 13, 14, 1024, 15, 16, 1031, 1032, 17, 18, 19, 20, 21, 22, 23, 24, 25, 1042, 1043, 1044, 1045, 1100001, 1100002, 1100005, 1100003, 1100004, 1100018] g11) 1020 0 ((g11 1020 0) + (1 : Int))) [1020, 1021, 1022, 1023, 5, 1011, 3, 4, 1007, 1009, 11, 12, 13, 14, 1024, 15, 16, 1031, 1032, 17, 18, 19, 20, 21, 22, 23, 24, 25, 1042, 1043, 1044, 1045, 1100001, 1100002, 1100005, 1100003, 1100004, 1100018] g29) [1024, 11, 12, 13, 14] g37) 1100001 r41 (1 : Int)) 1100002 r41 ((17 * (20 - (S 1023 0)) + 17))) := sv_mod.up md45 (by decide)
        have md50 : sv_mod [1020, 1021, 1022, 1023, 5, 1011, 3, 4, 1007, 1009, 11, 12, 13, 14, 1024, 15, 16, 1031, 1032, 17, 18, 19, 20, 21, 22, 23, 24, 25, 1042, 1043, 1044, 1045, 1100001, 1100002, 1100005, 1100003, 1100004, 1100018] (sv_sts S [1020, 1021, 1022, 1023, 5, 1011, 3, 4, 1007, 1009, 11, 12, 13, 14, 1024, 15, 16, 1031, 1032, 17, 18, 19, 20, 21, 22, 23, 24, 25, 1042, 1043, 1044, 1045, 1100001, 1100002, 1100005, 1100003, 1100004, 1100018] g5) (sv_up (sv_up (sv_sts (sv_sts (sv_up (sv_sts (sv_sts S [1020, 1021, 1022, 1023, 5, 1011, 3, 4, 1007, 1009, 11, 12, 13, 14, 1024, 15, 16, 1031, 1032, 17, 18, 19, 20, 21, 22, 23, 24, 25, 1042, 1043, 1044, 1045, 1100001, 1100002, 1100005, 1100003, 1100004, 1100018] g5) [1020, 1021, 1022, 1023, 5, 1011, 3, 4, 1007, 1009, 11, 12, 13, 14, 1024, 15, 16, 1031, 1032, 17, 18, 19, 20, 21, 22, 23, 24, 25, 1042, 1043, 1044, 1045, 1100001, 1100002, 1100005, 1100003, 1100004, 1100018] g11) 1020 0 ((g11 1020 0) + (1 : Int))) [1020, 1021, 1022, 1023, 5, 1011, 3, 4, 1007, 1009, 11, 12, 13, 14, 1024, 15, 16, 1031, 1032, 17, 18, 19, 20, 21, 22, 23, 24, 25, 1042, 1043, 1044, 1045, 1100001, 1100002, 1100005, 1100003, 1100004, 1100018] g29) [1024, 11, 12, 13, 14] g37) 1100001 r41 (1 : Int)) 1100002 r41 ((17 * (20 - (S 1023 0)) + 17))) := sv_mod.up md46 (by decide)
        obtain ⟨o51, h⟩ := h
        refine sv_ghost sm_X 1100005 r41 ((20 - (S 1023 0))) (by decide) ?_
        have ok52 : sm_ok (sv_up (sv_up (sv_up (sv_sts (sv_sts (sv_up (sv_sts (sv_sts S [1020, 1021, 1022, 1023, 5, 1011, 3, 4, 1007, 1009, 11, 12, 13, 14, 1024, 15, 16, 1031, 1032, 17, 18, 19, 20, 21, 22, 23, 24, 25, 1042, 1043, 1044, 1045, 1100001, 1100002, 1100005, 1100003, 1100004, 1100018] g5) [1020, 1021, 1022, 1023, 5, 1011, 3, 4, 1007, 1009, 11, 12, 13, 14, 1024, 15, 16, 1031, 1032, 17, 18, 19, 20, 21, 22, 23, 24, 25, 1042, 1043, 1044, 1045, 1100001, 1100002, 1100005, 1100003, 1100004, 1100018] g11) 1020 0 ((g11 1020 0) + (1 : Int))) [1020, 1021, 1022, 1023, 5, 1011, 3, 4, 1007, 1009, 11, 12, 13, 14, 1024, 15, 16, 1031, 1032, 17, 18, 19, 20, 21, 22, 23, 24, 25, 1042, 1043, 1044, 1045, 1100001, 1100002, 1100005, 1100003, 1100004, 1100018] g29) [1024, 11, 12, 13, 14] g37) 1100001 r41 (1 : Int)) 1100002 r41 ((17 * (20 - (S 1023 0)) + 17))) 1100005 r41 ((20 - (S 1023 0)))) := sm_upI ok48 sm_r1100005 o51
        have md53 : sv_mod [1020, 1021, 1022, 1023, 5, 1011, 3, 4, 1007, 1009, 11, 12, 13, 14, 1024, 15, 16, 1031, 1032, 17, 18, 19, 20, 21, 22, 23, 24, 25, 1042, 1043, 1044, 1045, 1100001, 1100002, 1100005, 1100003, 1100004, 1100018] S (sv_up (sv_up (sv_up (sv_sts (sv_sts (sv_up (sv_sts (sv_sts S [1020, 1021, 1022, 1023, 5, 1011, 3, 4, 1007, 1009, 11, 12, 13, 14, 1024, 15, 16, 1031, 1032, 17, 18, 19, 20, 21, 22, 23, 24, 25, 1042, 1043, 1044, 1045, 1100001, 1100002, 1100005, 1100003, 1100004, 1100018] g5) [1020, 1021, 1022, 1023, 5, 1011, 3, 4, 1007, 1009, 11, 12, 13, 14, 1024, 15, 16, 1031, 1032, 17, 18, 19, 20, 21, 22, 23, 24, 25, 1042, 1043, 1044, 1045, 1100001, 1100002, 1100005, 1100003, 1100004, 1100018] g11) 1020 0 ((g11 1020 0) + (1 : Int))) [1020, 1021, 1022, 1023, 5, 1011, 3, 4, 1007, 1009, 11, 12, 13, 14, 1024, 15, 16, 1031, 1032, 17, 18, 19, 20, 21, 22, 23, 24, 25, 1042, 1043, 1044, 1045, 1100001, 1100002, 1100005, 1100003, 1100004, 1100018] g29) [1024, 11, 12, 13, 14] g37) 1100001 r41 (1 : Int)) 1100002 r41 ((17 * (20 - (S 1023 0)) + 17))) 1100005 r41 ((20 - (S 1023 0)))) := sv_mod.up md49 (by decide)
        have md54 : sv_mod [1020, 1021, 1022, 1023, 5, 1011, 3, 4, 1007, 1009, 11, 12, 13, 14, 1024, 15, 16, 1031, 1032, 17, 18, 19, 20, 21, 22, 23, 24, 25, 1042, 1043, 1044, 1045, 1100001, 1100002, 1100005, 1100003, 1100004, 1100018] (sv_sts S [1020, 1021, 1022, 1023, 5, 1011, 3, 4, 1007, 1009, 11, 12, 13, 14, 1024, 15, 16, 1031, 1032, 17, 18, 19, 20, 21, 22, 23, 24, 25, 1042, 1043, 1044, 1045, 1100001, 1100002, 1100005, 1100003, 1100004, 1100018] g5) (sv_up (sv_up (sv_up (sv_sts (sv_sts (sv_up (sv_sts (sv_sts S [1020, 1021, 1022, 1023, 5, 1011, 3, 4, 1007, 1009, 11, 12, 13, 14, 1024, 15, 16, 1031, 1032, 17, 18, 19, 20, 21, 22, 23, 24, 25, 1042, 1043, 1044, 1045, 1100001, 1100002, 1100005, 1100003, 1100004, 1100018] g5) [1020, 1021, 1022, 1023, 5, 1011, 3, 4, 1007, 1009, 11, 12, 13, 14, 1024, 15, 16, 1031, 1032, 17, 18, 19, 20, 21, 22, 23, 24, 25, 1042, 1043, 1044, 1045, 1100001, 1100002, 1100005, 1100003, 1100004, 1100018] g11) 1020 0 ((g11 1020 0) + (1 : Int))) [1020, 1021, 1022, 1023, 5, 1011, 3, 4, 1007, 1009, 11, 12, 13, 14, 1024, 15, 16, 1031, 1032, 17, 18, 19, 20, 21, 22, 23, 24, 25, 1042, 1043, 1044, 1045, 1100001, 1100002, 1100005, 1100003, 1100004, 1100018] g29) [1024, 11, 12, 13, 14] g37) 1100001 r41 (1 : Int)) 1100002 r41 ((17 * (20 - (S 1023 0)) + 17))) 1100005 r41 ((20 - (S 1023 0)))) := sv_mod.up md50 (by decide)
        refine sv_ghost sm_X 1100003 r41 (0 : Int) (by decide) ?_
        have ok55 : sm_ok (sv_up (sv_up (sv_up (sv_up (sv_sts (sv_sts (sv_up (sv_sts (sv_sts S [1020, 1021, 1022, 1023, 5, 1011, 3, 4, 1007, 1009, 11, 12, 13, 14, 1024, 15, 16, 1031, 1032, 17, 18, 19, 20, 21, 22, 23, 24, 25, 1042, 1043, 1044, 1045, 1100001, 1100002, 1100005, 1100003, 1100004, 1100018] g5) [1020, 1021, 1022, 1023, 5, 1011, 3, 4, 1007, 1009, 11, 12, 13, 14, 1024, 15, 16, 1031, 1032, 17, 18, 19, 20, 21, 22, 23, 24, 25, 1042, 1043, 1044, 1045, 1100001, 1100002, 1100005, 1100003, 1100004, 1100018] g11) 1020 0 ((g11 1020 0) + (1 : Int))) [1020, 1021, 1022, 1023, 5, 1011, 3, 4, 1007, 1009, 11, 12, 13, 14, 1024, 15, 16, 1031, 1032, 17, 18, 19, 20, 21, 22, 23, 24, 25, 1042, 1043, 1044, 1045, 1100001, 1100002, 1100005, 1100003, 1100004, 1100018] g29) [1024, 11, 12, 13, 14] g37) 1100001 r41 (1 : Int)) 1100002 r41 ((17 * (20 - (S 1023 0)) + 17))) 1100005 r41 ((20 - (S 1023 0)))) 1100003 r41 (0 : Int)) := sm_upI ok52 sm_r1100003 (⟨by decide, by decide⟩ : sv_R (0 : Int))
        have md56 : sv_mod [1020, 1021, 1022, 1023, 5, 1011, 3, 4, 1007, 1009, 11, 12, 13, 14, 1024, 15, 16, 1031, 1032, 17, 18, 19, 20, 21, 22, 23, 24, 25, 1042, 1043, 1044, 1045, 1100001, 1100002, 1100005, 1100003, 1100004, 1100018] S (sv_up (sv_up (sv_up (sv_up (sv_sts (sv_sts (sv_up (sv_sts (sv_sts S [1020, 1021, 1022, 1023, 5, 1011, 3, 4, 1007, 1009, 11, 12, 13, 14, 1024, 15, 16, 1031, 1032, 17, 18, 19, 20, 21, 22, 23, 24, 25, 1042, 1043, 1044, 1045, 1100001, 1100002, 1100005, 1100003, 1100004, 1100018] g5) [1020, 1021, 1022, 1023, 5, 1011, 3, 4, 1007, 1009, 11, 12, 13, 14, 1024, 15, 16, 1031, 1032, 17, 18, 19, 20, 21, 22, 23, 24, 25, 1042, 1043, 1044, 1045, 1100001, 1100002, 1100005, 1100003, 1100004, 1100018] g11) 1020 0 ((g11 1020 0) + (1 : Int))) [1020, 1021, 1022, 1023, 5, 1011, 3, 4, 1007, 1009, 11, 12, 13, 14, 1024, 15, 16, 1031, 1032, 17, 18, 19, 20, 21, 22, 23, 24, 25, 1042, 1043, 1044, 1045, 1100001, 1100002, 1100005, 1100003, 1100004, 1100018] g29) [1024, 11, 12, 13, 14] g37) 1100001 r41 (1 : Int)) 1100002 r41 ((17 * (20 - (S 1023 0)) + 17))) 1100005 r41 ((20 - (S 1023 0)))) 1100003 r41 (0 : Int)) := sv_mod.up md53 (by decide)
        have md57 : sv_mod [1020, 1021, 1022, 1023, 5, 1011, 3, 4, 1007, 1009, 11, 12, 13, 14, 1024, 15, 16, 1031, 1032, 17, 18, 19, 20, 21, 22, 23, 24, 25, 1042, 1043, 1044, 1045, 1100001, 1100002, 1100005, 1100003, 1100004, 1100018] (sv_sts S [1020, 1021, 1022, 1023, 5, 1011, 3, 4, 1007, 1009, 11, 12, 13, 14, 1024, 15, 16, 1031, 1032, 17, 18, 19, 20, 21, 22, 23, 24, 25, 1042, 1043, 1044, 1045, 1100001, 1100002, 1100005, 1100003, 1100004, 1100018] g5) (sv_up (sv_up (sv_up (sv_up (sv_sts (sv_sts (sv_up (sv_sts (sv_sts S [1020, 1021, 1022, 1023, 5, 1011, 3, 4, 1007, 1009, 11, 12, 13, 14, 1024, 15, 16, 1031, 1032, 17, 18, 19, 20, 21, 22, 23, 24, 25, 1042, 1043, 1044, 1045, 1100001, 1100002, 1100005, 1100003, 1100004, 1100018] g5) [1020, 1021, 1022, 1023, 5, 1011, 3, 4, 1007, 1009, 11, 12, 13, 14, 1024, 15, 16, 1031, 1032, 17, 18, 19, 20, 21, 22, 23, 24, 25, 1042, 1043, 1044, 1045, 1100001, 1100002, 1100005, 1100003, 1100004, 1100018] g11) 1020 0 ((g11 1020 0) + (1 : Int))) [1020, 1021, 1022, 1023, 5, 1011, 3, 4, 1007, 1009, 11, 12, 13, 14, 1024, 15, 16, 1031, 1032, 17, 18, 19, 20, 21, 22, 23, 24, 25, 1042, 1043, 1044, 1045, 1100001, 1100002, 1100005, 1100003, 1100004, 1100018] g29) [1024, 11, 12, 13, 14] g37) 1100001 r41 (1 : Int)) 1100002 r41 ((17 * (20 - (S 1023 0)) + 17))) 1100005 r41 ((20 - (S 1023 0)))) 1100003 r41 (0 : Int)) := sv_mod.up md54 (by decide)
        refine sv_ghost sm_X 1100004 r41 (0 : Int) (by decide) ?_
        have ok58 : sm_ok (sv_up (sv_up (sv_up (sv_up (sv_up (sv_sts (sv_sts (sv_up (sv_sts (sv_sts S [1020, 1021, 1022, 1023, 5, 1011, 3, 4, 1007, 1009, 11, 12, 13, 14, 1024, 15, 16, 1031, 1032, 17, 18, 19, 20, 21, 22, 23, 24, 25, 1042, 1043, 1044, 1045, 1100001, 1100002, 1100005, 1100003, 1100004, 1100018] g5) [1020, 1021, 1022, 1023, 5, 1011, 3, 4, 1007, 1009, 11, 12, 13, 14, 1024, 15, 16, 1031, 1032, 17, 18, 19, 20, 21, 22, 23, 24, 25, 1042, 1043, 1044, 1045, 1100001, 1100002, 1100005, 1100003, 1100004, 1100018] g11) 1020 0 ((g11 1020 0) + (1 : Int))) [1020, 1021, 1022, 1023, 5, 1011, 3, 4, 1007, 1009, 11, 12, 13, 14, 1024, 15, 16, 1031, 1032, 17, 18, 19, 20, 21, 22, 23, 24, 25, 1042, 1043, 1044, 1045, 1100001, 1100002, 1100005, 1100003, 1100004, 1100018] g29) [1024, 11, 12, 13, 14] g37) 1100001 r41 (1 : Int)) 1100002 r41 ((17 * (20 - (S 1023 0)) + 17))) 1100005 r41 ((20 - (S 1023 0)))) 1100003 r41 (0 : Int)) 1100004 r41 (0 : Int)) := sm_upI ok55 sm_r1100004 (⟨by decide, by decide⟩ : sv_R (0 : Int))
        have md59 : sv_mod [1020, 1021, 1022, 1023, 5, 1011, 3, 4, 1007, 1009, 11, 12, 13, 14, 1024, 15, 16, 1031, 1032, 17, 18, 19, 20, 21, 22, 23, 24, 25, 1042, 1043, 1044, 1045, 1100001, 1100002, 1100005, 1100003, 1100004, 1100018] S (sv_up (sv_up (sv_up (sv_up (sv_up (sv_sts (sv_sts (sv_up (sv_sts (sv_sts S [1020, 1021, 1022, 1023, 5, 1011, 3, 4, 1007, 1009, 11, 12, 13, 14, 1024, 15, 16, 1031, 1032, 17, 18, 19, 20, 21, 22, 23, 24, 25, 1042, 1043, 1044, 1045, 1100001, 1100002, 1100005, 1100003, 1100004, 1100018] g5) [1020, 1021, 1022, 1023, 5, 1011, 3, 4, 1007, 1009, 11, 12, 13, 14, 1024, 15, 16, 1031, 1032, 17, 18, 19, 20, 21, 22, 23, 24, 25, 1042, 1043, 1044, 1045, 1100001, 1100002, 1100005, 1100003, 1100004, 1100018] g11) 1020 0 ((g11 1020 0) + (1 : Int))) [1020, 1021, 1022, 1023, 5, 1011, 3, 4, 1007, 1009, 11, 12, 13, 14, 1024, 15, 16, 1031, 1032, 17, 18, 19, 20, 21, 22, 23, 24, 25, 1042, 1043, 1044, 1045, 1100001, 1100002, 1100005, 1100003, 1100004, 1100018] g29) [1024, 11, 12, 13, 14] g37) 1100001 r41 (1 : Int)) 1100002 r41 ((17 * (20 - (S 1023 0)) + 17))) 1100005 r41 ((20 - (S 1023 0)))) 1100003 r41 (0 : Int)) 1100004 r41 (0 : Int)) := sv_mod.up md56 (by decide)
        have md60 : sv_mod [1020, 1021, 1022, 1023, 5, 1011, 3, 4, 1007, 1009, 11, 12, 13, 14, 1024, 15, 16, 1031, 1032, 17, 18, 19, 20, 21, 22, 23, 24, 25, 1042, 1043, 1044, 1045, 1100001, 1100002, 1100005, 1100003, 1100004, 1100018] (sv_sts S [1020, 1021, 1022, 1023, 5, 1011, 3, 4, 1007, 1009, 11, 12, 13, 14, 1024, 15, 16, 1031, 1032, 17, 18, 19, 20, 21, 22, 23, 24, 25, 1042, 1043, 1044, 1045, 1100001, 1100002, 1100005, 1100003, 1100004, 1100018] g5) (sv_up (sv_up (sv_up (sv_up (sv_up (sv_sts (sv_sts (sv_up (sv_sts (sv_sts S [1020, 1021, 1022, 1023, 5, 1011, 3, 4, 1007, 1009, 11, 12, 13, 14, 1024, 15, 16, 1031, 1032, 17, 18, 19, 20, 21, 22, 23, 24, 25, 1042, 1043, 1044, 1045, 1100001, 1100002, 1100005, 1100003, 1100004, 1100018] g5) [1020, 1021, 1022, 1023, 5, 1011, 3, 4, 1007, 1009, 11, 12, 13, 14, 1024, 15, 16, 1031, 1032, 17, 18, 19, 20, 21, 22, 23, 24, 25, 1042, 1043, 1044, 1045, 1100001, 1100002, 1100005, 1100003, 1100004, 1100018] g11) 1020 0 ((g11 1020 0) + (1 : Int))) [1020, 1021, 1022, 1023, 5, 1011, 3, 4, 1007, 1009, 11, 12, 13, 14, 1024, 15, 16, 1031, 1032, 17, 18, 19, 20, 21, 22, 23, 24, 25, 1042, 1043, 1044, 1045, 1100001, 1100002, 1100005, 1100003, 1100004, 1100018] g29) [1024, 11, 12, 13, 14] g37) 1100001 r41 (1 : Int)) 1100002 r41 ((17 * (20 - (S 1023 0)) + 17))) 1100005 r41 ((20 - (S 1023 0)))) 1100003 r41 (0 : Int)) 1100004 r41 (0 : Int)) := sv_mod.up md57 (by decide)
        have k61 : ((g29 1021 0) = 0 → sm_WF (g37 11) (g37 12) (g37 13) (g29 1100001) (g29 1100002) (g29 1100005) (g29 1100003) (g29 1100004) (g37 1024 0) (g29 1007 0) (g29 1009 0) (g29 1032 0) → (g29 1100001 r41) = 0 → 0 ≤ r41 → r41 < (g37 1024 0) → (g37 13 r41) = -1 → (g37 11 r41) = 3 → (sm_ex (g29 1100001) (g29 1100002) (g29 1100005) (g37 1024 0) 1 (g37 12 (5 * r41)) (17 * (20 - (S 1023 0)) + 17) (20 - (S 1023 0))) → ((g37 12 (5 * r41)) < r41) → (sm_ex (g29 1100001) (g29 1100002) (g29 1100005) (g37 1024 0) 1 (g37 12 (5 * r41 + 1)) (17 * (20 - (S 1023 0)) + 17) (20 - (S 1023 0))) → sm_WF (g37 11) (g37 12) (g37 13) (fun i' : Int => if i' = r41 then (1 : Int) else (g29 1100001) i') (fun i' : Int => if i' = r41 then ((17 * (20 - (S 1023 0)) + 17)) else (g29 1100002) i') (fun i' : Int => if i' = r41 then ((20 - (S 1023 0))) else (g29 1100005) i') (fun i' : Int => if i' = r41 then (0 : Int) else (g29 1100003) i') (fun i' : Int => if i' = r41 then (0 : Int) else (g29 1100004) i') (g37 1024 0) (g29 1007 0) (g29 1009 0) (g29 1032 0)) := fun a0 aW a1 a2 a3 a4 aS c1 c2 c3 => (sm_mk1 aW a1 a2 a3 a4 (Or.inr ⟨rfl, sm_c1_3 aS c1 c2 c3⟩)).1
        have h := h k61
        refine sv_istore_n hM dX12_expression_44 (by decide) rfl ?_
        show sv_T sm_XS sm_cs sm_L sm_sh (30 * (20 - (S 1023 0)) + 26).toNat (q_expression p1 S) 43 45 [(0, .ref 0), (1, sv_I p1), (2, sv_I r41)] [] (sv_up (sv_up (sv_up (sv_up (sv_up (sv_sts (sv_sts (sv_up (sv_sts (sv_sts S [1020, 1021, 1022, 1023, 5, 1011, 3, 4, 1007, 1009, 11, 12, 13, 14, 1024, 15, 16, 1031, 1032, 17, 18, 19, 20, 21, 22, 23, 24, 25, 1042, 1043, 1044, 1045, 1100001, 1100002, 1100005, 1100003, 1100004, 1100018] g5) [1020, 1021, 1022, 1023, 5, 1011, 3, 4, 1007, 1009, 11, 12, 13, 14, 1024, 15, 16, 1031, 1032, 17, 18, 19, 20, 21, 22, 23, 24, 25, 1042, 1043, 1044, 1045, 1100001, 1100002, 1100005, 1100003, 1100004, 1100018] g11) 1020 0 ((g11 1020 0) + (1 : Int))) [1020, 1021, 1022, 1023, 5, 1011, 3, 4, 1007, 1009, 11, 12, 13, 14, 1024, 15, 16, 1031, 1032, 17, 18, 19, 20, 21, 22, 23, 24, 25, 1042, 1043, 1044, 1045, 1100001, 1100002, 1100005, 1100003, 1100004, 1100018] g29) [1024, 11, 12, 13, 14] g37) 1100001 r41 (1 : Int)) 1100002 r41 ((17 * (20 - (S 1023 0)) + 17))) 1100005 r41 ((20 - (S 1023 0)))) 1100003 r41 (0 : Int)) 1100004 r41 (0 : Int))
        refine sv_goto hM dX12_expression_45 (pc' := 6) rfl ?_
        have eS := sv_mod.eq md60
        have hb := ih13 (r41, (sv_up (sv_up (sv_up (sv_up (sv_up (sv_sts (sv_sts (sv_up (sv_sts (sv_sts S [1020, 1021, 1022, 1023, 5, 1011, 3, 4, 1007, 1009, 11, 12, 13, 14, 1024, 15, 16, 1031, 1032, 17, 18, 19, 20, 21, 22, 23, 24, 25, 1042, 1043, 1044, 1045, 1100001, 1100002, 1100005, 1100003, 1100004, 1100018] g5) [1020, 1021, 1022, 1023, 5, 1011, 3, 4, 1007, 1009, 11, 12, 13, 14, 1024, 15, 16, 1031, 1032, 17, 18, 19, 20, 21, 22, 23, 24, 25, 1042, 1043, 1044, 1045, 1100001, 1100002, 1100005, 1100003, 1100004, 1100018] g11) 1020 0 ((g11 1020 0) + (1 : Int))) [1020, 1021, 1022, 1023, 5, 1011, 3, 4, 1007, 1009, 11, 12, 13, 14, 1024, 15, 16, 1031, 1032, 17, 18, 19, 20, 21, 22, 23, 24, 25, 1042, 1043, 1044, 1045, 1100001, 1100002, 1100005, 1100003, 1100004, 1100018] g29) [1024, 11, 12, 13, 14] g37) 1100001 r41 (1 : Int)) 1100002 r41 ((17 * (20 - (S 1023 0)) + 17))) 1100005 r41 ((20 - (S 1023 0)))) 1100003 r41 (0 : Int)) 1100004 r41 (0 : Int))) ⟨hr41, (by rw [← eS]; exact ok58), h.1⟩ h.2
        have hb : sv_T sm_XS sm_cs sm_L sm_sh (30 * (20 - (S 1023 0)) + 26).toNat (q_expression p1 S) 43 6 [(0, .ref 0), (1, sv_I p1), (2, sv_I r41)] [] (sv_up (sv_up (sv_up (sv_up (sv_up (sv_sts (sv_sts (sv_up (sv_sts (sv_sts S [1020, 1021, 1022, 1023, 5, 1011, 3, 4, 1007, 1009, 11, 12, 13, 14, 1024, 15, 16, 1031, 1032, 17, 18, 19, 20, 21, 22, 23, 24, 25, 1042, 1043, 1044, 1045, 1100001, 1100002, 1100005, 1100003, 1100004, 1100018] g5) [1020, 1021, 1022, 1023, 5, 1011, 3, 4, 1007, 1009, 11, 12, 13, 14, 1024, 15, 16, 1031, 1032, 17, 18, 19, 20, 21, 22, 23, 24, 25, 1042, 1043, 1044, 1045, 1100001, 1100002, 1100005, 1100003, 1100004, 1100018] g11) 1020 0 ((g11 1020 0) + (1 : Int))) [1020, 1021, 1022, 1023, 5, 1011, 3, 4, 1007, 1009, 11, 12, 13, 14, 1024, 15, 16, 1031, 1032, 17, 18, 19, 20, 21, 22, 23, 24, 25, 1042, 1043, 1044, 1045, 1100001, 1100002, 1100005, 1100003, 1100004, 1100018] g29) [1024, 11, 12, 13, 14] g37) 1100001 r41 (1 : Int)) 1100002 r41 ((17 * (20 - (S 1023 0)) + 17))) 1100005 r41 ((20 - (S 1023 0)))) 1100003 r41 (0 : Int)) 1100004 r41 (0 : Int)) := Eq.mpr (congrArg (fun Z => sv_T sm_XS sm_cs sm_L sm_sh (30 * (20 - (S 1023 0)) + 26).toNat (q_expression p1 S) 43 6 [(0, .ref 0), (1, sv_I p1), (2, sv_I r41)] [] Z) eS) hb
        exact sv_less (lv := [(0, .ref 0), (1, sv_I p1), (2, sv_I r41)]) (sv_Sub_cons rfl (sv_Sub_cons rfl (sv_Sub_cons rfl sv_Sub_nil))) hb
  have eS := sv_mod.eq (sv_mod.rf (l := [1020, 1021, 1022, 1023, 5, 1011, 3, 4, 1007, 1009, 11, 12, 13, 14, 1024, 15, 16, 1031, 1032, 17, 18, 19, 20, 21, 22, 23, 24, 25, 1042, 1043, 1044, 1045, 1100001, 1100002, 1100005, 1100003, 1100004, 1100018]) (S := (sv_sts S [1020, 1021, 1022, 1023, 5, 1011, 3, 4, 1007, 1009, 11, 12, 13, 14, 1024, 15, 16, 1031, 1032, 17, 18, 19, 20, 21, 22, 23, 24, 25, 1042, 1043, 1044, 1045, 1100001, 1100002, 1100005, 1100003, 1100004, 1100018] g5)))
  have hb := hJ (r9, (sv_sts S [1020, 1021, 1022, 1023, 5, 1011, 3, 4, 1007, 1009, 11, 12, 13, 14, 1024, 15, 16, 1031, 1032, 17, 18, 19, 20, 21, 22, 23, 24, 25, 1042, 1043, 1044, 1045, 1100001, 1100002, 1100005, 1100003, 1100004, 1100018] g5)) ⟨hr9, (by rw [← eS]; exact ok6), hin14⟩
  have hb : sv_T sm_XS sm_cs sm_L sm_sh (30 * (20 - (S 1023 0)) + 26).toNat (q_expression p1 S) 43 6 [(0, .ref 0), (1, sv_I p1), (2, sv_I r9)] [] (sv_sts S [1020, 1021, 1022, 1023, 5, 1011, 3, 4, 1007, 1009, 11, 12, 13, 14, 1024, 15, 16, 1031, 1032, 17, 18, 19, 20, 21, 22, 23, 24, 25, 1042, 1043, 1044, 1045, 1100001, 1100002, 1100005, 1100003, 1100004, 1100018] g5) := Eq.mpr (congrArg (fun Z => sv_T sm_XS sm_cs sm_L sm_sh (30 * (20 - (S 1023 0)) + 26).toNat (q_expression p1 S) 43 6 [(0, .ref 0), (1, sv_I p1), (2, sv_I r9)] [] Z) eS) hb
  exact hb
theorem la_opened_0 {x0 x1 : Int} (h0 : 0 ≤ x0) (h1 : x0 < x1) (h2 : x1 ≤ 4001) : 0 ≤ x0 ∧ x0 ≤ 4000 := by omega
theorem la_opened_1 {x0 : Int} (h0 : x0 ≤ 20) : 2 + 1 ≤ 30 * (20 - x0) + 14 := by omega
theorem la_opened_2 {x0 : Int} (h0 : x0 = 0 ∨ x0 = 1) : 0 ≤ x0 := by omega
theorem la_opened_3 {x0 : Int} (h0 : x0 = 0 ∨ x0 = 1) : x0 ≤ 1 := by omega
theorem la_opened_4 {x0 x1 x2 x3 : Int} (h0 : 0 ≤ x0) (h1 : x0 < x1) (h2 : x1 ≤ 4001) (h3 : 0 ≤ x2) (h4 : 0 ≤ x3) (h5 : x3 ≤ 20) : 0 ≤ x0 ∧ x0 ≤ 4000 ∧ 0 ≤ x2 ∧ (x2 = 0 → 0 ≤ x3 ∧ x3 ≤ 20) := by omega
theorem la_opened_5 {x0 : Int} (h0 : x0 ≤ 20) : 1 + 1 ≤ 30 * (20 - x0) + 14 := by omega
theorem la_opened_6 {x0 : Int} (h0 : x0 = 0) : ¬ 0 < x0 := by omega
theorem la_opened_7 {x0 : Int} (h0 : 0 ≤ x0) (h1 : x0 ≤ 1) : 0 ≤ x0 ∧ x0 ≤ 1 := by omega
theorem la_opened_8 {x0 : Int} (h0 : x0 = 1) : ¬ x0 = 0 := by omega
theorem la_opened_9 {x0 x1 : Int} (h0 : 0 ≤ x0) (h1 : x1 = x0 + 1) : 0 ≤ x1 := by omega
theorem la_opened_10 {x0 x1 : Int} (h0 : x0 = x1 + 1) (h1 : x1 < 20) : x0 ≤ 20 := by omega
theorem la_opened_11 {x0 x1 x2 : Int} (h0 : x0 ≤ 3 * x1 + 5) (h1 : x2 = x1 + 1) : x0 ≤ 3 * x2 + 5 := by omega
theorem la_opened_12 {x0 x1 x2 : Int} (h0 : x0 ≤ x1) (h1 : x2 = x1 + 1) : x0 ≤ x2 := by omega
theorem la_opened_13 {x0 : Int} (h0 : 0 < x0) : ¬ x0 = 0 := by omega
theorem la_opened_14 {x0 : Int} (h0 : x0 = 12) : 0 ≤ x0 := by omega
theorem la_opened_15 {x0 : Int} (h0 : 0 ≤ x0) (h1 : ¬ 0 < x0) : x0 = 0 := by omega
theorem la_opened_16 {x0 x1 x2 : Int} (h0 : x0 = 30 * (20 - x1) + 25) (h1 : x1 = x2 + 1) (h2 : x2 < 20) : 0 ≤ x0 := by omega
theorem la_opened_17 {x0 x1 x2 : Int} (h0 : x0 ≤ 20) (h1 : 30 * (20 - x0) + 14 = x1) (h2 : x2 = 12) : x2 < x1 := by omega
theorem la_opened_18 {x0 x1 x2 x3 : Int} (h0 : 30 * (20 - x0) + 14 = x1) (h1 : x2 = 30 * (20 - x3) + 25) (h2 : x3 = x0 + 1) : x2 < x1 := by omega
theorem la_opened_19 {x0 x1 : Int} (h0 : x0 ≤ 20) (h1 : x1 = 12) : x1 + 1 ≤ 30 * (20 - x0) + 14 := by omega
theorem la_opened_20 {x0 x1 x2 : Int} (h0 : x0 = 30 * (20 - x1) + 25) (h1 : x1 = x2 + 1) : x0 + 1 ≤ 30 * (20 - x2) + 14 := by omega
theorem la_opened_21 {x0 : Int} (h0 : x0 ≤ 20) : 0 + 1 ≤ 30 * (20 - x0) + 14 := by omega
theorem la_opened_22 {x0 x1 : Int} (h0 : x0 = 0) : 0 < x0 → 0 < x1 := by omega
theorem la_opened_23 {x0 x1 x2 x3 x4 x5 x6 x7 x8 x9 x10 x11 : Int} (h0 : 0 ≤ x0) (h1 : 0 ≤ x1) (h2 : x1 = 0 → x2 = 0 ∧ x3 = x0 + 1 ∧ x0 < 20 ∧ x4 = 1) (h3 : 0 ≤ x5) (h4 : 0 < x1 → 0 < x5) (h5 : x5 = 0 → x6 = x3 ∧ x7 + 1 ≤ x8 + 2 * (x9 - x10)) (h6 : sv_R (x6 - 1) → x11 = x6 - 1) : x5 = 0 → x11 = x0 ∧ x7 + 1 ≤ x8 + 2 * (x9 - x10) := by omega
theorem la_opened_24 {x0 x1 x2 x3 x4 : Int} (h0 : x0 ≤ 20) (h1 : x1 ≤ x2) (h2 : x3 = x4) : x3 ≤ x4 + 2 * (x2 - x1) + 2 * (30 * (20 - x0) + 14) := by omega
theorem la_opened_25 {x0 x1 x2 x3 x4 x5 x6 : Int} (h0 : x0 ≤ x1 + 2 * (x2 - x3) + 2 * x4) (h1 : x4 = 30 * (20 - x5) + 25) (h2 : x5 = x6 + 1) : x0 ≤ x1 + 2 * (x2 - x3) + 2 * (30 * (20 - x6) + 14) := by omega
theorem la_opened_26 {x0 x1 x2 : Int} (h0 : 0 ≤ x0) (h1 : x1 = x2) (h2 : x2 = x0 + 1) (h3 : x0 < 20) : sv_R (x1 - 1) := by omega
theorem la_opened_27 {x0 x1 : Int} (h0 : x0 = x1 + 1) : 17 * (20 - x0) + 17 ≤ 17 * (20 - x1) := by omega
theorem la_opened_28 {x0 x1 : Int} (h0 : x0 = x1 + 1) : 20 - x0 ≤ 19 - x1 := by omega
set_option maxHeartbeats 8000000 in
theorem f_opened : ∀ (d : Int) (p1 : Int) (S : sv_S), sm_ok S → (0 ≤ p1 ∧ p1 ≤ 1) → (0 ≤ (S 1020 0) ∧ (S 1020 0) < (S 1012 0) ∧ sm_TK (S 6) (S 8) (S 9) (S 10) (S 1012 0) ∧ 0 ≤ (S 1021 0) ∧ 0 ≤ (S 1004 0) ∧ (S 1004 0) ≤ 4000 ∧ 0 ≤ (S 1007 0) ∧ (S 1007 0) ≤ 90 ∧ sm_LN (S 4) (S 1007 0) ∧ ((S 1021 0) = 0 → sm_WF (S 11) (S 12) (S 13) (S 1100001) (S 1100002) (S 1100005) (S 1100003) (S 1100004) (S 1024 0) (S 1007 0) (S 1009 0) (S 1032 0)) ∧ sm_HD (S 23) (S 24) (S 1100018 0) (S 1007 0) ∧ sm_HD (S 25) (fun _ : Int => (S 1042 0)) 1 (S 1007 0) ∧ 0 ≤ (S 1043 0) ∧ (S 1043 0) < (S 1100018 0) ∧ (S 1100018 0) = (S 1032 0) ∧ (S 1032 0) ≤ 1 + (S 1020 0) ∧ 0 ≤ (S 1031 0) ∧ (S 1031 0) ≤ 100 ∧ 0 ≤ (S 1044 0) ∧ (S 1044 0) ≤ 30 ∧ 0 ≤ (S 1045 0) ∧ (S 1045 0) ≤ 30 ∧ 0 ≤ (S 1024 0) ∧ ((S 1021 0) = 0 → 0 ≤ (S 1023 0) ∧ (S 1023 0) ≤ 20 ∧ (S 1031 0) ≤ 3 * (S 1023 0) + 5 ∧ (S 1024 0) ≤ 2 * (S 1020 0) ∧ (S 1044 0) ≤ (S 1023 0) ∧ (S 1045 0) ≤ (S 1023 0)) ∧ (S 1021 0) = 0) → (30 * (20 - (S 1023 0)) + 14) = d → (0 ≤ (S 1020 0) ∧ (S 1020 0) ≤ 4000) ∧ (2 + 1 ≤ (30 * (20 - (S 1023 0)) + 14)) ∧ (∀ r7 : Int, sv_R r7 → ((r7 = 0 ∨ r7 = 1) ∧ (r7 = 1 → 1 ≤ (S 6 (S 1020 0)) ∧ (S 6 (S 1020 0)) ≤ 5)) → (0 ≤ r7 ∧ r7 ≤ 1) ∧ (0 ≤ (S 1020 0) ∧ (S 1020 0) ≤ 4000 ∧ 0 ≤ (S 1021 0) ∧ ((S 1021 0) = 0 → 0 ≤ (S 1023 0) ∧ (S 1023 0) ≤ 20)) ∧ (1 + 1 ≤ (30 * (20 - (S 1023 0)) + 14)) ∧ (∀ g11 : sv_S, (0 ≤ (g11 1021 0) ∧ (0 < (S 1021 0) → 0 < (g11 1021 0)) ∧ ((g11 1021 0) = 0 → (S 1021 0) = 0 ∧ (g11 1023 0) = (S 1023 0) + 1 ∧ (S 1023 0) < 20 ∧ r7 = 1)) → (0 ≤ p1 ∧ p1 ≤ 1) ∧ (0 ≤ (S 1020 0) ∧ (S 1020 0) < (S 1012 0) ∧ sm_TK (S 6) (S 8) (S 9) (S 10) (S 1012 0) ∧ 0 ≤ (g11 1021 0) ∧ 0 ≤ (S 1004 0) ∧ (S 1004 0) ≤ 4000 ∧ 0 ≤ (S 1007 0) ∧ (S 1007 0) ≤ 90 ∧ sm_LN (S 4) (S 1007 0) ∧ ((g11 1021 0) = 0 → sm_WF (S 11) (S 12) (S 13) (S 1100001) (S 1100002) (S 1100005) (S 1100003) (S 1100004) (S 1024 0) (S 1007 0) (S 1009 0) (S 1032 0)) ∧ sm_HD (S 23) (S 24) (S 1100018 0) (S 1007 0) ∧ sm_HD (S 25) (fun _ : Int => (S 1042 0)) 1 (S 1007 0) ∧ 0 ≤ (S 1043 0) ∧ (S 1043 0) < (S 1100018 0) ∧ (S 1100018 0) = (S 1032 0) ∧ (S 1032 0) ≤ 1 + (S 1020 0) ∧ 0 ≤ (S 1031 0) ∧ (S 1031 0) ≤ 100 ∧ 0 ≤ (S 1044 0) ∧ (S 1044 0) ≤ 30 ∧ 0 ≤ (S 1045 0) ∧ (S 1045 0) ≤ 30 ∧ 0 ≤ (S 1024 0) ∧ ((g11 1021 0) = 0 → 0 ≤ (g11 1023 0) ∧ (g11 1023 0) ≤ 20 ∧ (S 1031 0) ≤ 3 * (g11 1023 0) + 5 ∧ (S 1024 0) ≤ 2 * (S 1020 0) ∧ (S 1044 0) ≤ (g11 1023 0) ∧ (S 1045 0) ≤ (g11 1023 0))) ∧ (0 ≤ ((if 0 < (g11 1021 0) then 12 else 30 * (20 - (g11 1023 0)) + 25)) ∧ ((if 0 < (g11 1021 0) then 12 else 30 * (20 - (g11 1023 0)) + 25)) < d) ∧ (0 ≤ ((if 0 < (g11 1021 0) then 12 else 30 * (20 - (g11 1023 0)) + 25)) ∧ ((if 0 < (g11 1021 0) then 12 else 30 * (20 - (g11 1023 0)) + 25)) + 1 ≤ (30 * (20 - (S 1023 0)) + 14)) ∧ (∀ r24 : Int, sv_R r24 → ∀ g20 : sv_S, ((S 1020 0) ≤ (g20 1020 0) ∧ (g20 1020 0) < (S 1012 0) ∧ 0 ≤ (g20 1021 0) ∧ (0 < (g11 1021 0) → 0 < (g20 1021 0)) ∧ (S 1007 0) ≤ (g20 1007 0) ∧ (g20 1007 0) ≤ 90 ∧ sm_LN (g20 4) (g20 1007 0) ∧ ((S 1009 0) = 1 → (g20 1009 0) = 1) ∧ ((g20 1021 0) = 0 → sm_WF (g20 11) (g20 12) (g20 13) (g20 1100001) (g20 1100002) (g20 1100005) (g20 1100003) (g20 1100004) (g20 1024 0) (g20 1007 0) (g20 1009 0) (g20 1032 0) ∧ sm_PX (S 11) (S 12) (S 13) (S 1100001) (S 1100002) (S 1100005) (S 1100003) (S 1100004) (g20 11) (g20 12) (g20 13) (g20 1100001) (g20 1100002) (g20 1100005) (g20 1100003) (g20 1100004) (S 1024 0)) ∧ sm_KL (S 15) (S 16) (g20 15) (g20 16) (S 1031 0) ∧ sm_HD (g20 23) (g20 24) (g20 1100018 0) (g20 1007 0) ∧ sm_HD (g20 25) (fun _ : Int => (g20 1042 0)) 1 (g20 1007 0) ∧ (g20 1031 0) = (S 1031 0) ∧ (g20 1043 0) = (S 1043 0) ∧ (g20 1044 0) = (S 1044 0) ∧ (g20 1045 0) = (S 1045 0) ∧ (S 1032 0) ≤ (g20 1032 0) ∧ (g20 1032 0) ≤ 1 + (g20 1020 0) ∧ (g20 1100018 0) = (g20 1032 0) ∧ (S 1024 0) ≤ (g20 1024 0) ∧ ((g20 1021 0) = 0 → (g20 1023 0) = (g11 1023 0) ∧ (g20 1024 0) + 1 ≤ (S 1024 0) + 2 * ((g20 1020 0) - (S 1020 0))) ∧ (0 < (g20 1021 0) → (g20 1024 0) ≤ (S 1024 0) + 2 * ((g20 1020 0) - (S 1020 0)) + 2 * ((if 0 < (g11 1021 0) then 12 else 30 * (20 - (g11 1023 0)) + 25))) ∧ -1 ≤ r24 ∧ r24 < 12000 ∧ ((g20 1021 0) = 0 → (S 1020 0) < (g20 1020 0) ∧ 1 ≤ (S 6 (S 1020 0)) ∧ sm_ex (g20 1100001) (g20 1100002) (g20 1100005) (g20 1024 0) 1 r24 (17 * (20 - (g11 1023 0)) + 17) (20 - (g11 1023 0)) ∧ ((g20 11 r24) = 2 ∨ (g20 11 r24) = 7 → (g20 1100002 r24) ≤ 17 * (20 - (g11 1023 0)) + 2)) ∧ (0 < (g11 1021 0) → (g20 1020 0) = (S 1020 0) ∧ (g20 1024 0) = (S 1024 0))) → (0 + 1 ≤ (30 * (20 - (S 1023 0)) + 14)) ∧ (∀ g27 : sv_S, ((sv_R ((g20 1023 0) - 1) → (g27 1023 0) = (g20 1023 0) - 1)) → ((S 1020 0) ≤ (g20 1020 0) ∧ (g20 1020 0) < (S 1012 0) ∧ 0 ≤ (g20 1021 0) ∧ (0 < (S 1021 0) → 0 < (g20 1021 0)) ∧ (S 1007 0) ≤ (g20 1007 0) ∧ (g20 1007 0) ≤ 90 ∧ sm_LN (g20 4) (g20 1007 0) ∧ ((S 1009 0) = 1 → (g20 1009 0) = 1) ∧ ((g20 1021 0) = 0 → sm_WF (g20 11) (g20 12) (g20 13) (g20 1100001) (g20 1100002) (g20 1100005) (g20 1100003) (g20 1100004) (g20 1024 0) (g20 1007 0) (g20 1009 0) (g20 1032 0) ∧ sm_PX (S 11) (S 12) (S 13) (S 1100001) (S 1100002) (S 1100005) (S 1100003) (S 1100004) (g20 11) (g20 12) (g20 13) (g20 1100001) (g20 1100002) (g20 1100005) (g20 1100003) (g20 1100004) (S 1024 0)) ∧ sm_KL (S 15) (S 16) (g20 15) (g20 16) (S 1031 0) ∧ sm_HD (g20 23) (g20 24) (g20 1100018 0) (g20 1007 0) ∧ sm_HD (g20 25) (fun _ : Int => (g20 1042 0)) 1 (g20 1007 0) ∧ (g20 1031 0) = (S 1031 0) ∧ (g20 1043 0) = (S 1043 0) ∧ (g20 1044 0) = (S 1044 0) ∧ (g20 1045 0) = (S 1045 0) ∧ (S 1032 0) ≤ (g20 1032 0) ∧ (g20 1032 0) ≤ 1 + (g20 1020 0) ∧ (g20 1100018 0) = (g20 1032 0) ∧ (S 1024 0) ≤ (g20 1024 0) ∧ ((g20 1021 0) = 0 → (g27 1023 0) = (S 1023 0) ∧ (g20 1024 0) + 1 ≤ (S 1024 0) + 2 * ((g20 1020 0) - (S 1020 0))) ∧ (0 < (g20 1021 0) → (g20 1024 0) ≤ (S 1024 0) + 2 * ((g20 1020 0) - (S 1020 0)) + 2 * (30 * (20 - (S 1023 0)) + 14)) ∧ -1 ≤ r24 ∧ r24 < 12000 ∧ ((g20 1021 0) = 0 → sm_ex (g20 1100001) (g20 1100002) (g20 1100005) (g20 1024 0) 1 r24 (17 * (20 - (S 1023 0))) (19 - (S 1023 0)) ∧ (S 1020 0) < (g20 1020 0))))))) := by
  intro d
  intro p1
  intro S
  intro h1_
  rintro ⟨h2_, h3_⟩
  rintro ⟨h4_, ⟨h5_, ⟨h6_, ⟨h7_, ⟨h8_, ⟨h9_, ⟨h10_, ⟨h11_, ⟨h12_, ⟨h13_, ⟨h14_, ⟨h15_, ⟨h16_, ⟨h17_, ⟨h18_, ⟨h19_, ⟨h20_, ⟨h21_, ⟨h22_, ⟨h23_, ⟨h24_, ⟨h25_, ⟨h26_, ⟨h27_, h28_⟩⟩⟩⟩⟩⟩⟩⟩⟩⟩⟩⟩⟩⟩⟩⟩⟩⟩⟩⟩⟩⟩⟩⟩
  obtain ⟨h29_, ⟨h30_, ⟨h31_, ⟨h32_, ⟨h33_, h34_⟩⟩⟩⟩⟩ := (h27_ h28_)
  have h35_ := (h13_ h28_)
  intro h36_
  refine ⟨(la_opened_0 h4_ h5_ (sm_TK_t h6_).2), ?_⟩
  refine ⟨(la_opened_1 h30_), ?_⟩
  intro r7
  intro h37_
  rintro ⟨h38_, h39_⟩
  refine ⟨?_, ?_⟩
  · skip
    refine ⟨?_, ?_⟩
    · skip
      exact (la_opened_2 h38_)
    exact (la_opened_3 h38_)
  refine ⟨(la_opened_4 h4_ h5_ (sm_TK_t h6_).2 h7_ h29_ h30_), ?_⟩
  refine ⟨(la_opened_5 h30_), ?_⟩
  intro g11
  rintro ⟨h40_, ⟨h41_, h42_⟩⟩
  refine ⟨(la_opened_7 h2_ h3_), ?_⟩
  refine ⟨?_, ?_⟩
  · skip
    refine ⟨h4_, ?_⟩
    refine ⟨h5_, ?_⟩
    refine ⟨h6_, ?_⟩
    refine ⟨h40_, ?_⟩
    refine ⟨h8_, ?_⟩
    refine ⟨h9_, ?_⟩
    refine ⟨h10_, ?_⟩
    refine ⟨h11_, ?_⟩
    refine ⟨h12_, ?_⟩
    refine ⟨?_, ?_⟩
    · skip
      intro h43_
      obtain ⟨h44_, ⟨h45_, ⟨h46_, h47_⟩⟩⟩ := (h42_ h43_)
      have h48_ := (h38_.resolve_left (la_opened_8 h47_))
      obtain ⟨h49_, h50_⟩ := (h39_ h47_)
      exact h35_
    refine ⟨h14_, ?_⟩
    refine ⟨h15_, ?_⟩
    refine ⟨h16_, ?_⟩
    refine ⟨h17_, ?_⟩
    refine ⟨h18_, ?_⟩
    refine ⟨h19_, ?_⟩
    refine ⟨h20_, ?_⟩
    refine ⟨h21_, ?_⟩
    refine ⟨h22_, ?_⟩
    refine ⟨h23_, ?_⟩
    refine ⟨h24_, ?_⟩
    refine ⟨h25_, ?_⟩
    refine ⟨h26_, ?_⟩
    intro h51_
    obtain ⟨h52_, ⟨h53_, ⟨h54_, h55_⟩⟩⟩ := (h42_ h51_)
    have h56_ := (h38_.resolve_left (la_opened_8 h55_))
    obtain ⟨h57_, h58_⟩ := (h39_ h55_)
    refine ⟨(la_opened_9 h29_ h53_), ?_⟩
    refine ⟨(la_opened_10 h53_ h54_), ?_⟩
    refine ⟨(la_opened_11 h31_ h53_), ?_⟩
    refine ⟨h32_, ?_⟩
    refine ⟨(la_opened_12 h33_ h53_), ?_⟩
    exact (la_opened_12 h34_ h53_)
  refine ⟨?_, ?_⟩
  · skip
    refine ⟨?_, ?_⟩
    · skip
      by_cases c59_ : 0 < g11 1021 0
      · skip
        have e60_ : (if 0 < g11 1021 0 then 12 else 30 * (20 - g11 1023 0) + 25 : Int) = 12 := if_pos c59_
        exact (la_opened_14 e60_)
      · skip
        have e61_ : (if 0 < g11 1021 0 then 12 else 30 * (20 - g11 1023 0) + 25 : Int) = 30 * (20 - g11 1023 0) + 25 := if_neg c59_
        obtain ⟨h62_, ⟨h63_, ⟨h64_, h65_⟩⟩⟩ := (h42_ (la_opened_15 h40_ c59_))
        have h66_ := (h38_.resolve_left (la_opened_8 h65_))
        obtain ⟨h67_, h68_⟩ := (h39_ h65_)
        have h69_ := ((sm_TK_go h6_ (S 1020 0) h4_ h5_) h67_)
        have h70_ := (h69_ h68_)
        exact (la_opened_16 e61_ h63_ h64_)
    by_cases c71_ : 0 < g11 1021 0
    · skip
      have e72_ : (if 0 < g11 1021 0 then 12 else 30 * (20 - g11 1023 0) + 25 : Int) = 12 := if_pos c71_
      exact (la_opened_17 h30_ h36_ e72_)
    · skip
      have e73_ : (if 0 < g11 1021 0 then 12 else 30 * (20 - g11 1023 0) + 25 : Int) = 30 * (20 - g11 1023 0) + 25 := if_neg c71_
      obtain ⟨h74_, ⟨h75_, ⟨h76_, h77_⟩⟩⟩ := (h42_ (la_opened_15 h40_ c71_))
      have h78_ := (h38_.resolve_left (la_opened_8 h77_))
      obtain ⟨h79_, h80_⟩ := (h39_ h77_)
      have h81_ := ((sm_TK_go h6_ (S 1020 0) h4_ h5_) h79_)
      have h82_ := (h81_ h80_)
      exact (la_opened_18 h36_ e73_ h75_)
  refine ⟨?_, ?_⟩
  · skip
    refine ⟨?_, ?_⟩
    · skip
      by_cases c83_ : 0 < g11 1021 0
      · skip
        have e84_ : (if 0 < g11 1021 0 then 12 else 30 * (20 - g11 1023 0) + 25 : Int) = 12 := if_pos c83_
        exact (la_opened_14 e84_)
      · skip
        have e85_ : (if 0 < g11 1021 0 then 12 else 30 * (20 - g11 1023 0) + 25 : Int) = 30 * (20 - g11 1023 0) + 25 := if_neg c83_
        obtain ⟨h86_, ⟨h87_, ⟨h88_, h89_⟩⟩⟩ := (h42_ (la_opened_15 h40_ c83_))
        have h90_ := (h38_.resolve_left (la_opened_8 h89_))
        obtain ⟨h91_, h92_⟩ := (h39_ h89_)
        have h93_ := ((sm_TK_go h6_ (S 1020 0) h4_ h5_) h91_)
        have h94_ := (h93_ h92_)
        exact (la_opened_16 e85_ h87_ h88_)
    by_cases c95_ : 0 < g11 1021 0
    · skip
      have e96_ : (if 0 < g11 1021 0 then 12 else 30 * (20 - g11 1023 0) + 25 : Int) = 12 := if_pos c95_
      exact (la_opened_19 h30_ e96_)
    · skip
      have e97_ : (if 0 < g11 1021 0 then 12 else 30 * (20 - g11 1023 0) + 25 : Int) = 30 * (20 - g11 1023 0) + 25 := if_neg c95_
      obtain ⟨h98_, ⟨h99_, ⟨h100_, h101_⟩⟩⟩ := (h42_ (la_opened_15 h40_ c95_))
      have h102_ := (h38_.resolve_left (la_opened_8 h101_))
      obtain ⟨h103_, h104_⟩ := (h39_ h101_)
      have h105_ := ((sm_TK_go h6_ (S 1020 0) h4_ h5_) h103_)
      have h106_ := (h105_ h104_)
      exact (la_opened_20 e97_ h99_)
  intro r24
  intro h107_
  intro g20
  rintro ⟨h108_, ⟨h109_, ⟨h110_, ⟨h111_, ⟨h112_, ⟨h113_, ⟨h114_, ⟨h115_, ⟨h116_, ⟨h117_, ⟨h118_, ⟨h119_, ⟨h120_, ⟨h121_, ⟨h122_, ⟨h123_, ⟨h124_, ⟨h125_, ⟨h126_, ⟨h127_, ⟨h128_, ⟨h129_, ⟨h130_, ⟨h131_, ⟨h132_, h133_⟩⟩⟩⟩⟩⟩⟩⟩⟩⟩⟩⟩⟩⟩⟩⟩⟩⟩⟩⟩⟩⟩⟩⟩⟩
  refine ⟨(la_opened_21 h30_), ?_⟩
  intro g27
  intro h134_
  refine ⟨h108_, ?_⟩
  refine ⟨h109_, ?_⟩
  refine ⟨h110_, ?_⟩
  refine ⟨(la_opened_22 h28_), ?_⟩
  refine ⟨h112_, ?_⟩
  refine ⟨h113_, ?_⟩
  refine ⟨h114_, ?_⟩
  refine ⟨h115_, ?_⟩
  refine ⟨h116_, ?_⟩
  refine ⟨h117_, ?_⟩
  refine ⟨h118_, ?_⟩
  refine ⟨h119_, ?_⟩
  refine ⟨h120_, ?_⟩
  refine ⟨h121_, ?_⟩
  refine ⟨h122_, ?_⟩
  refine ⟨h123_, ?_⟩
  refine ⟨h124_, ?_⟩
  refine ⟨h125_, ?_⟩
  refine ⟨h126_, ?_⟩
  refine ⟨h127_, ?_⟩
  refine ⟨(la_opened_23 h29_ h40_ h42_ h110_ h111_ h128_ h134_), ?_⟩
  refine ⟨?_, ?_⟩
  · skip
    intro h135_
    have h136_ := (h129_ h135_)
    by_cases c137_ : 0 < g11 1021 0
    · skip
      have e138_ : (if 0 < g11 1021 0 then 12 else 30 * (20 - g11 1023 0) + 25 : Int) = 12 := if_pos c137_
      have h139_ := (h111_ c137_)
      obtain ⟨h140_, h141_⟩ := (h133_ c137_)
      exact (la_opened_24 h30_ h108_ h141_)
    · skip
      have e142_ : (if 0 < g11 1021 0 then 12 else 30 * (20 - g11 1023 0) + 25 : Int) = 30 * (20 - g11 1023 0) + 25 := if_neg c137_
      obtain ⟨h143_, ⟨h144_, ⟨h145_, h146_⟩⟩⟩ := (h42_ (la_opened_15 h40_ c137_))
      have h147_ := (h38_.resolve_left (la_opened_8 h146_))
      obtain ⟨h148_, h149_⟩ := (h39_ h146_)
      have h150_ := ((sm_TK_go h6_ (S 1020 0) h4_ h5_) h148_)
      have h151_ := (h150_ h149_)
      exact (la_opened_25 h136_ e142_ h144_)
  refine ⟨h130_, ?_⟩
  refine ⟨h131_, ?_⟩
  intro h152_
  have h153_ : ¬ (0 < g11 1021 0) := fun q_ => (la_opened_6 h152_) (h111_ q_)
  obtain ⟨h154_, h155_⟩ := (h128_ h152_)
  obtain ⟨h156_, h157_⟩ := (h116_ h152_)
  obtain ⟨h158_, ⟨h159_, ⟨h160_, h161_⟩⟩⟩ := (h132_ h152_)
  have e162_ : (if 0 < g11 1021 0 then 12 else 30 * (20 - g11 1023 0) + 25 : Int) = 30 * (20 - g11 1023 0) + 25 := if_neg h153_
  obtain ⟨h163_, ⟨h164_, ⟨h165_, h166_⟩⟩⟩ := (h42_ (la_opened_15 h40_ h153_))
  have h167_ := (h134_ (la_opened_26 h29_ h154_ h164_ h165_))
  have h168_ := (h38_.resolve_left (la_opened_8 h166_))
  obtain ⟨h169_, h170_⟩ := (h39_ h166_)
  refine ⟨(sm_ex_N (sm_ex_w h160_ (la_opened_27 h164_) (la_opened_28 h164_)) (Int.le_refl _)), ?_⟩
  exact h158_
set_option maxRecDepth 8000 in
set_option maxHeartbeats 2000000 in
theorem s_opened (d : Int) (h0 : 0 ≤ d) (IH : ∀ d' : Int, 0 ≤ d' → d' < d → P_P d') : T_opened d := by
  intro p1 S hok hp1 hpre hd
  have h := f_opened d p1 S hok hp1 hpre hd
  have hM := sm_h46
  show sv_T sm_XS sm_cs sm_L sm_sh (30 * (20 - (S 1023 0)) + 14).toNat (q_opened p1 S) 46 0 [(0, .ref 0), (1, sv_I p1)] [] S
  refine sv_aload_n hM dX12_opened_0 rfl rfl ?_
  refine sv_aload_n hM dX12_opened_1 rfl rfl ?_
  obtain ⟨o1, h⟩ := h
  obtain ⟨o2, h⟩ := h
  refine sv_callV hM dX12_opened_2 sm_iv_439 (by decide) (sm_a0 _) rfl rfl (Nat.le_of_ble_eq_true rfl) sm_h39 (Nat.le_of_ble_eq_true rfl) (Nat.le_of_ble_eq_true rfl) (F' := 2) (sv_Fn (n := 2) o2) rfl (t_beginsExpression  S hok o1) (fun v S1 hq => ?_)
  obtain ⟨r7, rfl, hr7, ok4, md5, hp6⟩ := hq
  obtain rfl : S = S1 := (funext fun j => md5 j (by intro q; cases q)).symm
  show sv_T sm_XS sm_cs sm_L sm_sh (30 * (20 - (S 1023 0)) + 14).toNat (q_opened p1 S) 46 5 [(0, .ref 0), (1, sv_I p1)] [sv_I r7, .ref 0] S
  have h := h r7 hr7 hp6
  obtain ⟨o8, h⟩ := h
  obtain ⟨o9, h⟩ := h
  obtain ⟨o10, h⟩ := h
  refine sv_callV hM dX12_opened_5 sm_iv_450 (by decide) (sm_a0 _) rfl rfl (Nat.le_of_ble_eq_true rfl) sm_h28 (Nat.le_of_ble_eq_true rfl) (Nat.le_of_ble_eq_true rfl) (F' := 1) (sv_Fn (n := 1) o10) rfl (t_open r7 S ok4 o8 o9) (fun v S1 hq => ?_)
  obtain ⟨rfl, ok12, md13, hp14⟩ := hq
  obtain ⟨g11, rfl⟩ : ∃ g, S1 = sv_sts S [1021, 1022, 1023] g := ⟨_, md13.eq⟩
  show sv_T sm_XS sm_cs sm_L sm_sh (30 * (20 - (S 1023 0)) + 14).toNat (q_opened p1 S) 46 8 [(0, .ref 0), (1, sv_I p1)] [] (sv_sts S [1021, 1022, 1023] g11)
  have md15 : sv_mod [1020, 1021, 1022, 1023, 5, 1011, 3, 4, 1007, 1009, 11, 12, 13, 14, 1024, 15, 16, 1031, 1032, 17, 18, 19, 20, 21, 22, 23, 24, 25, 1042, 1043, 1044, 1045, 1100001, 1100002, 1100005, 1100003, 1100004, 1100018] S (sv_sts S [1021, 1022, 1023] g11) := sv_mod.sts sv_mod.rf (by decide)
  have h := h g11 hp14
  refine sv_aload_n hM dX12_opened_8 rfl rfl ?_
  refine sv_iload_n hM dX12_opened_9 rfl rfl ?_
  obtain ⟨o16, h⟩ := h
  obtain ⟨o17, h⟩ := h
  obtain ⟨o18, h⟩ := h
  obtain ⟨o19, h⟩ := h
  refine sv_callV hM dX12_opened_10 sm_iv_442 (by decide) (sm_a0 _) rfl rfl (Nat.le_of_ble_eq_true rfl) sm_h47 (Nat.le_of_ble_eq_true rfl) (Nat.le_of_ble_eq_true rfl) (F' := (((if 0 < (g11 1021 0) then 12 else 30 * (20 - (g11 1023 0)) + 25))).toNat) (sv_Fe o19) rfl ((IH ((if 0 < (g11 1021 0) then 12 else 30 * (20 - (g11 1023 0)) + 25)) o18.1 o18.2).2.2.1 p1 (sv_sts S [1021, 1022, 1023] g11) ok12 o16 o17 rfl) (fun v S1 hq => ?_)
  obtain ⟨r24, rfl, hr24, ok21, md22, hp23⟩ := hq
  obtain ⟨g20, rfl⟩ : ∃ g, S1 = sv_sts (sv_sts S [1021, 1022, 1023] g11) [1020, 1021, 1022, 1023, 5, 1011, 3, 4, 1007, 1009, 11, 12, 13, 14, 1024, 15, 16, 1031, 1032, 17, 18, 19, 20, 21, 22, 23, 24, 25, 1042, 1043, 1044, 1045, 1100001, 1100002, 1100005, 1100003, 1100004, 1100018] g := ⟨_, md22.eq⟩
  show sv_T sm_XS sm_cs sm_L sm_sh (30 * (20 - (S 1023 0)) + 14).toNat (q_opened p1 S) 46 13 [(0, .ref 0), (1, sv_I p1)] [sv_I r24] (sv_sts (sv_sts S [1021, 1022, 1023] g11) [1020, 1021, 1022, 1023, 5, 1011, 3, 4, 1007, 1009, 11, 12, 13, 14, 1024, 15, 16, 1031, 1032, 17, 18, 19, 20, 21, 22, 23, 24, 25, 1042, 1043, 1044, 1045, 1100001, 1100002, 1100005, 1100003, 1100004, 1100018] g20)
  have md25 : sv_mod [1020, 1021, 1022, 1023, 5, 1011, 3, 4, 1007, 1009, 11, 12, 13, 14, 1024, 15, 16, 1031, 1032, 17, 18, 19, 20, 21, 22, 23, 24, 25, 1042, 1043, 1044, 1045, 1100001, 1100002, 1100005, 1100003, 1100004, 1100018] S (sv_sts (sv_sts S [1021, 1022, 1023] g11) [1020, 1021, 1022, 1023, 5, 1011, 3, 4, 1007, 1009, 11, 12, 13, 14, 1024, 15, 16, 1031, 1032, 17, 18, 19, 20, 21, 22, 23, 24, 25, 1042, 1043, 1044, 1045, 1100001, 1100002, 1100005, 1100003, 1100004, 1100018] g20) := sv_mod.sts md15 (by decide)
  have h := h r24 hr24 g20 hp23
  refine sv_istore_n hM dX12_opened_13 (by decide) rfl ?_
  show sv_T sm_XS sm_cs sm_L sm_sh (30 * (20 - (S 1023 0)) + 14).toNat (q_opened p1 S) 46 14 [(0, .ref 0), (1, sv_I p1), (2, sv_I r24)] [] (sv_sts (sv_sts S [1021, 1022, 1023] g11) [1020, 1021, 1022, 1023, 5, 1011, 3, 4, 1007, 1009, 11, 12, 13, 14, 1024, 15, 16, 1031, 1032, 17, 18, 19, 20, 21, 22, 23, 24, 25, 1042, 1043, 1044, 1045, 1100001, 1100002, 1100005, 1100003, 1100004, 1100018] g20)
  refine sv_aload_n hM dX12_opened_14 rfl rfl ?_
  obtain ⟨o26, h⟩ := h
  refine sv_callV hM dX12_opened_15 sm_iv_454 (by decide) (sm_a0 _) rfl rfl (Nat.le_of_ble_eq_true rfl) sm_h29 (Nat.le_of_ble_eq_true rfl) (Nat.le_of_ble_eq_true rfl) (F' := 0) (sv_Fn (n := 0) o26) rfl (t_close  (sv_sts (sv_sts S [1021, 1022, 1023] g11) [1020, 1021, 1022, 1023, 5, 1011, 3, 4, 1007, 1009, 11, 12, 13, 14, 1024, 15, 16, 1031, 1032, 17, 18, 19, 20, 21, 22, 23, 24, 25, 1042, 1043, 1044, 1045, 1100001, 1100002, 1100005, 1100003, 1100004, 1100018] g20) ok21) (fun v S1 hq => ?_)
  obtain ⟨rfl, ok28, md29, hp30⟩ := hq
  obtain ⟨g27, rfl⟩ : ∃ g, S1 = sv_sts (sv_sts (sv_sts S [1021, 1022, 1023] g11) [1020, 1021, 1022, 1023, 5, 1011, 3, 4, 1007, 1009, 11, 12, 13, 14, 1024, 15, 16, 1031, 1032, 17, 18, 19, 20, 21, 22, 23, 24, 25, 1042, 1043, 1044, 1045, 1100001, 1100002, 1100005, 1100003, 1100004, 1100018] g20) [1023] g := ⟨_, md29.eq⟩
  show sv_T sm_XS sm_cs sm_L sm_sh (30 * (20 - (S 1023 0)) + 14).toNat (q_opened p1 S) 46 18 [(0, .ref 0), (1, sv_I p1), (2, sv_I r24)] [] (sv_sts (sv_sts (sv_sts S [1021, 1022, 1023] g11) [1020, 1021, 1022, 1023, 5, 1011, 3, 4, 1007, 1009, 11, 12, 13, 14, 1024, 15, 16, 1031, 1032, 17, 18, 19, 20, 21, 22, 23, 24, 25, 1042, 1043, 1044, 1045, 1100001, 1100002, 1100005, 1100003, 1100004, 1100018] g20) [1023] g27)
  have md31 : sv_mod [1020, 1021, 1022, 1023, 5, 1011, 3, 4, 1007, 1009, 11, 12, 13, 14, 1024, 15, 16, 1031, 1032, 17, 18, 19, 20, 21, 22, 23, 24, 25, 1042, 1043, 1044, 1045, 1100001, 1100002, 1100005, 1100003, 1100004, 1100018] S (sv_sts (sv_sts (sv_sts S [1021, 1022, 1023] g11) [1020, 1021, 1022, 1023, 5, 1011, 3, 4, 1007, 1009, 11, 12, 13, 14, 1024, 15, 16, 1031, 1032, 17, 18, 19, 20, 21, 22, 23, 24, 25, 1042, 1043, 1044, 1045, 1100001, 1100002, 1100005, 1100003, 1100004, 1100018] g20) [1023] g27) := sv_mod.sts md25 (by decide)
  have h := h g27 hp30
  refine sv_iload_n hM dX12_opened_18 rfl rfl ?_
  exact sv_iret hM dX12_opened_19 rfl rfl ⟨r24, rfl, hr24, ok28, md31, h⟩
theorem la_assigned_0 {x0 : Int} (h0 : 0 ≤ x0) (h1 : x0 ≤ 1) : 0 ≤ x0 ∧ x0 ≤ 1 := by omega
theorem la_assigned_1 {x0 : Int} (h0 : 0 < x0) : ¬ x0 = 0 := by omega
theorem la_assigned_2 {x0 : Int} (h0 : x0 = 11) : 0 ≤ x0 := by omega
theorem la_assigned_3 {x0 : Int} (h0 : 0 ≤ x0) (h1 : ¬ 0 < x0) : x0 = 0 := by omega
theorem la_assigned_4 {x0 x1 : Int} (h0 : x0 = 30 * (20 - x1) + 24) (h1 : x1 ≤ 20) : 0 ≤ x0 := by omega
theorem la_assigned_5 {x0 x1 x2 : Int} (h0 : x0 = x1) (h1 : x0 = 12) (h2 : x2 = 11) : x2 < x1 := by omega
theorem la_assigned_6 {x0 x1 x2 x3 : Int} (h0 : x0 = x1) (h1 : x0 = 30 * (20 - x2) + 25) (h2 : x3 = 30 * (20 - x2) + 24) : x3 < x1 := by omega
theorem la_assigned_7 {x0 x1 : Int} (h0 : x0 = 12) (h1 : x1 = 11) : x1 + 1 ≤ x0 := by omega
theorem la_assigned_8 {x0 x1 x2 : Int} (h0 : x0 = 30 * (20 - x1) + 25) (h1 : x2 = 30 * (20 - x1) + 24) : x2 + 1 ≤ x0 := by omega
theorem la_assigned_9 {x0 : Int} (h0 : x0 ≤ 0) : ¬ 0 < x0 := by omega
theorem la_assigned_10 {x0 : Int} (h0 : 0 ≤ x0) (h1 : x0 ≤ 0) : x0 = 0 := by omega
theorem la_assigned_11 {x0 x1 x2 : Int} (h0 : 0 ≤ x0) (h1 : x1 ≤ 4001) (h2 : x2 < x1) (h3 : x0 < x2) : 0 ≤ x2 ∧ x2 ≤ 4000 := by omega
theorem la_assigned_12 {x0 x1 : Int} (h0 : x0 = 30 * (20 - x1) + 25) (h1 : x1 ≤ 20) : 0 + 1 ≤ x0 := by omega
theorem la_assigned_13 {x0 : Int} (h0 : (-1) ≤ x0) (h1 : ¬ x0 = (-1)) : (-1) < x0 := by omega
theorem la_assigned_14 {x0 : Int} (h0 : x0 < 12000) (h1 : 0 ≤ x0) : (-1) ≤ x0 ∧ x0 < 12000 := by omega
theorem la_assigned_15 {x0 : Int} (h0 : x0 = 1) : 0 ≤ x0 := by omega
theorem la_assigned_16 {x0 : Int} (h0 : 0 ≤ x0) (h1 : ¬ x0 = 0) : 0 < x0 := by omega
theorem la_assigned_17 {x0 x1 x2 : Int} (h0 : 0 ≤ x0) (h1 : x1 ≤ 4001) (h2 : x2 < x1) (h3 : x0 < x2) : sv_R (x2 + 1) := by omega
theorem la_assigned_18 {x0 : Int} (h0 : x0 ≤ 10) : x0 ≤ 99 := by omega
theorem la_assigned_19 {x0 : Int} (h0 : x0 ≤ 99) (h1 : ¬ x0 = 99) : x0 < 99 := by omega
theorem la_assigned_20 {x0 x1 : Int} (h0 : 0 ≤ x0) (h1 : x0 < x1) : 0 ≤ x1 + 1 := by omega
theorem la_assigned_21 {x0 x1 : Int} (h0 : 0 ≤ x0) (h1 : x0 < x1) : 0 ≤ x1 := by omega
theorem la_assigned_22 {x0 : Int} (h0 : x0 = 5) : 1 ≤ x0 := by omega
theorem la_assigned_23 {x0 : Int} (h0 : x0 = 5) : x0 ≤ 5 := by omega
theorem la_assigned_24 {x0 x1 : Int} (h0 : 0 ≤ x0) (h1 : x0 ≤ x1) : 0 ≤ x1 := by omega
theorem la_assigned_25 {x0 x1 : Int} (h0 : 0 ≤ x0) (h1 : x1 = x0) : 0 ≤ x1 := by omega
theorem la_assigned_26 {x0 x1 x2 x3 x4 x5 : Int} (h0 : x0 < x1) (h1 : x1 = x2) (h2 : x3 = x0) (h3 : x2 ≤ x4) (h4 : x5 = x4) : x3 < x5 := by omega
theorem la_assigned_27 {x0 x1 : Int} (h0 : x0 ≤ 1 + x1) : x0 ≤ 1 + (x1 + 1) := by omega
theorem la_assigned_28 {x0 x1 x2 : Int} (h0 : x0 = x1) (h1 : x2 ≤ 20) (h2 : x1 ≤ 3 * x2 + 5) : x0 ≤ 100 := by omega
theorem la_assigned_29 {x0 x1 x2 : Int} (h0 : x0 = x1) (h1 : x2 ≤ 20) (h2 : x1 ≤ x2) : x0 ≤ 30 := by omega
theorem la_assigned_30 {x0 x1 x2 x3 x4 x5 x6 x7 x8 x9 x10 x11 x12 : Int} (h0 : x0 = x1) (h1 : x2 = x3) (h2 : x4 = x5) (h3 : x6 = x7) (h4 : x8 + 1 ≤ x9 + 2 * (x10 - x11)) (h5 : 0 ≤ x7) (h6 : x7 ≤ 20) (h7 : x1 ≤ 3 * x7 + 5) (h8 : x9 ≤ 2 * x11) (h9 : x3 ≤ x7) (h10 : x5 ≤ x7) : x12 = 0 → 0 ≤ x6 ∧ x6 ≤ 20 ∧ x0 ≤ 3 * x6 + 5 ∧ x8 ≤ 2 * (x10 + 1) ∧ x2 ≤ x6 ∧ x4 ≤ x6 := by omega
theorem la_assigned_31 {x0 x1 x2 x3 : Int} (h0 : x0 = x1) (h1 : x2 = x3) (h2 : x0 = 30 * (20 - x3) + 25) (h3 : x3 ≤ 20) : 0 ≤ 30 * (20 - x2) + 14 ∧ 30 * (20 - x2) + 14 < x1 := by omega
theorem la_assigned_32 {x0 x1 x2 : Int} (h0 : x0 = x1) (h1 : x2 = 30 * (20 - x1) + 25) (h2 : x1 ≤ 20) : 0 ≤ 30 * (20 - x0) + 14 ∧ 30 * (20 - x0) + 14 + 1 ≤ x2 := by omega
theorem la_assigned_33 {x0 x1 x2 : Int} (h0 : 0 ≤ x0) (h1 : x0 < x1) (h2 : x1 ≤ x2) : 0 ≤ x2 := by omega
theorem la_assigned_34 {x0 x1 x2 x3 x4 x5 x6 x7 x8 x9 x10 : Int} (h0 : x0 ≤ 4001) (h1 : x1 = x2) (h2 : x3 + 1 ≤ x4 + 2 * (x5 - x6)) (h3 : 0 ≤ x2) (h4 : x4 ≤ 2 * x6) (h5 : x7 < x0) (h6 : 0 ≤ x8) (h7 : x8 = 0 → x9 = x1 ∧ x10 + 1 ≤ x3 + 2 * (x7 - (x5 + 1))) (h8 : 0 < x8 → x10 ≤ x3 + 2 * (x7 - (x5 + 1)) + 2 * (30 * (20 - x1) + 14)) : x10 < 12000 := by omega
theorem la_assigned_35 {x0 : Int} (h0 : 0 ≤ x0) (h1 : x0 ≤ 20) : sv_R (17 * (20 - x0) + 17) := by omega
theorem la_assigned_36 {x0 : Int} (h0 : 0 ≤ x0) (h1 : x0 ≤ 20) : sv_R (20 - x0) := by omega
theorem la_assigned_37 {x0 x1 x2 : Int} (h0 : x0 < x1) (h1 : x1 + 1 ≤ x2) : x0 ≤ x2 := by omega
theorem la_assigned_38 {x0 x1 : Int} (h0 : ¬ 0 < x0) : 0 < x0 → 0 < x1 := by omega
theorem la_assigned_39 {x0 x1 x2 : Int} (h0 : x0 ≤ x1) (h1 : x1 ≤ x2) : x0 ≤ x2 := by omega
theorem la_assigned_40 {x0 x1 x2 : Int} (h0 : x0 = 1 → x1 = 1) (h1 : x1 = 1 → x2 = 1) : x0 = 1 → x2 = 1 := by omega
theorem la_assigned_41 {x0 : Int} (h0 : x0 = 0) : ¬ 0 < x0 := by omega
theorem la_assigned_42 {x0 x1 x2 : Int} (h0 : x0 = x1) (h1 : 0 ≤ x2) (h2 : x2 < x1) : 0 ≤ x0 := by omega
theorem la_assigned_43 {x0 x1 x2 : Int} (h0 : x0 = x1) (h1 : x2 = x1 + 1) : x0 < x2 := by omega
theorem la_assigned_44 {x0 x1 : Int} (h0 : (-1) < x0) (h1 : x0 ≤ 10) (h2 : x1 = x0) : (-1) ≤ x1 ∧ x1 ≤ 10 := by omega
theorem la_assigned_45 {x0 x1 x2 : Int} (h0 : x0 ≤ x1) (h1 : x2 = x1 + 1) : x0 ≤ x2 := by omega
theorem la_assigned_46 {x0 x1 x2 x3 x4 : Int} (h0 : x0 < x1) (h1 : x1 ≤ x2) (h2 : x3 = x2 + 1) (h3 : x4 = x0) : x4 < x3 := by omega
theorem la_assigned_47 {x0 x1 x2 x3 : Int} (h0 : x0 < x1) (h1 : x1 ≤ x2) (h2 : x3 = x2 + 1) : x0 < x3 := by omega
theorem la_assigned_48 {x0 x1 : Int} (h0 : x0 = x1) : ¬ x0 < x1 := by omega
theorem la_assigned_49 {x0 x1 x2 : Int} (h0 : x0 = x1) (h1 : 0 ≤ x2) (h2 : x2 < x1) : 0 ≤ 5 * x0 + 1 := by omega
theorem la_assigned_50 {x0 x1 x2 x3 : Int} (h0 : x0 < x1) (h1 : x1 ≤ x2) (h2 : x3 = x0) : x3 < x2 := by omega
theorem la_assigned_51 {x0 x1 x2 : Int} (h0 : x0 < x1) (h1 : x1 ≤ x2) : x0 < x2 := by omega
theorem la_assigned_52 {x0 x1 x2 : Int} (h0 : x0 < x1) (h1 : x2 = x0) : x2 < x1 := by omega
theorem la_assigned_53 {x0 x1 : Int} (h0 : x0 = x1) : x1 = x0 := by omega
theorem la_assigned_54 {x0 x1 : Int} (h0 : x0 = x1) : 5 * x1 = 5 * x0 := by omega
theorem la_assigned_55 {x0 x1 : Int} (h0 : x0 = x1) : 5 * x1 + 1 = 5 * x0 + 1 := by omega
theorem la_assigned_56 {x0 x1 : Int} (h0 : x0 = x1) : 5 * x1 + 2 = 5 * x0 + 2 := by omega
theorem la_assigned_57 {x0 x1 : Int} (h0 : x0 = x1) : 5 * x1 + 3 = 5 * x0 + 3 := by omega
theorem la_assigned_58 {x0 x1 : Int} (h0 : x0 = x1) : 5 * x1 + 4 = 5 * x0 + 4 := by omega
theorem la_assigned_59 {x0 x1 x2 x3 : Int} (h0 : x0 = 1) (h1 : x1 = x2) (h2 : x3 = x0) (h3 : x3 = x1) (h4 : x0 = x2) : x1 = 1 := by omega
theorem la_assigned_60 {x0 x1 x2 x3 : Int} (h0 : x0 ≤ 17 * (20 - x1) + 2) (h1 : x2 = x0) (h2 : x2 = x3) : x3 ≤ 17 * (20 - x1) + 17 - 3 := by omega
theorem la_assigned_61 {x0 x1 x2 x3 : Int} (h0 : x0 ≤ 20 - x1) (h1 : x2 = x0) (h2 : x2 = x3) : x3 ≤ 20 - x1 := by omega
theorem la_assigned_62 {x0 x1 x2 x3 x4 : Int} (h0 : x0 < x1) (h1 : x1 ≤ x2) (h2 : x3 = x2) (h3 : x4 = x0) : x4 < x3 := by omega
theorem la_assigned_63 {x0 x1 x2 x3 x4 x5 : Int} (h0 : x0 = 2 ∨ x0 = 7) (h1 : x1 = x2) (h2 : x3 = x4) (h3 : x2 = x0) (h4 : x4 = x5) (h5 : x1 = x3) (h6 : x0 = x5) : x3 = 2 ∨ x3 = 7 := by omega
theorem la_assigned_64 {x0 x1 : Int} (h0 : x0 = x1) : 17 * (20 - x0) ≤ 17 * (20 - x1) + 17 - 3 := by omega
theorem la_assigned_65 {x0 x1 : Int} (h0 : x0 = x1) : 19 - x0 ≤ 20 - x1 - 1 := by omega
theorem la_assigned_66 {x0 x1 : Int} (h0 : x0 = x1 + 1) : x1 ≤ x0 := by omega
theorem la_assigned_67 {x0 x1 x2 x3 : Int} (h0 : x0 ≤ x1) (h1 : x1 ≤ x2) (h2 : x3 = x2) : x0 ≤ x3 := by omega
theorem la_assigned_68 {x0 x1 : Int} (h0 : x0 = x1) : x1 ≤ x0 := by omega
theorem la_assigned_69 {x0 x1 x2 : Int} (h0 : x0 = x1) (h1 : x2 = x0) : x2 = x1 := by omega
theorem la_assigned_70 {x0 x1 x2 x3 : Int} (h0 : x0 ≤ x1) (h1 : x1 ≤ x2) (h2 : x3 = x2 + 1) : x0 ≤ x3 := by omega
theorem la_assigned_71 {x0 x1 x2 x3 x4 x5 x6 x7 x8 x9 x10 : Int} (h0 : x0 = x1) (h1 : x2 + 1 ≤ x3 + 2 * (x4 - x5)) (h2 : 0 ≤ x6) (h3 : x6 = 0 → x7 = x0 ∧ x8 + 1 ≤ x2 + 2 * (x9 - (x4 + 1))) (h4 : x10 = x8 + 1) : x6 = 0 → x7 = x1 ∧ x10 + 1 ≤ x3 + 2 * (x9 - x5) := by omega
theorem la_assigned_72 {x0 x1 x2 x3 x4 x5 x6 x7 x8 x9 x10 x11 : Int} (h0 : x0 = x1) (h1 : x2 + 1 ≤ x3 + 2 * (x4 - x5)) (h2 : x6 = 30 * (20 - x1) + 25) (h3 : x1 ≤ 20) (h4 : x7 = 0 → x8 = x0 ∧ x9 + 1 ≤ x2 + 2 * (x10 - (x4 + 1))) (h5 : 0 < x7 → x9 ≤ x2 + 2 * (x10 - (x4 + 1)) + 2 * (30 * (20 - x0) + 14)) (h6 : x11 = x9 + 1) : 0 < x7 → x11 ≤ x3 + 2 * (x10 - x5) + 2 * x6 := by omega
theorem la_assigned_73 {x0 x1 x2 x3 : Int} (h0 : 0 ≤ x0) (h1 : x0 < x1) (h2 : x1 ≤ x2) (h3 : x3 = x2) : (-1) ≤ x3 := by omega
theorem la_assigned_74 {x0 x1 x2 x3 x4 x5 x6 x7 x8 x9 x10 x11 : Int} (h0 : x0 ≤ 4001) (h1 : x1 = x2) (h2 : x3 + 1 ≤ x4 + 2 * (x5 - x6)) (h3 : 0 ≤ x2) (h4 : x4 ≤ 2 * x6) (h5 : x7 < x0) (h6 : 0 ≤ x8) (h7 : x8 = 0 → x9 = x1 ∧ x10 + 1 ≤ x3 + 2 * (x7 - (x5 + 1))) (h8 : 0 < x8 → x10 ≤ x3 + 2 * (x7 - (x5 + 1)) + 2 * (30 * (20 - x1) + 14)) (h9 : x11 = x10) : x11 < 12000 := by omega
theorem la_assigned_75 {x0 x1 x2 : Int} (h0 : x0 < x1) (h1 : x1 + 1 < x2) : x0 < x2 := by omega
theorem la_assigned_76 : (1 : Int) = 1 := by omega
theorem la_assigned_77 {x0 : Int} : 17 * (20 - x0) + 17 ≤ 17 * (20 - x0) + 17 := by omega
theorem la_assigned_78 {x0 : Int} : 20 - x0 ≤ 20 - x0 := by omega
theorem la_assigned_79 {x0 : Int} (h0 : x0 = 15) : ¬ x0 = 2 := by omega
theorem la_assigned_80 {x0 : Int} : x0 = x0 := by omega
theorem la_assigned_81 {x0 x1 : Int} (h0 : x0 = 1) (h1 : x1 = x0) : x1 = 1 := by omega
theorem la_assigned_82 {x0 x1 x2 : Int} (h0 : x0 ≤ 17 * (20 - x1) + 2) (h1 : x2 = x0) : x2 ≤ 17 * (20 - x1) + 17 - 3 := by omega
theorem la_assigned_83 {x0 x1 x2 : Int} (h0 : x0 ≤ 20 - x1) (h1 : x2 = x0) : x2 ≤ 20 - x1 := by omega
theorem la_assigned_84 {x0 : Int} (h0 : x0 = 15) (h1 : x0 = 7) : False := by omega
theorem la_assigned_85 {x0 : Int} (h0 : ¬ 0 < x0) (h1 : 0 < x0) : False := by omega
theorem la_assigned_86 {x0 : Int} (h0 : ¬ ¬ x0 = 99) : ¬ x0 ≤ 10 := by omega
theorem la_assigned_87 {x0 : Int} (h0 : x0 = (-1)) : (-1) ≤ x0 ∧ x0 ≤ 10 := by omega
theorem la_assigned_88 {x0 x1 x2 x3 : Int} (h0 : x0 = 1) (h1 : x1 = x0) (h2 : x2 = x3) (h3 : x0 = x3) (h4 : x1 = x2) : x2 = 1 := by omega
theorem la_assigned_89 {x0 x1 x2 x3 x4 x5 : Int} (h0 : x0 = 2 ∨ x0 = 7) (h1 : x1 = x2) (h2 : x3 = x4) (h3 : x2 = x0) (h4 : x4 = x5) (h5 : x0 = x5) (h6 : x1 = x3) : x3 = 2 ∨ x3 = 7 := by omega
theorem la_assigned_90 {x0 : Int} (h0 : ¬ ¬ x0 = 0) : ¬ x0 = 1 := by omega
theorem la_assigned_91 {x0 x1 x2 x3 : Int} (h0 : 0 ≤ x0) (h1 : x1 ≤ 4001) (h2 : x2 < x1) (h3 : 0 ≤ x3) (h4 : x0 < x2) : 0 ≤ x2 ∧ x2 ≤ 4000 ∧ 0 ≤ x3 ∧ (1 : Int) ≤ 3 := by omega
theorem la_assigned_92 {x0 : Int} (h0 : 0 < x0) : 0 ≤ x0 := by omega
theorem la_assigned_93 {x0 x1 x2 x3 x4 x5 x6 : Int} (h0 : x0 = x1) (h1 : 0 < x2) : x2 = 0 → x0 = x1 ∧ x3 + 1 ≤ x4 + 2 * (x5 - x6) := by omega
theorem la_assigned_94 {x0 x1 x2 x3 x4 x5 x6 : Int} (h0 : x0 + 1 ≤ x1 + 2 * (x2 - x3)) (h1 : x4 = 30 * (20 - x5) + 25) (h2 : x5 ≤ 20) : 0 < x6 → x0 ≤ x1 + 2 * (x2 - x3) + 2 * x4 := by omega
theorem la_assigned_95 : ((-1) : Int) ≤ (-1) := by omega
theorem la_assigned_96 : ((-1) : Int) < 12000 := by omega
theorem la_assigned_97 {x0 : Int} (h0 : 0 < x0) (h1 : x0 = 0) : False := by omega
theorem la_assigned_98 {x0 : Int} (h0 : ¬ ¬ x0 = (-1)) : ¬ x0 = 99 := by omega
theorem la_assigned_99 {x0 x1 x2 x3 x4 x5 : Int} (h0 : x0 ≤ 0) : 0 < x0 → x1 ≤ x2 + 2 * (x3 - x4) + 2 * x5 := by omega
theorem la_assigned_100 {x0 : Int} (h0 : ¬ x0 ≤ 0) : ¬ x0 = 0 := by omega
theorem la_assigned_101 {x0 : Int} (h0 : ¬ x0 ≤ 0) : 0 < x0 := by omega
theorem la_assigned_102 {x0 x1 x2 x3 x4 : Int} (h0 : x0 = 12) (h1 : x1 = x2) (h2 : x3 = x4) : x3 ≤ x4 + 2 * (x1 - x2) + 2 * x0 := by omega
theorem la_assigned_103 {x0 x1 x2 x3 x4 x5 x6 : Int} (h0 : x0 ≤ x1 + 2 * (x2 - x3) + 2 * x4) (h1 : x5 = 30 * (20 - x6) + 25) (h2 : x4 = 30 * (20 - x6) + 24) : x0 ≤ x1 + 2 * (x2 - x3) + 2 * x5 := by omega
theorem la_assigned_104 {x0 x1 : Int} (h0 : ¬ x0 ≤ 0) (h1 : x0 = 0) : 0 < x1 := by omega
theorem la_assigned_105 {x0 x1 : Int} (h0 : ¬ x0 ≤ 0) (h1 : x0 = 0) : x1 = 0 := by omega
theorem la_assigned_106 {x0 : Int} (h0 : x0 = 0) (h1 : 0 < x0) : False := by omega
theorem la_assigned_107 {x0 : Int} (h0 : ¬ x0 ≤ 0) (h1 : x0 = 0) : False := by omega
set_option maxHeartbeats 8000000 in
theorem f_assigned : ∀ (d : Int) (p1 : Int) (S : sv_S), sm_ok S → (0 ≤ p1 ∧ p1 ≤ 1) → (0 ≤ (S 1020 0) ∧ (S 1020 0) < (S 1012 0) ∧ sm_TK (S 6) (S 8) (S 9) (S 10) (S 1012 0) ∧ 0 ≤ (S 1021 0) ∧ 0 ≤ (S 1004 0) ∧ (S 1004 0) ≤ 4000 ∧ 0 ≤ (S 1007 0) ∧ (S 1007 0) ≤ 90 ∧ sm_LN (S 4) (S 1007 0) ∧ ((S 1021 0) = 0 → sm_WF (S 11) (S 12) (S 13) (S 1100001) (S 1100002) (S 1100005) (S 1100003) (S 1100004) (S 1024 0) (S 1007 0) (S 1009 0) (S 1032 0)) ∧ sm_HD (S 23) (S 24) (S 1100018 0) (S 1007 0) ∧ sm_HD (S 25) (fun _ : Int => (S 1042 0)) 1 (S 1007 0) ∧ 0 ≤ (S 1043 0) ∧ (S 1043 0) < (S 1100018 0) ∧ (S 1100018 0) = (S 1032 0) ∧ (S 1032 0) ≤ 1 + (S 1020 0) ∧ 0 ≤ (S 1031 0) ∧ (S 1031 0) ≤ 100 ∧ 0 ≤ (S 1044 0) ∧ (S 1044 0) ≤ 30 ∧ 0 ≤ (S 1045 0) ∧ (S 1045 0) ≤ 30 ∧ 0 ≤ (S 1024 0) ∧ ((S 1021 0) = 0 → 0 ≤ (S 1023 0) ∧ (S 1023 0) ≤ 20 ∧ (S 1031 0) ≤ 3 * (S 1023 0) + 5 ∧ (S 1024 0) ≤ 2 * (S 1020 0) ∧ (S 1044 0) ≤ (S 1023 0) ∧ (S 1045 0) ≤ (S 1023 0))) → ((if 0 < (S 1021 0) then 12 else 30 * (20 - (S 1023 0)) + 25)) = d → (0 ≤ p1 ∧ p1 ≤ 1) ∧ (0 ≤ (S 1020 0) ∧ (S 1020 0) < (S 1012 0) ∧ sm_TK (S 6) (S 8) (S 9) (S 10) (S 1012 0) ∧ 0 ≤ (S 1021 0) ∧ 0 ≤ (S 1004 0) ∧ (S 1004 0) ≤ 4000 ∧ 0 ≤ (S 1007 0) ∧ (S 1007 0) ≤ 90 ∧ sm_LN (S 4) (S 1007 0) ∧ ((S 1021 0) = 0 → sm_WF (S 11) (S 12) (S 13) (S 1100001) (S 1100002) (S 1100005) (S 1100003) (S 1100004) (S 1024 0) (S 1007 0) (S 1009 0) (S 1032 0)) ∧ sm_HD (S 23) (S 24) (S 1100018 0) (S 1007 0) ∧ sm_HD (S 25) (fun _ : Int => (S 1042 0)) 1 (S 1007 0) ∧ 0 ≤ (S 1043 0) ∧ (S 1043 0) < (S 1100018 0) ∧ (S 1100018 0) = (S 1032 0) ∧ (S 1032 0) ≤ 1 + (S 1020 0) ∧ 0 ≤ (S 1031 0) ∧ (S 1031 0) ≤ 100 ∧ 0 ≤ (S 1044 0) ∧ (S 1044 0) ≤ 30 ∧ 0 ≤ (S 1045 0) ∧ (S 1045 0) ≤ 30 ∧ 0 ≤ (S 1024 0) ∧ ((S 1021 0) = 0 → 0 ≤ (S 1023 0) ∧ (S 1023 0) ≤ 20 ∧ (S 1031 0) ≤ 3 * (S 1023 0) + 5 ∧ (S 1024 0) ≤ 2 * (S 1020 0) ∧ (S 1044 0) ≤ (S 1023 0) ∧ (S 1045 0) ≤ (S 1023 0))) ∧ (0 ≤ ((if 0 < (S 1021 0) then 11 else 30 * (20 - (S 1023 0)) + 24)) ∧ ((if 0 < (S 1021 0) then 11 else 30 * (20 - (S 1023 0)) + 24)) < d) ∧ (0 ≤ ((if 0 < (S 1021 0) then 11 else 30 * (20 - (S 1023 0)) + 24)) ∧ ((if 0 < (S 1021 0) then 11 else 30 * (20 - (S 1023 0)) + 24)) + 1 ≤ ((if 0 < (S 1021 0) then 12 else 30 * (20 - (S 1023 0)) + 25))) ∧ (∀ r9 : Int, sv_R r9 → ∀ g5 : sv_S, ((S 1020 0) ≤ (g5 1020 0) ∧ (g5 1020 0) < (S 1012 0) ∧ 0 ≤ (g5 1021 0) ∧ (0 < (S 1021 0) → 0 < (g5 1021 0)) ∧ (S 1007 0) ≤ (g5 1007 0) ∧ (g5 1007 0) ≤ 90 ∧ sm_LN (g5 4) (g5 1007 0) ∧ ((S 1009 0) = 1 → (g5 1009 0) = 1) ∧ ((g5 1021 0) = 0 → sm_WF (g5 11) (g5 12) (g5 13) (g5 1100001) (g5 1100002) (g5 1100005) (g5 1100003) (g5 1100004) (g5 1024 0) (g5 1007 0) (g5 1009 0) (g5 1032 0) ∧ sm_PX (S 11) (S 12) (S 13) (S 1100001) (S 1100002) (S 1100005) (S 1100003) (S 1100004) (g5 11) (g5 12) (g5 13) (g5 1100001) (g5 1100002) (g5 1100005) (g5 1100003) (g5 1100004) (S 1024 0)) ∧ sm_KL (S 15) (S 16) (g5 15) (g5 16) (S 1031 0) ∧ sm_HD (g5 23) (g5 24) (g5 1100018 0) (g5 1007 0) ∧ sm_HD (g5 25) (fun _ : Int => (g5 1042 0)) 1 (g5 1007 0) ∧ (g5 1031 0) = (S 1031 0) ∧ (g5 1043 0) = (S 1043 0) ∧ (g5 1044 0) = (S 1044 0) ∧ (g5 1045 0) = (S 1045 0) ∧ (S 1032 0) ≤ (g5 1032 0) ∧ (g5 1032 0) ≤ 1 + (g5 1020 0) ∧ (g5 1100018 0) = (g5 1032 0) ∧ (S 1024 0) ≤ (g5 1024 0) ∧ ((g5 1021 0) = 0 → (g5 1023 0) = (S 1023 0) ∧ (g5 1024 0) + 1 ≤ (S 1024 0) + 2 * ((g5 1020 0) - (S 1020 0))) ∧ (0 < (g5 1021 0) → (g5 1024 0) ≤ (S 1024 0) + 2 * ((g5 1020 0) - (S 1020 0)) + 2 * ((if 0 < (S 1021 0) then 11 else 30 * (20 - (S 1023 0)) + 24))) ∧ -1 ≤ r9 ∧ r9 < 12000 ∧ ((g5 1021 0) = 0 → (S 1020 0) < (g5 1020 0) ∧ 1 ≤ (S 6 (S 1020 0)) ∧ sm_ex (g5 1100001) (g5 1100002) (g5 1100005) (g5 1024 0) 1 r9 (17 * (20 - (S 1023 0)) + 17) (20 - (S 1023 0)) ∧ ((g5 11 r9) = 2 ∨ (g5 11 r9) = 7 → (g5 1100002 r9) ≤ 17 * (20 - (S 1023 0)) + 2)) ∧ (0 < (S 1021 0) → (g5 1020 0) = (S 1020 0) ∧ (g5 1024 0) = (S 1024 0))) → (sv_R (g5 1021 0) → ((((g5 1021 0) ≤ (0 : Int)) → (0 ≤ (g5 1020 0) ∧ (g5 1020 0) ≤ 4000) ∧ (0 + 1 ≤ ((if 0 < (S 1021 0) then 12 else 30 * (20 - (S 1023 0)) + 25))) ∧ (∀ r18 : Int, sv_R r18 → (-1 ≤ r18 ∧ (r18 ≤ 10 ∨ r18 = 99) ∧ (¬ r18 = -1 → (S 6 (g5 1020 0)) = 5)) → (((¬ r18 = (-1 : Int)) → (-1 ≤ r9 ∧ r9 < 12000) ∧ (∀ r24 : Int, sv_R r24 → ((r24 = 0 ∨ r24 = 1) ∧ (r24 = 1 → 0 ≤ r9 ∧ (g5 14 r9) = 0 ∧ ((g5 11 r9) = 2 ∨ (g5 11 r9) = 7))) → (((¬ r24 = (0 : Int)) → (sv_R (g5 1020 0) → (sv_R ((g5 1020 0) + (1 : Int))) ∧ (((¬ r18 = (99 : Int)) → (0 ≤ ((g5 1020 0) + (1 : Int)) ∧ ((g5 1020 0) + (1 : Int)) < (S 1012 0) ∧ sm_TK (S 6) (S 8) (S 9) (S 10) (S 1012 0) ∧ 0 ≤ (g5 1021 0) ∧ 0 ≤ (S 1004 0) ∧ (S 1004 0) ≤ 4000 ∧ 0 ≤ (g5 1007 0) ∧ (g5 1007 0) ≤ 90 ∧ sm_LN (g5 4) (g5 1007 0) ∧ ((g5 1021 0) = 0 → sm_WF (g5 11) (g5 12) (g5 13) (g5 1100001) (g5 1100002) (g5 1100005) (g5 1100003) (g5 1100004) (g5 1024 0) (g5 1007 0) (g5 1009 0) (g5 1032 0)) ∧ sm_HD (g5 23) (g5 24) (g5 1100018 0) (g5 1007 0) ∧ sm_HD (g5 25) (fun _ : Int => (g5 1042 0)) 1 (g5 1007 0) ∧ 0 ≤ (g5 1043 0) ∧ (g5 1043 0) < (g5 1100018 0) ∧ (g5 1100018 0) = (g5 1032 0) ∧ (g5 1032 0) ≤ 1 + ((g5 1020 0) + (1 : Int)) ∧ 0 ≤ (g5 1031 0) ∧ (g5 1031 0) ≤ 100 ∧ 0 ≤ (g5 1044 0) ∧ (g5 1044 0) ≤ 30 ∧ 0 ≤ (g5 1045 0) ∧ (g5 1045 0) ≤ 30 ∧ 0 ≤ (g5 1024 0) ∧ ((g5 1021 0) = 0 → 0 ≤ (g5 1023 0) ∧ (g5 1023 0) ≤ 20 ∧ (g5 1031 0) ≤ 3 * (g5 1023 0) + 5 ∧ (g5 1024 0) ≤ 2 * ((g5 1020 0) + (1 : Int)) ∧ (g5 1044 0) ≤ (g5 1023 0) ∧ (g5 1045 0) ≤ (g5 1023 0)) ∧ (g5 1021 0) = 0) ∧ (0 ≤ (30 * (20 - (g5 1023 0)) + 14) ∧ (30 * (20 - (g5 1023 0)) + 14) < d) ∧ (0 ≤ (30 * (20 - (g5 1023 0)) + 14) ∧ (30 * (20 - (g5 1023 0)) + 14) + 1 ≤ ((if 0 < (S 1021 0) then 12 else 30 * (20 - (S 1023 0)) + 25))) ∧ (∀ r36 : Int, sv_R r36 → ∀ g32 : sv_S, (((g5 1020 0) + (1 : Int)) ≤ (g32 1020 0) ∧ (g32 1020 0) < (S 1012 0) ∧ 0 ≤ (g32 1021 0) ∧ (0 < (g5 1021 0) → 0 < (g32 1021 0)) ∧ (g5 1007 0) ≤ (g32 1007 0) ∧ (g32 1007 0) ≤ 90 ∧ sm_LN (g32 4) (g32 1007 0) ∧ ((g5 1009 0) = 1 → (g32 1009 0) = 1) ∧ ((g32 1021 0) = 0 → sm_WF (g32 11) (g32 12) (g32 13) (g32 1100001) (g32 1100002) (g32 1100005) (g32 1100003) (g32 1100004) (g32 1024 0) (g32 1007 0) (g32 1009 0) (g32 1032 0) ∧ sm_PX (g5 11) (g5 12) (g5 13) (g5 1100001) (g5 1100002) (g5 1100005) (g5 1100003) (g5 1100004) (g32 11) (g32 12) (g32 13) (g32 1100001) (g32 1100002) (g32 1100005) (g32 1100003) (g32 1100004) (g5 1024 0)) ∧ sm_KL (g5 15) (g5 16) (g32 15) (g32 16) (g5 1031 0) ∧ sm_HD (g32 23) (g32 24) (g32 1100018 0) (g32 1007 0) ∧ sm_HD (g32 25) (fun _ : Int => (g32 1042 0)) 1 (g32 1007 0) ∧ (g32 1031 0) = (g5 1031 0) ∧ (g32 1043 0) = (g5 1043 0) ∧ (g32 1044 0) = (g5 1044 0) ∧ (g32 1045 0) = (g5 1045 0) ∧ (g5 1032 0) ≤ (g32 1032 0) ∧ (g32 1032 0) ≤ 1 + (g32 1020 0) ∧ (g32 1100018 0) = (g32 1032 0) ∧ (g5 1024 0) ≤ (g32 1024 0) ∧ ((g32 1021 0) = 0 → (g32 1023 0) = (g5 1023 0) ∧ (g32 1024 0) + 1 ≤ (g5 1024 0) + 2 * ((g32 1020 0) - ((g5 1020 0) + (1 : Int)))) ∧ (0 < (g32 1021 0) → (g32 1024 0) ≤ (g5 1024 0) + 2 * ((g32 1020 0) - ((g5 1020 0) + (1 : Int))) + 2 * (30 * (20 - (g5 1023 0)) + 14)) ∧ -1 ≤ r36 ∧ r36 < 12000 ∧ ((g32 1021 0) = 0 → sm_ex (g32 1100001) (g32 1100002) (g32 1100005) (g32 1024 0) 1 r36 (17 * (20 - (g5 1023 0))) (19 - (g5 1023 0)) ∧ ((g5 1020 0) + (1 : Int)) < (g32 1020 0))) → (0 ≤ (g32 1024 0) ∧ (g32 1024 0) < 12000) ∧ (∀ r43 : Int, sv_R r43 → ∀ g39 : sv_S, (r43 = (g32 1024 0) ∧ (g39 1024 0) = (g32 1024 0) + 1 ∧ (g39 11 r43) = (15 : Int) ∧ (g39 12 (5 * r43)) = r18 ∧ (g39 12 (5 * r43 + 1)) = r9 ∧ (g39 12 (5 * r43 + 2)) = r36 ∧ (g39 12 (5 * r43 + 3)) = -1 ∧ (g39 12 (5 * r43 + 4)) = -1 ∧ (g39 13 r43) = -1 ∧ (g39 14 r43) = 0 ∧ (∀ n : Int, n < (g32 1024 0) → (g39 14 n) = (g32 14 n)) ∧ (sm_WF (g32 11) (g32 12) (g32 13) (g32 1100001) (g32 1100002) (g32 1100005) (g32 1100003) (g32 1100004) (g32 1024 0) (g32 1007 0) (g32 1009 0) (g32 1032 0) → sm_WF (g39 11) (g39 12) (g39 13) (g32 1100001) (g32 1100002) (g32 1100005) (g32 1100003) (g32 1100004) (g39 1024 0) (g32 1007 0) (g32 1009 0) (g32 1032 0) ∧ (g32 1100001 r43) = 0) ∧ sm_PX (g32 11) (g32 12) (g32 13) (g32 1100001) (g32 1100002) (g32 1100005) (g32 1100003) (g32 1100004) (g39 11) (g39 12) (g39 13) (g32 1100001) (g32 1100002) (g32 1100005) (g32 1100003) (g32 1100004) (g32 1024 0)) → (sv_R ((17 * (20 - (S 1023 0)) + 17))) ∧ (sv_R ((20 - (S 1023 0)))) ∧ (((g32 1021 0) = 0 → sm_WF (g39 11) (g39 12) (g39 13) (g32 1100001) (g32 1100002) (g32 1100005) (g32 1100003) (g32 1100004) (g39 1024 0) (g32 1007 0) (g32 1009 0) (g32 1032 0) → (g32 1100001 r43) = 0 → 0 ≤ r43 → r43 < (g39 1024 0) → (g39 13 r43) = -1 → (g39 11 r43) = 15 → (-1 ≤ (g39 12 (5 * r43)) ∧ (g39 12 (5 * r43)) ≤ 10) → (sm_ex (g32 1100001) (g32 1100002) (g32 1100005) (g39 1024 0) 1 (g39 12 (5 * r43 + 1)) ((17 * (20 - (S 1023 0)) + 17) - 3) (20 - (S 1023 0))) → ((g39 12 (5 * r43 + 1)) < r43) → ((g39 11 (g39 12 (5 * r43 + 1))) = 2 ∨ (g39 11 (g39 12 (5 * r43 + 1))) = 7) → (sm_ex (g32 1100001) (g32 1100002) (g32 1100005) (g39 1024 0) 1 (g39 12 (5 * r43 + 2)) ((17 * (20 - (S 1023 0)) + 17) - 3) ((20 - (S 1023 0)) - 1)) → sm_WF (g39 11) (g39 12) (g39 13) (fun i' : Int => if i' = r43 then (1 : Int) else (g32 1100001) i') (fun i' : Int => if i' = r43 then ((17 * (20 - (S 1023 0)) + 17)) else (g32 1100002) i') (fun i' : Int => if i' = r43 then ((20 - (S 1023 0))) else (g32 1100005) i') (fun i' : Int => if i' = r43 then (0 : Int) else (g32 1100003) i') (fun i' : Int => if i' = r43 then (0 : Int) else (g32 1100004) i') (g39 1024 0) (g32 1007 0) (g32 1009 0) (g32 1032 0)) → ((S 1020 0) ≤ (g32 1020 0) ∧ (g32 1020 0) < (S 1012 0) ∧ 0 ≤ (g32 1021 0) ∧ (0 < (S 1021 0) → 0 < (g32 1021 0)) ∧ (S 1007 0) ≤ (g32 1007 0) ∧ (g32 1007 0) ≤ 90 ∧ sm_LN (g32 4) (g32 1007 0) ∧ ((S 1009 0) = 1 → (g32 1009 0) = 1) ∧ ((g32 1021 0) = 0 → sm_WF (g39 11) (g39 12) (g39 13) (fun i' : Int => if i' = r43 then (1 : Int) else (g32 1100001) i') (fun i' : Int => if i' = r43 then ((17 * (20 - (S 1023 0)) + 17)) else (g32 1100002) i') (fun i' : Int => if i' = r43 then ((20 - (S 1023 0))) else (g32 1100005) i') (fun i' : Int => if i' = r43 then (0 : Int) else (g32 1100003) i') (fun i' : Int => if i' = r43 then (0 : Int) else (g32 1100004) i') (g39 1024 0) (g32 1007 0) (g32 1009 0) (g32 1032 0) ∧ sm_PX (S 11) (S 12) (S 13) (S 1100001) (S 1100002) (S 1100005) (S 1100003) (S 1100004) (g39 11) (g39 12) (g39 13) (fun i' : Int => if i' = r43 then (1 : Int) else (g32 1100001) i') (fun i' : Int => if i' = r43 then ((17 * (20 - (S 1023 0)) + 17)) else (g32 1100002) i') (fun i' : Int => if i' = r43 then ((20 - (S 1023 0))) else (g32 1100005) i') (fun i' : Int => if i' = r43 then (0 : Int) else (g32 1100003) i') (fun i' : Int => if i' = r43 then (0 : Int) else (g32 1100004) i') (S 1024 0)) ∧ sm_KL (S 15) (S 16) (g32 15) (g32 16) (S 1031 0) ∧ sm_HD (g32 23) (g32 24) (g32 1100018 0) (g32 1007 0) ∧ sm_HD (g32 25) (fun _ : Int => (g32 1042 0)) 1 (g32 1007 0) ∧ (g32 1031 0) = (S 1031 0) ∧ (g32 1043 0) = (S 1043 0) ∧ (g32 1044 0) = (S 1044 0) ∧ (g32 1045 0) = (S 1045 0) ∧ (S 1032 0) ≤ (g32 1032 0) ∧ (g32 1032 0) ≤ 1 + (g32 1020 0) ∧ (g32 1100018 0) = (g32 1032 0) ∧ (S 1024 0) ≤ (g39 1024 0) ∧ ((g32 1021 0) = 0 → (g32 1023 0) = (S 1023 0) ∧ (g39 1024 0) + 1 ≤ (S 1024 0) + 2 * ((g32 1020 0) - (S 1020 0))) ∧ (0 < (g32 1021 0) → (g39 1024 0) ≤ (S 1024 0) + 2 * ((g32 1020 0) - (S 1020 0)) + 2 * ((if 0 < (S 1021 0) then 12 else 30 * (20 - (S 1023 0)) + 25))) ∧ -1 ≤ r43 ∧ r43 < 12000 ∧ ((g32 1021 0) = 0 → (S 1020 0) < (g32 1020 0) ∧ 1 ≤ (S 6 (S 1020 0)) ∧ sm_ex (fun i' : Int => if i' = r43 then (1 : Int) else (g32 1100001) i') (fun i' : Int => if i' = r43 then ((17 * (20 - (S 1023 0)) + 17)) else (g32 1100002) i') (fun i' : Int => if i' = r43 then ((20 - (S 1023 0))) else (g32 1100005) i') (g39 1024 0) 1 r43 (17 * (20 - (S 1023 0)) + 17) (20 - (S 1023 0)) ∧ ((g39 11 r43) = 2 ∨ (g39 11 r43) = 7 → (if r43 = r43 then ((17 * (20 - (S 1023 0)) + 17)) else (g32 1100002 r43)) ≤ 17 * (20 - (S 1023 0)) + 2)) ∧ (0 < (S 1021 0) → (g32 1020 0) = (S 1020 0) ∧ (g39 1024 0) = (S 1024 0))))))) ∧ ((¬ (¬ r18 = (99 : Int))) → (0 ≤ ((g5 1020 0) + (1 : Int)) ∧ ((g5 1020 0) + (1 : Int)) < (S 1012 0) ∧ sm_TK (S 6) (S 8) (S 9) (S 10) (S 1012 0) ∧ 0 ≤ (g5 1021 0) ∧ 0 ≤ (S 1004 0) ∧ (S 1004 0) ≤ 4000 ∧ 0 ≤ (g5 1007 0) ∧ (g5 1007 0) ≤ 90 ∧ sm_LN (g5 4) (g5 1007 0) ∧ ((g5 1021 0) = 0 → sm_WF (g5 11) (g5 12) (g5 13) (g5 1100001) (g5 1100002) (g5 1100005) (g5 1100003) (g5 1100004) (g5 1024 0) (g5 1007 0) (g5 1009 0) (g5 1032 0)) ∧ sm_HD (g5 23) (g5 24) (g5 1100018 0) (g5 1007 0) ∧ sm_HD (g5 25) (fun _ : Int => (g5 1042 0)) 1 (g5 1007 0) ∧ 0 ≤ (g5 1043 0) ∧ (g5 1043 0) < (g5 1100018 0) ∧ (g5 1100018 0) = (g5 1032 0) ∧ (g5 1032 0) ≤ 1 + ((g5 1020 0) + (1 : Int)) ∧ 0 ≤ (g5 1031 0) ∧ (g5 1031 0) ≤ 100 ∧ 0 ≤ (g5 1044 0) ∧ (g5 1044 0) ≤ 30 ∧ 0 ≤ (g5 1045 0) ∧ (g5 1045 0) ≤ 30 ∧ 0 ≤ (g5 1024 0) ∧ ((g5 1021 0) = 0 → 0 ≤ (g5 1023 0) ∧ (g5 1023 0) ≤ 20 ∧ (g5 1031 0) ≤ 3 * (g5 1023 0) + 5 ∧ (g5 1024 0) ≤ 2 * ((g5 1020 0) + (1 : Int)) ∧ (g5 1044 0) ≤ (g5 1023 0) ∧ (g5 1045 0) ≤ (g5 1023 0)) ∧ (g5 1021 0) = 0) ∧ (0 ≤ (30 * (20 - (g5 1023 0)) + 14) ∧ (30 * (20 - (g5 1023 0)) + 14) < d) ∧ (0 ≤ (30 * (20 - (g5 1023 0)) + 14) ∧ (30 * (20 - (g5 1023 0)) + 14) + 1 ≤ ((if 0 < (S 1021 0) then 12 else 30 * (20 - (S 1023 0)) + 25))) ∧ (∀ r65 : Int, sv_R r65 → ∀ g61 : sv_S, (((g5 1020 0) + (1 : Int)) ≤ (g61 1020 0) ∧ (g61 1020 0) < (S 1012 0) ∧ 0 ≤ (g61 1021 0) ∧ (0 < (g5 1021 0) → 0 < (g61 1021 0)) ∧ (g5 1007 0) ≤ (g61 1007 0) ∧ (g61 1007 0) ≤ 90 ∧ sm_LN (g61 4) (g61 1007 0) ∧ ((g5 1009 0) = 1 → (g61 1009 0) = 1) ∧ ((g61 1021 0) = 0 → sm_WF (g61 11) (g61 12) (g61 13) (g61 1100001) (g61 1100002) (g61 1100005) (g61 1100003) (g61 1100004) (g61 1024 0) (g61 1007 0) (g61 1009 0) (g61 1032 0) ∧ sm_PX (g5 11) (g5 12) (g5 13) (g5 1100001) (g5 1100002) (g5 1100005) (g5 1100003) (g5 1100004) (g61 11) (g61 12) (g61 13) (g61 1100001) (g61 1100002) (g61 1100005) (g61 1100003) (g61 1100004) (g5 1024 0)) ∧ sm_KL (g5 15) (g5 16) (g61 15) (g61 16) (g5 1031 0) ∧ sm_HD (g61 23) (g61 24) (g61 1100018 0) (g61 1007 0) ∧ sm_HD (g61 25) (fun _ : Int => (g61 1042 0)) 1 (g61 1007 0) ∧ (g61 1031 0) = (g5 1031 0) ∧ (g61 1043 0) = (g5 1043 0) ∧ (g61 1044 0) = (g5 1044 0) ∧ (g61 1045 0) = (g5 1045 0) ∧ (g5 1032 0) ≤ (g61 1032 0) ∧ (g61 1032 0) ≤ 1 + (g61 1020 0) ∧ (g61 1100018 0) = (g61 1032 0) ∧ (g5 1024 0) ≤ (g61 1024 0) ∧ ((g61 1021 0) = 0 → (g61 1023 0) = (g5 1023 0) ∧ (g61 1024 0) + 1 ≤ (g5 1024 0) + 2 * ((g61 1020 0) - ((g5 1020 0) + (1 : Int)))) ∧ (0 < (g61 1021 0) → (g61 1024 0) ≤ (g5 1024 0) + 2 * ((g61 1020 0) - ((g5 1020 0) + (1 : Int))) + 2 * (30 * (20 - (g5 1023 0)) + 14)) ∧ -1 ≤ r65 ∧ r65 < 12000 ∧ ((g61 1021 0) = 0 → sm_ex (g61 1100001) (g61 1100002) (g61 1100005) (g61 1024 0) 1 r65 (17 * (20 - (g5 1023 0))) (19 - (g5 1023 0)) ∧ ((g5 1020 0) + (1 : Int)) < (g61 1020 0))) → (0 ≤ (g61 1024 0) ∧ (g61 1024 0) < 12000) ∧ (∀ r72 : Int, sv_R r72 → ∀ g68 : sv_S, (r72 = (g61 1024 0) ∧ (g68 1024 0) = (g61 1024 0) + 1 ∧ (g68 11 r72) = (15 : Int) ∧ (g68 12 (5 * r72)) = (-1 : Int) ∧ (g68 12 (5 * r72 + 1)) = r9 ∧ (g68 12 (5 * r72 + 2)) = r65 ∧ (g68 12 (5 * r72 + 3)) = -1 ∧ (g68 12 (5 * r72 + 4)) = -1 ∧ (g68 13 r72) = -1 ∧ (g68 14 r72) = 0 ∧ (∀ n : Int, n < (g61 1024 0) → (g68 14 n) = (g61 14 n)) ∧ (sm_WF (g61 11) (g61 12) (g61 13) (g61 1100001) (g61 1100002) (g61 1100005) (g61 1100003) (g61 1100004) (g61 1024 0) (g61 1007 0) (g61 1009 0) (g61 1032 0) → sm_WF (g68 11) (g68 12) (g68 13) (g61 1100001) (g61 1100002) (g61 1100005) (g61 1100003) (g61 1100004) (g68 1024 0) (g61 1007 0) (g61 1009 0) (g61 1032 0) ∧ (g61 1100001 r72) = 0) ∧ sm_PX (g61 11) (g61 12) (g61 13) (g61 1100001) (g61 1100002) (g61 1100005) (g61 1100003) (g61 1100004) (g68 11) (g68 12) (g68 13) (g61 1100001) (g61 1100002) (g61 1100005) (g61 1100003) (g61 1100004) (g61 1024 0)) → (sv_R ((17 * (20 - (S 1023 0)) + 17))) ∧ (sv_R ((20 - (S 1023 0)))) ∧ (((g61 1021 0) = 0 → sm_WF (g68 11) (g68 12) (g68 13) (g61 1100001) (g61 1100002) (g61 1100005) (g61 1100003) (g61 1100004) (g68 1024 0) (g61 1007 0) (g61 1009 0) (g61 1032 0) → (g61 1100001 r72) = 0 → 0 ≤ r72 → r72 < (g68 1024 0) → (g68 13 r72) = -1 → (g68 11 r72) = 15 → (-1 ≤ (g68 12 (5 * r72)) ∧ (g68 12 (5 * r72)) ≤ 10) → (sm_ex (g61 1100001) (g61 1100002) (g61 1100005) (g68 1024 0) 1 (g68 12 (5 * r72 + 1)) ((17 * (20 - (S 1023 0)) + 17) - 3) (20 - (S 1023 0))) → ((g68 12 (5 * r72 + 1)) < r72) → ((g68 11 (g68 12 (5 * r72 + 1))) = 2 ∨ (g68 11 (g68 12 (5 * r72 + 1))) = 7) → (sm_ex (g61 1100001) (g61 1100002) (g61 1100005) (g68 1024 0) 1 (g68 12 (5 * r72 + 2)) ((17 * (20 - (S 1023 0)) + 17) - 3) ((20 - (S 1023 0)) - 1)) → sm_WF (g68 11) (g68 12) (g68 13) (fun i' : Int => if i' = r72 then (1 : Int) else (g61 1100001) i') (fun i' : Int => if i' = r72 then ((17 * (20 - (S 1023 0)) + 17)) else (g61 1100002) i') (fun i' : Int => if i' = r72 then ((20 - (S 1023 0))) else (g61 1100005) i') (fun i' : Int => if i' = r72 then (0 : Int) else (g61 1100003) i') (fun i' : Int => if i' = r72 then (0 : Int) else (g61 1100004) i') (g68 1024 0) (g61 1007 0) (g61 1009 0) (g61 1032 0)) → ((S 1020 0) ≤ (g61 1020 0) ∧ (g61 1020 0) < (S 1012 0) ∧ 0 ≤ (g61 1021 0) ∧ (0 < (S 1021 0) → 0 < (g61 1021 0)) ∧ (S 1007 0) ≤ (g61 1007 0) ∧ (g61 1007 0) ≤ 90 ∧ sm_LN (g61 4) (g61 1007 0) ∧ ((S 1009 0) = 1 → (g61 1009 0) = 1) ∧ ((g61 1021 0) = 0 → sm_WF (g68 11) (g68 12) (g68 13) (fun i' : Int => if i' = r72 then (1 : Int) else (g61 1100001) i') (fun i' : Int => if i' = r72 then ((17 * (20 - (S 1023 0)) + 17)) else (g61 1100002) i') (fun i' : Int => if i' = r72 then ((20 - (S 1023 0))) else (g61 1100005) i') (fun i' : Int => if i' = r72 then (0 : Int) else (g61 1100003) i') (fun i' : Int => if i' = r72 then (0 : Int) else (g61 1100004) i') (g68 1024 0) (g61 1007 0) (g61 1009 0) (g61 1032 0) ∧ sm_PX (S 11) (S 12) (S 13) (S 1100001) (S 1100002) (S 1100005) (S 1100003) (S 1100004) (g68 11) (g68 12) (g68 13) (fun i' : Int => if i' = r72 then (1 : Int) else (g61 1100001) i') (fun i' : Int => if i' = r72 then ((17 * (20 - (S 1023 0)) + 17)) else (g61 1100002) i') (fun i' : Int => if i' = r72 then ((20 - (S 1023 0))) else (g61 1100005) i') (fun i' : Int => if i' = r72 then (0 : Int) else (g61 1100003) i') (fun i' : Int => if i' = r72 then (0 : Int) else (g61 1100004) i') (S 1024 0)) ∧ sm_KL (S 15) (S 16) (g61 15) (g61 16) (S 1031 0) ∧ sm_HD (g61 23) (g61 24) (g61 1100018 0) (g61 1007 0) ∧ sm_HD (g61 25) (fun _ : Int => (g61 1042 0)) 1 (g61 1007 0) ∧ (g61 1031 0) = (S 1031 0) ∧ (g61 1043 0) = (S 1043 0) ∧ (g61 1044 0) = (S 1044 0) ∧ (g61 1045 0) = (S 1045 0) ∧ (S 1032 0) ≤ (g61 1032 0) ∧ (g61 1032 0) ≤ 1 + (g61 1020 0) ∧ (g61 1100018 0) = (g61 1032 0) ∧ (S 1024 0) ≤ (g68 1024 0) ∧ ((g61 1021 0) = 0 → (g61 1023 0) = (S 1023 0) ∧ (g68 1024 0) + 1 ≤ (S 1024 0) + 2 * ((g61 1020 0) - (S 1020 0))) ∧ (0 < (g61 1021 0) → (g68 1024 0) ≤ (S 1024 0) + 2 * ((g61 1020 0) - (S 1020 0)) + 2 * ((if 0 < (S 1021 0) then 12 else 30 * (20 - (S 1023 0)) + 25))) ∧ -1 ≤ r72 ∧ r72 < 12000 ∧ ((g61 1021 0) = 0 → (S 1020 0) < (g61 1020 0) ∧ 1 ≤ (S 6 (S 1020 0)) ∧ sm_ex (fun i' : Int => if i' = r72 then (1 : Int) else (g61 1100001) i') (fun i' : Int => if i' = r72 then ((17 * (20 - (S 1023 0)) + 17)) else (g61 1100002) i') (fun i' : Int => if i' = r72 then ((20 - (S 1023 0))) else (g61 1100005) i') (g68 1024 0) 1 r72 (17 * (20 - (S 1023 0)) + 17) (20 - (S 1023 0)) ∧ ((g68 11 r72) = 2 ∨ (g68 11 r72) = 7 → (if r72 = r72 then ((17 * (20 - (S 1023 0)) + 17)) else (g61 1100002 r72)) ≤ 17 * (20 - (S 1023 0)) + 2)) ∧ (0 < (S 1021 0) → (g61 1020 0) = (S 1020 0) ∧ (g68 1024 0) = (S 1024 0)))))))))) ∧ ((¬ (¬ r24 = (0 : Int))) → (0 ≤ (g5 1020 0) ∧ (g5 1020 0) ≤ 4000 ∧ 0 ≤ (g5 1021 0) ∧ 1 ≤ (3 : Int)) ∧ (∀ r92 : Int, sv_R r92 → ∀ g88 : sv_S, (r92 = 0 ∧ 0 < (g88 1021 0) ∧ (0 < (g5 1021 0) → (g88 1021 0) = (g5 1021 0))) → ((S 1020 0) ≤ (g5 1020 0) ∧ (g5 1020 0) < (S 1012 0) ∧ 0 ≤ (g88 1021 0) ∧ (0 < (S 1021 0) → 0 < (g88 1021 0)) ∧ (S 1007 0) ≤ (g5 1007 0) ∧ (g5 1007 0) ≤ 90 ∧ sm_LN (g5 4) (g5 1007 0) ∧ ((S 1009 0) = 1 → (g5 1009 0) = 1) ∧ ((g88 1021 0) = 0 → sm_WF (g5 11) (g5 12) (g5 13) (g5 1100001) (g5 1100002) (g5 1100005) (g5 1100003) (g5 1100004) (g5 1024 0) (g5 1007 0) (g5 1009 0) (g5 1032 0) ∧ sm_PX (S 11) (S 12) (S 13) (S 1100001) (S 1100002) (S 1100005) (S 1100003) (S 1100004) (g5 11) (g5 12) (g5 13) (g5 1100001) (g5 1100002) (g5 1100005) (g5 1100003) (g5 1100004) (S 1024 0)) ∧ sm_KL (S 15) (S 16) (g5 15) (g5 16) (S 1031 0) ∧ sm_HD (g5 23) (g5 24) (g5 1100018 0) (g5 1007 0) ∧ sm_HD (g5 25) (fun _ : Int => (g5 1042 0)) 1 (g5 1007 0) ∧ (g5 1031 0) = (S 1031 0) ∧ (g5 1043 0) = (S 1043 0) ∧ (g5 1044 0) = (S 1044 0) ∧ (g5 1045 0) = (S 1045 0) ∧ (S 1032 0) ≤ (g5 1032 0) ∧ (g5 1032 0) ≤ 1 + (g5 1020 0) ∧ (g5 1100018 0) = (g5 1032 0) ∧ (S 1024 0) ≤ (g5 1024 0) ∧ ((g88 1021 0) = 0 → (g5 1023 0) = (S 1023 0) ∧ (g5 1024 0) + 1 ≤ (S 1024 0) + 2 * ((g5 1020 0) - (S 1020 0))) ∧ (0 < (g88 1021 0) → (g5 1024 0) ≤ (S 1024 0) + 2 * ((g5 1020 0) - (S 1020 0)) + 2 * ((if 0 < (S 1021 0) then 12 else 30 * (20 - (S 1023 0)) + 25))) ∧ -1 ≤ (-1 : Int) ∧ (-1 : Int) < 12000 ∧ ((g88 1021 0) = 0 → (S 1020 0) < (g5 1020 0) ∧ 1 ≤ (S 6 (S 1020 0)) ∧ sm_ex (g5 1100001) (g5 1100002) (g5 1100005) (g5 1024 0) 1 (-1 : Int) (17 * (20 - (S 1023 0)) + 17) (20 - (S 1023 0)) ∧ ((g5 11 (-1 : Int)) = 2 ∨ (g5 11 (-1 : Int)) = 7 → (g5 1100002 (-1 : Int)) ≤ 17 * (20 - (S 1023 0)) + 2)) ∧ (0 < (S 1021 0) → (g5 1020 0) = (S 1020 0) ∧ (g5 1024 0) = (S 1024 0)))))))) ∧ ((¬ (¬ r18 = (-1 : Int))) → ((S 1020 0) ≤ (g5 1020 0) ∧ (g5 1020 0) < (S 1012 0) ∧ 0 ≤ (g5 1021 0) ∧ (0 < (S 1021 0) → 0 < (g5 1021 0)) ∧ (S 1007 0) ≤ (g5 1007 0) ∧ (g5 1007 0) ≤ 90 ∧ sm_LN (g5 4) (g5 1007 0) ∧ ((S 1009 0) = 1 → (g5 1009 0) = 1) ∧ ((g5 1021 0) = 0 → sm_WF (g5 11) (g5 12) (g5 13) (g5 1100001) (g5 1100002) (g5 1100005) (g5 1100003) (g5 1100004) (g5 1024 0) (g5 1007 0) (g5 1009 0) (g5 1032 0) ∧ sm_PX (S 11) (S 12) (S 13) (S 1100001) (S 1100002) (S 1100005) (S 1100003) (S 1100004) (g5 11) (g5 12) (g5 13) (g5 1100001) (g5 1100002) (g5 1100005) (g5 1100003) (g5 1100004) (S 1024 0)) ∧ sm_KL (S 15) (S 16) (g5 15) (g5 16) (S 1031 0) ∧ sm_HD (g5 23) (g5 24) (g5 1100018 0) (g5 1007 0) ∧ sm_HD (g5 25) (fun _ : Int => (g5 1042 0)) 1 (g5 1007 0) ∧ (g5 1031 0) = (S 1031 0) ∧ (g5 1043 0) = (S 1043 0) ∧ (g5 1044 0) = (S 1044 0) ∧ (g5 1045 0) = (S 1045 0) ∧ (S 1032 0) ≤ (g5 1032 0) ∧ (g5 1032 0) ≤ 1 + (g5 1020 0) ∧ (g5 1100018 0) = (g5 1032 0) ∧ (S 1024 0) ≤ (g5 1024 0) ∧ ((g5 1021 0) = 0 → (g5 1023 0) = (S 1023 0) ∧ (g5 1024 0) + 1 ≤ (S 1024 0) + 2 * ((g5 1020 0) - (S 1020 0))) ∧ (0 < (g5 1021 0) → (g5 1024 0) ≤ (S 1024 0) + 2 * ((g5 1020 0) - (S 1020 0)) + 2 * ((if 0 < (S 1021 0) then 12 else 30 * (20 - (S 1023 0)) + 25))) ∧ -1 ≤ r9 ∧ r9 < 12000 ∧ ((g5 1021 0) = 0 → (S 1020 0) < (g5 1020 0) ∧ 1 ≤ (S 6 (S 1020 0)) ∧ sm_ex (g5 1100001) (g5 1100002) (g5 1100005) (g5 1024 0) 1 r9 (17 * (20 - (S 1023 0)) + 17) (20 - (S 1023 0)) ∧ ((g5 11 r9) = 2 ∨ (g5 11 r9) = 7 → (g5 1100002 r9) ≤ 17 * (20 - (S 1023 0)) + 2)) ∧ (0 < (S 1021 0) → (g5 1020 0) = (S 1020 0) ∧ (g5 1024 0) = (S 1024 0))))))) ∧ ((¬ ((g5 1021 0) ≤ (0 : Int))) → ((S 1020 0) ≤ (g5 1020 0) ∧ (g5 1020 0) < (S 1012 0) ∧ 0 ≤ (g5 1021 0) ∧ (0 < (S 1021 0) → 0 < (g5 1021 0)) ∧ (S 1007 0) ≤ (g5 1007 0) ∧ (g5 1007 0) ≤ 90 ∧ sm_LN (g5 4) (g5 1007 0) ∧ ((S 1009 0) = 1 → (g5 1009 0) = 1) ∧ ((g5 1021 0) = 0 → sm_WF (g5 11) (g5 12) (g5 13) (g5 1100001) (g5 1100002) (g5 1100005) (g5 1100003) (g5 1100004) (g5 1024 0) (g5 1007 0) (g5 1009 0) (g5 1032 0) ∧ sm_PX (S 11) (S 12) (S 13) (S 1100001) (S 1100002) (S 1100005) (S 1100003) (S 1100004) (g5 11) (g5 12) (g5 13) (g5 1100001) (g5 1100002) (g5 1100005) (g5 1100003) (g5 1100004) (S 1024 0)) ∧ sm_KL (S 15) (S 16) (g5 15) (g5 16) (S 1031 0) ∧ sm_HD (g5 23) (g5 24) (g5 1100018 0) (g5 1007 0) ∧ sm_HD (g5 25) (fun _ : Int => (g5 1042 0)) 1 (g5 1007 0) ∧ (g5 1031 0) = (S 1031 0) ∧ (g5 1043 0) = (S 1043 0) ∧ (g5 1044 0) = (S 1044 0) ∧ (g5 1045 0) = (S 1045 0) ∧ (S 1032 0) ≤ (g5 1032 0) ∧ (g5 1032 0) ≤ 1 + (g5 1020 0) ∧ (g5 1100018 0) = (g5 1032 0) ∧ (S 1024 0) ≤ (g5 1024 0) ∧ ((g5 1021 0) = 0 → (g5 1023 0) = (S 1023 0) ∧ (g5 1024 0) + 1 ≤ (S 1024 0) + 2 * ((g5 1020 0) - (S 1020 0))) ∧ (0 < (g5 1021 0) → (g5 1024 0) ≤ (S 1024 0) + 2 * ((g5 1020 0) - (S 1020 0)) + 2 * ((if 0 < (S 1021 0) then 12 else 30 * (20 - (S 1023 0)) + 25))) ∧ -1 ≤ (-1 : Int) ∧ (-1 : Int) < 12000 ∧ ((g5 1021 0) = 0 → (S 1020 0) < (g5 1020 0) ∧ 1 ≤ (S 6 (S 1020 0)) ∧ sm_ex (g5 1100001) (g5 1100002) (g5 1100005) (g5 1024 0) 1 (-1 : Int) (17 * (20 - (S 1023 0)) + 17) (20 - (S 1023 0)) ∧ ((g5 11 (-1 : Int)) = 2 ∨ (g5 11 (-1 : Int)) = 7 → (g5 1100002 (-1 : Int)) ≤ 17 * (20 - (S 1023 0)) + 2)) ∧ (0 < (S 1021 0) → (g5 1020 0) = (S 1020 0) ∧ (g5 1024 0) = (S 1024 0))))))) := by
  intro d
  intro p1
  intro S
  intro h1_
  rintro ⟨h2_, h3_⟩
  rintro ⟨h4_, ⟨h5_, ⟨h6_, ⟨h7_, ⟨h8_, ⟨h9_, ⟨h10_, ⟨h11_, ⟨h12_, ⟨h13_, ⟨h14_, ⟨h15_, ⟨h16_, ⟨h17_, ⟨h18_, ⟨h19_, ⟨h20_, ⟨h21_, ⟨h22_, ⟨h23_, ⟨h24_, ⟨h25_, ⟨h26_, h27_⟩⟩⟩⟩⟩⟩⟩⟩⟩⟩⟩⟩⟩⟩⟩⟩⟩⟩⟩⟩⟩⟩⟩
  intro h28_
  refine ⟨(la_assigned_0 h2_ h3_), ?_⟩
  refine ⟨⟨h4_, ⟨h5_, ⟨h6_, ⟨h7_, ⟨h8_, ⟨h9_, ⟨h10_, ⟨h11_, ⟨h12_, ⟨h13_, ⟨h14_, ⟨h15_, ⟨h16_, ⟨h17_, ⟨h18_, ⟨h19_, ⟨h20_, ⟨h21_, ⟨h22_, ⟨h23_, ⟨h24_, ⟨h25_, ⟨h26_, h27_⟩⟩⟩⟩⟩⟩⟩⟩⟩⟩⟩⟩⟩⟩⟩⟩⟩⟩⟩⟩⟩⟩⟩, ?_⟩
  refine ⟨?_, ?_⟩
  · skip
    refine ⟨?_, ?_⟩
    · skip
      by_cases c29_ : 0 < S 1021 0
      · skip
        have e30_ : (if 0 < S 1021 0 then 12 else 30 * (20 - S 1023 0) + 25 : Int) = 12 := if_pos c29_
        have e31_ : (if 0 < S 1021 0 then 11 else 30 * (20 - S 1023 0) + 24 : Int) = 11 := if_pos c29_
        exact (la_assigned_2 e31_)
      · skip
        have e32_ : (if 0 < S 1021 0 then 12 else 30 * (20 - S 1023 0) + 25 : Int) = 30 * (20 - S 1023 0) + 25 := if_neg c29_
        have e33_ : (if 0 < S 1021 0 then 11 else 30 * (20 - S 1023 0) + 24 : Int) = 30 * (20 - S 1023 0) + 24 := if_neg c29_
        obtain ⟨h34_, ⟨h35_, ⟨h36_, ⟨h37_, ⟨h38_, h39_⟩⟩⟩⟩⟩ := (h27_ (la_assigned_3 h7_ c29_))
        have h40_ := (h13_ (la_assigned_3 h7_ c29_))
        exact (la_assigned_4 e33_ h35_)
    by_cases c41_ : 0 < S 1021 0
    · skip
      have e42_ : (if 0 < S 1021 0 then 12 else 30 * (20 - S 1023 0) + 25 : Int) = 12 := if_pos c41_
      have e43_ : (if 0 < S 1021 0 then 11 else 30 * (20 - S 1023 0) + 24 : Int) = 11 := if_pos c41_
      exact (la_assigned_5 h28_ e42_ e43_)
    · skip
      have e44_ : (if 0 < S 1021 0 then 12 else 30 * (20 - S 1023 0) + 25 : Int) = 30 * (20 - S 1023 0) + 25 := if_neg c41_
      have e45_ : (if 0 < S 1021 0 then 11 else 30 * (20 - S 1023 0) + 24 : Int) = 30 * (20 - S 1023 0) + 24 := if_neg c41_
      obtain ⟨h46_, ⟨h47_, ⟨h48_, ⟨h49_, ⟨h50_, h51_⟩⟩⟩⟩⟩ := (h27_ (la_assigned_3 h7_ c41_))
      have h52_ := (h13_ (la_assigned_3 h7_ c41_))
      exact (la_assigned_6 h28_ e44_ e45_)
  refine ⟨?_, ?_⟩
  · skip
    refine ⟨?_, ?_⟩
    · skip
      by_cases c53_ : 0 < S 1021 0
      · skip
        have e54_ : (if 0 < S 1021 0 then 12 else 30 * (20 - S 1023 0) + 25 : Int) = 12 := if_pos c53_
        have e55_ : (if 0 < S 1021 0 then 11 else 30 * (20 - S 1023 0) + 24 : Int) = 11 := if_pos c53_
        exact (la_assigned_2 e55_)
      · skip
        have e56_ : (if 0 < S 1021 0 then 12 else 30 * (20 - S 1023 0) + 25 : Int) = 30 * (20 - S 1023 0) + 25 := if_neg c53_
        have e57_ : (if 0 < S 1021 0 then 11 else 30 * (20 - S 1023 0) + 24 : Int) = 30 * (20 - S 1023 0) + 24 := if_neg c53_
        obtain ⟨h58_, ⟨h59_, ⟨h60_, ⟨h61_, ⟨h62_, h63_⟩⟩⟩⟩⟩ := (h27_ (la_assigned_3 h7_ c53_))
        have h64_ := (h13_ (la_assigned_3 h7_ c53_))
        exact (la_assigned_4 e57_ h59_)
    by_cases c65_ : 0 < S 1021 0
    · skip
      have e66_ : (if 0 < S 1021 0 then 12 else 30 * (20 - S 1023 0) + 25 : Int) = 12 := if_pos c65_
      have e67_ : (if 0 < S 1021 0 then 11 else 30 * (20 - S 1023 0) + 24 : Int) = 11 := if_pos c65_
      exact (la_assigned_7 e66_ e67_)
    · skip
      have e68_ : (if 0 < S 1021 0 then 12 else 30 * (20 - S 1023 0) + 25 : Int) = 30 * (20 - S 1023 0) + 25 := if_neg c65_
      have e69_ : (if 0 < S 1021 0 then 11 else 30 * (20 - S 1023 0) + 24 : Int) = 30 * (20 - S 1023 0) + 24 := if_neg c65_
      obtain ⟨h70_, ⟨h71_, ⟨h72_, ⟨h73_, ⟨h74_, h75_⟩⟩⟩⟩⟩ := (h27_ (la_assigned_3 h7_ c65_))
      have h76_ := (h13_ (la_assigned_3 h7_ c65_))
      exact (la_assigned_8 e68_ e69_)
  intro r9
  intro h77_
  intro g5
  rintro ⟨h78_, ⟨h79_, ⟨h80_, ⟨h81_, ⟨h82_, ⟨h83_, ⟨h84_, ⟨h85_, ⟨h86_, ⟨h87_, ⟨h88_, ⟨h89_, ⟨h90_, ⟨h91_, ⟨h92_, ⟨h93_, ⟨h94_, ⟨h95_, ⟨h96_, ⟨h97_, ⟨h98_, ⟨h99_, ⟨h100_, ⟨h101_, ⟨h102_, h103_⟩⟩⟩⟩⟩⟩⟩⟩⟩⟩⟩⟩⟩⟩⟩⟩⟩⟩⟩⟩⟩⟩⟩⟩⟩
  intro h104_
  refine ⟨?_, ?_⟩
  · skip
    intro h105_
    have h106_ : ¬ (0 < S 1021 0) := fun q_ => (la_assigned_9 h105_) (h81_ q_)
    obtain ⟨h107_, h108_⟩ := (h98_ (la_assigned_10 h80_ h105_))
    have h109_ := (h13_ (la_assigned_3 h7_ h106_))
    obtain ⟨h110_, h111_⟩ := (h86_ (la_assigned_10 h80_ h105_))
    obtain ⟨h112_, ⟨h113_, ⟨h114_, h115_⟩⟩⟩ := (h102_ (la_assigned_10 h80_ h105_))
    have e116_ : (if 0 < S 1021 0 then 12 else 30 * (20 - S 1023 0) + 25 : Int) = 30 * (20 - S 1023 0) + 25 := if_neg h106_
    have e117_ : (if 0 < S 1021 0 then 11 else 30 * (20 - S 1023 0) + 24 : Int) = 30 * (20 - S 1023 0) + 24 := if_neg h106_
    obtain ⟨h118_, ⟨h119_, ⟨h120_, ⟨h121_, ⟨h122_, h123_⟩⟩⟩⟩⟩ := (h27_ (la_assigned_3 h7_ h106_))
    refine ⟨(la_assigned_11 h4_ (sm_TK_t h6_).2 h79_ h112_), ?_⟩
    refine ⟨(la_assigned_12 e116_ h119_), ?_⟩
    intro r18
    intro h124_
    rintro ⟨h125_, ⟨h126_, h127_⟩⟩
    refine ⟨?_, ?_⟩
    · skip
      intro h128_
      have h129_ := (h127_ h128_)
      refine ⟨(la_assigned_14 h101_ (sm_ex_e h114_).1), ?_⟩
      intro r24
      intro h130_
      rintro ⟨h131_, h132_⟩
      refine ⟨?_, ?_⟩
      · skip
        intro h133_
        have h134_ := (h131_.resolve_left h133_)
        obtain ⟨h135_, ⟨h136_, h137_⟩⟩ := (h132_ h134_)
        have h138_ := (h115_ h137_)
        intro h139_
        refine ⟨(la_assigned_17 h4_ (sm_TK_t h6_).2 h79_ h112_), ?_⟩
        refine ⟨?_, ?_⟩
        · skip
          intro h140_
          have h141_ := (h126_.resolve_right h140_)
          refine ⟨?_, ?_⟩
          · skip
            refine ⟨(la_assigned_20 h4_ h112_), ?_⟩
            refine ⟨?_, ?_⟩
            · skip
              have h142_ := ((sm_TK_go h6_ (S 1020 0) h4_ h5_) h113_)
              have h143_ := ((sm_TK_go h6_ (g5 1020 0) (la_assigned_21 h4_ h112_) h79_) (la_assigned_22 h129_))
              have h144_ := (h143_ (la_assigned_23 h129_))
              exact h144_
            refine ⟨h6_, ?_⟩
            refine ⟨h80_, ?_⟩
            refine ⟨h8_, ?_⟩
            refine ⟨h9_, ?_⟩
            refine ⟨(la_assigned_24 h10_ h82_), ?_⟩
            refine ⟨h83_, ?_⟩
            refine ⟨h84_, ?_⟩
            refine ⟨?_, ?_⟩
            · skip
              intro h145_
              exact h110_
            refine ⟨h88_, ?_⟩
            refine ⟨h89_, ?_⟩
            refine ⟨(la_assigned_25 h16_ h91_), ?_⟩
            refine ⟨(la_assigned_26 h17_ h18_ h91_ h94_ h96_), ?_⟩
            refine ⟨h96_, ?_⟩
            refine ⟨(la_assigned_27 h95_), ?_⟩
            refine ⟨(la_assigned_25 h20_ h90_), ?_⟩
            refine ⟨(la_assigned_28 h90_ h119_ h120_), ?_⟩
            refine ⟨(la_assigned_25 h22_ h92_), ?_⟩
            refine ⟨(la_assigned_29 h92_ h119_ h122_), ?_⟩
            refine ⟨(la_assigned_25 h24_ h93_), ?_⟩
            refine ⟨(la_assigned_29 h93_ h119_ h123_), ?_⟩
            refine ⟨(la_assigned_21 (sm_ex_e h114_).1 (sm_ex_e h114_).2.1), ?_⟩
            refine ⟨(la_assigned_30 h90_ h92_ h93_ h107_ h108_ h118_ h119_ h120_ h121_ h122_ h123_), ?_⟩
            exact (la_assigned_10 h80_ h105_)
          refine ⟨(la_assigned_31 h28_ h107_ e116_ h119_), ?_⟩
          refine ⟨(la_assigned_32 h107_ e116_ h119_), ?_⟩
          intro r36
          intro h146_
          intro g32
          rintro ⟨h147_, ⟨h148_, ⟨h149_, ⟨h150_, ⟨h151_, ⟨h152_, ⟨h153_, ⟨h154_, ⟨h155_, ⟨h156_, ⟨h157_, ⟨h158_, ⟨h159_, ⟨h160_, ⟨h161_, ⟨h162_, ⟨h163_, ⟨h164_, ⟨h165_, ⟨h166_, ⟨h167_, ⟨h168_, ⟨h169_, ⟨h170_, h171_⟩⟩⟩⟩⟩⟩⟩⟩⟩⟩⟩⟩⟩⟩⟩⟩⟩⟩⟩⟩⟩⟩⟩⟩
          refine ⟨?_, ?_⟩
          · skip
            refine ⟨(la_assigned_33 (sm_ex_e h114_).1 (sm_ex_e h114_).2.1 h166_), ?_⟩
            have h172_ := ((sm_TK_go h6_ (S 1020 0) h4_ h5_) h113_)
            have h173_ := ((sm_TK_go h6_ (g5 1020 0) (la_assigned_21 h4_ h112_) h79_) (la_assigned_22 h129_))
            have h174_ := (h173_ (la_assigned_23 h129_))
            exact (la_assigned_34 (sm_TK_t h6_).2 h107_ h108_ h118_ h121_ h148_ h149_ h167_ h168_)
          intro r43
          intro h175_
          intro g39
          rintro ⟨h176_, ⟨h177_, ⟨h178_, ⟨h179_, ⟨h180_, ⟨h181_, ⟨h182_, ⟨h183_, ⟨h184_, ⟨h185_, ⟨h186_, ⟨h187_, h188_⟩⟩⟩⟩⟩⟩⟩⟩⟩⟩⟩⟩
          refine ⟨(la_assigned_35 h118_ h119_), ?_⟩
          refine ⟨(la_assigned_36 h118_ h119_), ?_⟩
          intro h189_
          refine ⟨(la_assigned_37 h112_ h147_), ?_⟩
          refine ⟨h148_, ?_⟩
          refine ⟨h149_, ?_⟩
          refine ⟨(la_assigned_38 h106_), ?_⟩
          refine ⟨(la_assigned_39 h82_ h151_), ?_⟩
          refine ⟨h152_, ?_⟩
          refine ⟨h153_, ?_⟩
          refine ⟨(la_assigned_40 h85_ h154_), ?_⟩
          refine ⟨?_, ?_⟩
          · skip
            intro h190_
            obtain ⟨h191_, h192_⟩ := (h167_ h190_)
            obtain ⟨h193_, h194_⟩ := (h155_ h190_)
            obtain ⟨h195_, h196_⟩ := (h171_ h190_)
            obtain ⟨h197_, h198_⟩ := (h187_ h193_)
            have h199_ := (h189_ h190_)
            have h200_ := (h199_ h197_)
            have h201_ := (h200_ h198_)
            have h202_ := (h201_ (la_assigned_42 h176_ (sm_ex_e h195_).1 (sm_ex_e h195_).2.1))
            have h203_ := (h202_ (la_assigned_43 h176_ h177_))
            have h204_ := (h203_ h184_)
            have h205_ := (h204_ h178_)
            have h206_ := (h205_ (la_assigned_44 (la_assigned_13 h125_ h128_) h141_ h179_))
            refine ⟨?_, ?_⟩
            · skip
              have h207_ := (h186_ r43)
              have h208_ := ((sm_TK_go h6_ (S 1020 0) h4_ h5_) h113_)
              have h209_ := ((sm_TK_go h6_ (g5 1020 0) (la_assigned_21 h4_ h112_) h79_) (la_assigned_22 h129_))
              have h210_ := (h209_ (la_assigned_23 h129_))
              have h211_ : sm_ex (g32 1100001) (g32 1100002) (g32 1100005) (g39 1024 0) 1 (g39 12 (5 * r43 + 1)) (17 * (20 - S 1023 0) + 17 - 3) (20 - S 1023 0) := by
                have e212_ : g32 11 r9 = g32 11 (g39 12 (5 * r43 + 1)) := congrArg ((g32 11)) (la_assigned_53 h180_)
                have e213_ : g32 1100001 r9 = g32 1100001 (g39 12 (5 * r43 + 1)) := congrArg ((g32 1100001)) (la_assigned_53 h180_)
                have e214_ : g32 1100002 r9 = g32 1100002 (g39 12 (5 * r43 + 1)) := congrArg ((g32 1100002)) (la_assigned_53 h180_)
                have e215_ : g32 1100003 r9 = g32 1100003 (g39 12 (5 * r43 + 1)) := congrArg ((g32 1100003)) (la_assigned_53 h180_)
                have e216_ : g32 1100004 r9 = g32 1100004 (g39 12 (5 * r43 + 1)) := congrArg ((g32 1100004)) (la_assigned_53 h180_)
                have e217_ : g32 1100005 r9 = g32 1100005 (g39 12 (5 * r43 + 1)) := congrArg ((g32 1100005)) (la_assigned_53 h180_)
                have e218_ : g32 12 (5 * r9) = g32 12 (5 * g39 12 (5 * r43 + 1)) := congrArg ((g32 12)) (la_assigned_54 h180_)
                have e219_ : g32 12 (5 * r9 + 1) = g32 12 (5 * g39 12 (5 * r43 + 1) + 1) := congrArg ((g32 12)) (la_assigned_55 h180_)
                have e220_ : g32 12 (5 * r9 + 2) = g32 12 (5 * g39 12 (5 * r43 + 1) + 2) := congrArg ((g32 12)) (la_assigned_56 h180_)
                have e221_ : g32 12 (5 * r9 + 3) = g32 12 (5 * g39 12 (5 * r43 + 1) + 3) := congrArg ((g32 12)) (la_assigned_57 h180_)
                have e222_ : g32 12 (5 * r9 + 4) = g32 12 (5 * g39 12 (5 * r43 + 1) + 4) := congrArg ((g32 12)) (la_assigned_58 h180_)
                have e223_ : g32 13 r9 = g32 13 (g39 12 (5 * r43 + 1)) := congrArg ((g32 13)) (la_assigned_53 h180_)
                have e224_ : g39 11 r9 = g39 11 (g39 12 (5 * r43 + 1)) := congrArg ((g39 11)) (la_assigned_53 h180_)
                have e225_ : g39 13 r9 = g39 13 (g39 12 (5 * r43 + 1)) := congrArg ((g39 13)) (la_assigned_53 h180_)
                have e226_ : g5 11 r9 = g5 11 (g39 12 (5 * r43 + 1)) := congrArg ((g5 11)) (la_assigned_53 h180_)
                have e227_ : g5 1100001 r9 = g5 1100001 (g39 12 (5 * r43 + 1)) := congrArg ((g5 1100001)) (la_assigned_53 h180_)
                have e228_ : g5 1100002 r9 = g5 1100002 (g39 12 (5 * r43 + 1)) := congrArg ((g5 1100002)) (la_assigned_53 h180_)
                have e229_ : g5 1100003 r9 = g5 1100003 (g39 12 (5 * r43 + 1)) := congrArg ((g5 1100003)) (la_assigned_53 h180_)
                have e230_ : g5 1100004 r9 = g5 1100004 (g39 12 (5 * r43 + 1)) := congrArg ((g5 1100004)) (la_assigned_53 h180_)
                have e231_ : g5 1100005 r9 = g5 1100005 (g39 12 (5 * r43 + 1)) := congrArg ((g5 1100005)) (la_assigned_53 h180_)
                have e232_ : g5 12 (5 * r9) = g5 12 (5 * g39 12 (5 * r43 + 1)) := congrArg ((g5 12)) (la_assigned_54 h180_)
                have e233_ : g5 12 (5 * r9 + 1) = g5 12 (5 * g39 12 (5 * r43 + 1) + 1) := congrArg ((g5 12)) (la_assigned_55 h180_)
                have e234_ : g5 12 (5 * r9 + 2) = g5 12 (5 * g39 12 (5 * r43 + 1) + 2) := congrArg ((g5 12)) (la_assigned_56 h180_)
                have e235_ : g5 12 (5 * r9 + 3) = g5 12 (5 * g39 12 (5 * r43 + 1) + 3) := congrArg ((g5 12)) (la_assigned_57 h180_)
                have e236_ : g5 12 (5 * r9 + 4) = g5 12 (5 * g39 12 (5 * r43 + 1) + 4) := congrArg ((g5 12)) (la_assigned_58 h180_)
                have e237_ : g5 13 r9 = g5 13 (g39 12 (5 * r43 + 1)) := congrArg ((g5 13)) (la_assigned_53 h180_)
                exact (sm_ex_i (la_assigned_25 (sm_ex_e h114_).1 h180_) (la_assigned_46 (sm_ex_e h114_).2.1 h166_ h177_ h180_) (la_assigned_59 (sm_ex_e h114_).2.2.1 (sm_PX_at h194_ (g39 12 (5 * r43 + 1)) (la_assigned_25 (sm_ex_e h114_).1 h180_) (la_assigned_52 (sm_ex_e h114_).2.1 h180_)).2.2.2.2.2.2.2.1 (sm_PX_at h194_ r9 (sm_ex_e h114_).1 (sm_ex_e h114_).2.1).2.2.2.2.2.2.2.1 e213_ e227_) (la_assigned_60 h138_ (sm_PX_at h194_ r9 (sm_ex_e h114_).1 (sm_ex_e h114_).2.1).2.2.2.2.2.2.2.2.1 e214_) (la_assigned_61 (sm_ex_e h114_).2.2.2.2 (sm_PX_at h194_ r9 (sm_ex_e h114_).1 (sm_ex_e h114_).2.1).2.2.2.2.2.2.2.2.2.1 e217_))
              have h238_ : g39 11 (g39 12 (5 * r43 + 1)) = 2 ∨ g39 11 (g39 12 (5 * r43 + 1)) = 7 := by
                have e239_ : g32 11 r9 = g32 11 (g39 12 (5 * r43 + 1)) := congrArg ((g32 11)) (la_assigned_53 h180_)
                have e240_ : g32 1100001 r9 = g32 1100001 (g39 12 (5 * r43 + 1)) := congrArg ((g32 1100001)) (la_assigned_53 h180_)
                have e241_ : g32 1100002 r9 = g32 1100002 (g39 12 (5 * r43 + 1)) := congrArg ((g32 1100002)) (la_assigned_53 h180_)
                have e242_ : g32 1100003 r9 = g32 1100003 (g39 12 (5 * r43 + 1)) := congrArg ((g32 1100003)) (la_assigned_53 h180_)
                have e243_ : g32 1100004 r9 = g32 1100004 (g39 12 (5 * r43 + 1)) := congrArg ((g32 1100004)) (la_assigned_53 h180_)
                have e244_ : g32 1100005 r9 = g32 1100005 (g39 12 (5 * r43 + 1)) := congrArg ((g32 1100005)) (la_assigned_53 h180_)
                have e245_ : g32 12 (5 * r9) = g32 12 (5 * g39 12 (5 * r43 + 1)) := congrArg ((g32 12)) (la_assigned_54 h180_)
                have e246_ : g32 12 (5 * r9 + 1) = g32 12 (5 * g39 12 (5 * r43 + 1) + 1) := congrArg ((g32 12)) (la_assigned_55 h180_)
                have e247_ : g32 12 (5 * r9 + 2) = g32 12 (5 * g39 12 (5 * r43 + 1) + 2) := congrArg ((g32 12)) (la_assigned_56 h180_)
                have e248_ : g32 12 (5 * r9 + 3) = g32 12 (5 * g39 12 (5 * r43 + 1) + 3) := congrArg ((g32 12)) (la_assigned_57 h180_)
                have e249_ : g32 12 (5 * r9 + 4) = g32 12 (5 * g39 12 (5 * r43 + 1) + 4) := congrArg ((g32 12)) (la_assigned_58 h180_)
                have e250_ : g32 13 r9 = g32 13 (g39 12 (5 * r43 + 1)) := congrArg ((g32 13)) (la_assigned_53 h180_)
                have e251_ : g39 11 r9 = g39 11 (g39 12 (5 * r43 + 1)) := congrArg ((g39 11)) (la_assigned_53 h180_)
                have e252_ : g39 13 r9 = g39 13 (g39 12 (5 * r43 + 1)) := congrArg ((g39 13)) (la_assigned_53 h180_)
                have e253_ : g5 11 r9 = g5 11 (g39 12 (5 * r43 + 1)) := congrArg ((g5 11)) (la_assigned_53 h180_)
                have e254_ : g5 1100001 r9 = g5 1100001 (g39 12 (5 * r43 + 1)) := congrArg ((g5 1100001)) (la_assigned_53 h180_)
                have e255_ : g5 1100002 r9 = g5 1100002 (g39 12 (5 * r43 + 1)) := congrArg ((g5 1100002)) (la_assigned_53 h180_)
                have e256_ : g5 1100003 r9 = g5 1100003 (g39 12 (5 * r43 + 1)) := congrArg ((g5 1100003)) (la_assigned_53 h180_)
                have e257_ : g5 1100004 r9 = g5 1100004 (g39 12 (5 * r43 + 1)) := congrArg ((g5 1100004)) (la_assigned_53 h180_)
                have e258_ : g5 1100005 r9 = g5 1100005 (g39 12 (5 * r43 + 1)) := congrArg ((g5 1100005)) (la_assigned_53 h180_)
                have e259_ : g5 12 (5 * r9) = g5 12 (5 * g39 12 (5 * r43 + 1)) := congrArg ((g5 12)) (la_assigned_54 h180_)
                have e260_ : g5 12 (5 * r9 + 1) = g5 12 (5 * g39 12 (5 * r43 + 1) + 1) := congrArg ((g5 12)) (la_assigned_55 h180_)
                have e261_ : g5 12 (5 * r9 + 2) = g5 12 (5 * g39 12 (5 * r43 + 1) + 2) := congrArg ((g5 12)) (la_assigned_56 h180_)
                have e262_ : g5 12 (5 * r9 + 3) = g5 12 (5 * g39 12 (5 * r43 + 1) + 3) := congrArg ((g5 12)) (la_assigned_57 h180_)
                have e263_ : g5 12 (5 * r9 + 4) = g5 12 (5 * g39 12 (5 * r43 + 1) + 4) := congrArg ((g5 12)) (la_assigned_58 h180_)
                have e264_ : g5 13 r9 = g5 13 (g39 12 (5 * r43 + 1)) := congrArg ((g5 13)) (la_assigned_53 h180_)
                exact (la_assigned_63 h137_ (sm_PX_at h188_ r9 (sm_ex_e h114_).1 (la_assigned_51 (sm_ex_e h114_).2.1 h166_)).1 (sm_PX_at h188_ (g39 12 (5 * r43 + 1)) (la_assigned_25 (sm_ex_e h114_).1 h180_) (la_assigned_50 (sm_ex_e h114_).2.1 h166_ h180_)).1 (sm_PX_at h194_ r9 (sm_ex_e h114_).1 (sm_ex_e h114_).2.1).1 (sm_PX_at h194_ (g39 12 (5 * r43 + 1)) (la_assigned_25 (sm_ex_e h114_).1 h180_) (la_assigned_52 (sm_ex_e h114_).2.1 h180_)).1 e251_ e253_)
              have h265_ := (h206_ h211_ (la_assigned_62 (sm_ex_e h114_).2.1 h166_ h176_ h180_) h238_ (sm_ex_eq h181_ (sm_ex_N (sm_ex_w h195_ (la_assigned_64 h107_) (la_assigned_65 h107_)) (la_assigned_66 h177_))))
              exact h265_
            exact (sm_PX_up_Ws (sm_PX_up_Lp (sm_PX_up_V (sm_PX_up_M (sm_PX_up_C (sm_PX_tr (sm_PX_tr (sm_PX_le h111_ (Int.le_refl _)) h194_ h97_) h188_ (la_assigned_39 h97_ h166_)) (la_assigned_67 h97_ h166_ h176_)) (la_assigned_67 h97_ h166_ h176_)) (la_assigned_67 h97_ h166_ h176_)) (la_assigned_67 h97_ h166_ h176_)) (la_assigned_67 h97_ h166_ h176_))
          refine ⟨(sm_KL_tr (sm_KL_le h87_ (Int.le_refl _)) (sm_KL_le h156_ (la_assigned_68 h90_)) (Int.le_refl _)), ?_⟩
          refine ⟨h157_, ?_⟩
          refine ⟨h158_, ?_⟩
          refine ⟨(la_assigned_69 h90_ h159_), ?_⟩
          refine ⟨(la_assigned_69 h91_ h160_), ?_⟩
          refine ⟨(la_assigned_69 h92_ h161_), ?_⟩
          refine ⟨(la_assigned_69 h93_ h162_), ?_⟩
          refine ⟨(la_assigned_39 h94_ h163_), ?_⟩
          refine ⟨h164_, ?_⟩
          refine ⟨h165_, ?_⟩
          refine ⟨(la_assigned_70 h97_ h166_ h177_), ?_⟩
          refine ⟨(la_assigned_71 h107_ h108_ h149_ h167_ h177_), ?_⟩
          refine ⟨(la_assigned_72 h107_ h108_ e116_ h119_ h167_ h168_ h177_), ?_⟩
          refine ⟨(la_assigned_73 (sm_ex_e h114_).1 (sm_ex_e h114_).2.1 h166_ h176_), ?_⟩
          refine ⟨?_, ?_⟩
          · skip
            have h266_ := (h186_ r43)
            have h267_ := ((sm_TK_go h6_ (S 1020 0) h4_ h5_) h113_)
            have h268_ := ((sm_TK_go h6_ (g5 1020 0) (la_assigned_21 h4_ h112_) h79_) (la_assigned_22 h129_))
            have h269_ := (h268_ (la_assigned_23 h129_))
            exact (la_assigned_74 (sm_TK_t h6_).2 h107_ h108_ h118_ h121_ h148_ h149_ h167_ h168_ h176_)
          refine ⟨?_, ?_⟩
          · skip
            intro h270_
            obtain ⟨h271_, h272_⟩ := (h167_ h270_)
            obtain ⟨h273_, h274_⟩ := (h155_ h270_)
            obtain ⟨h275_, h276_⟩ := (h171_ h270_)
            obtain ⟨h277_, h278_⟩ := (h187_ h273_)
            have h279_ := (h189_ h270_)
            have h280_ := (h279_ h277_)
            have h281_ := (h280_ h278_)
            have h282_ := (h281_ (la_assigned_42 h176_ (sm_ex_e h275_).1 (sm_ex_e h275_).2.1))
            have h283_ := (h282_ (la_assigned_43 h176_ h177_))
            have h284_ := (h283_ h184_)
            have h285_ := (h284_ h178_)
            have h286_ := (h285_ (la_assigned_44 (la_assigned_13 h125_ h128_) h141_ h179_))
            refine ⟨(la_assigned_75 h112_ h276_), ?_⟩
            refine ⟨h113_, ?_⟩
            refine ⟨(sm_ex_if (la_assigned_42 h176_ (sm_ex_e h275_).1 (sm_ex_e h275_).2.1) (la_assigned_43 h176_ h177_) la_assigned_76 la_assigned_77 la_assigned_78), ?_⟩
            intro h287_
            have h288_ := (h287_.resolve_left (la_assigned_79 h178_))
            have h289_ := (h186_ r43)
            have e290_ : (if r43 = r43 then 17 * (20 - S 1023 0) + 17 else g32 1100002 r43 : Int) = 17 * (20 - S 1023 0) + 17 := if_pos la_assigned_80
            have h291_ := ((sm_TK_go h6_ (S 1020 0) h4_ h5_) h113_)
            have h292_ := ((sm_TK_go h6_ (g5 1020 0) (la_assigned_21 h4_ h112_) h79_) (la_assigned_22 h129_))
            have h293_ := (h286_ (sm_ex_eq h180_ (sm_ex_i (sm_ex_e h114_).1 (la_assigned_47 (sm_ex_e h114_).2.1 h166_ h177_) (la_assigned_81 (sm_ex_e h114_).2.2.1 (sm_PX_at h274_ r9 (sm_ex_e h114_).1 (sm_ex_e h114_).2.1).2.2.2.2.2.2.2.1) (la_assigned_82 h138_ (sm_PX_at h274_ r9 (sm_ex_e h114_).1 (sm_ex_e h114_).2.1).2.2.2.2.2.2.2.2.1) (la_assigned_83 (sm_ex_e h114_).2.2.2.2 (sm_PX_at h274_ r9 (sm_ex_e h114_).1 (sm_ex_e h114_).2.1).2.2.2.2.2.2.2.2.2.1))))
            have h294_ := (h292_ (la_assigned_23 h129_))
            have h295_ := (h293_ (la_assigned_62 (sm_ex_e h114_).2.1 h166_ h176_ h180_))
            have e296_ : g32 11 r9 = g32 11 (g39 12 (5 * r43 + 1)) := congrArg ((g32 11)) (la_assigned_53 h180_)
            have e297_ : g32 1100001 r9 = g32 1100001 (g39 12 (5 * r43 + 1)) := congrArg ((g32 1100001)) (la_assigned_53 h180_)
            have e298_ : g32 1100002 r9 = g32 1100002 (g39 12 (5 * r43 + 1)) := congrArg ((g32 1100002)) (la_assigned_53 h180_)
            have e299_ : g32 1100003 r9 = g32 1100003 (g39 12 (5 * r43 + 1)) := congrArg ((g32 1100003)) (la_assigned_53 h180_)
            have e300_ : g32 1100004 r9 = g32 1100004 (g39 12 (5 * r43 + 1)) := congrArg ((g32 1100004)) (la_assigned_53 h180_)
            have e301_ : g32 1100005 r9 = g32 1100005 (g39 12 (5 * r43 + 1)) := congrArg ((g32 1100005)) (la_assigned_53 h180_)
            have e302_ : g32 12 (5 * r9) = g32 12 (5 * g39 12 (5 * r43 + 1)) := congrArg ((g32 12)) (la_assigned_54 h180_)
            have e303_ : g32 12 (5 * r9 + 1) = g32 12 (5 * g39 12 (5 * r43 + 1) + 1) := congrArg ((g32 12)) (la_assigned_55 h180_)
            have e304_ : g32 12 (5 * r9 + 2) = g32 12 (5 * g39 12 (5 * r43 + 1) + 2) := congrArg ((g32 12)) (la_assigned_56 h180_)
            have e305_ : g32 12 (5 * r9 + 3) = g32 12 (5 * g39 12 (5 * r43 + 1) + 3) := congrArg ((g32 12)) (la_assigned_57 h180_)
            have e306_ : g32 12 (5 * r9 + 4) = g32 12 (5 * g39 12 (5 * r43 + 1) + 4) := congrArg ((g32 12)) (la_assigned_58 h180_)
            have e307_ : g32 13 r9 = g32 13 (g39 12 (5 * r43 + 1)) := congrArg ((g32 13)) (la_assigned_53 h180_)
            have e308_ : g39 11 r9 = g39 11 (g39 12 (5 * r43 + 1)) := congrArg ((g39 11)) (la_assigned_53 h180_)
            have e309_ : g39 13 r9 = g39 13 (g39 12 (5 * r43 + 1)) := congrArg ((g39 13)) (la_assigned_53 h180_)
            have e310_ : g5 11 r9 = g5 11 (g39 12 (5 * r43 + 1)) := congrArg ((g5 11)) (la_assigned_53 h180_)
            have e311_ : g5 1100001 r9 = g5 1100001 (g39 12 (5 * r43 + 1)) := congrArg ((g5 1100001)) (la_assigned_53 h180_)
            have e312_ : g5 1100002 r9 = g5 1100002 (g39 12 (5 * r43 + 1)) := congrArg ((g5 1100002)) (la_assigned_53 h180_)
            have e313_ : g5 1100003 r9 = g5 1100003 (g39 12 (5 * r43 + 1)) := congrArg ((g5 1100003)) (la_assigned_53 h180_)
            have e314_ : g5 1100004 r9 = g5 1100004 (g39 12 (5 * r43 + 1)) := congrArg ((g5 1100004)) (la_assigned_53 h180_)
            have e315_ : g5 1100005 r9 = g5 1100005 (g39 12 (5 * r43 + 1)) := congrArg ((g5 1100005)) (la_assigned_53 h180_)
            have e316_ : g5 12 (5 * r9) = g5 12 (5 * g39 12 (5 * r43 + 1)) := congrArg ((g5 12)) (la_assigned_54 h180_)
            have e317_ : g5 12 (5 * r9 + 1) = g5 12 (5 * g39 12 (5 * r43 + 1) + 1) := congrArg ((g5 12)) (la_assigned_55 h180_)
            have e318_ : g5 12 (5 * r9 + 2) = g5 12 (5 * g39 12 (5 * r43 + 1) + 2) := congrArg ((g5 12)) (la_assigned_56 h180_)
            have e319_ : g5 12 (5 * r9 + 3) = g5 12 (5 * g39 12 (5 * r43 + 1) + 3) := congrArg ((g5 12)) (la_assigned_57 h180_)
            have e320_ : g5 12 (5 * r9 + 4) = g5 12 (5 * g39 12 (5 * r43 + 1) + 4) := congrArg ((g5 12)) (la_assigned_58 h180_)
            have e321_ : g5 13 r9 = g5 13 (g39 12 (5 * r43 + 1)) := congrArg ((g5 13)) (la_assigned_53 h180_)
            exact ((la_assigned_84 h178_ h288_)).elim
          intro h322_
          refine ⟨?_, ?_⟩
          · skip
            have h323_ := (h186_ r43)
            have h324_ := ((sm_TK_go h6_ (S 1020 0) h4_ h5_) h113_)
            have h325_ := ((sm_TK_go h6_ (g5 1020 0) (la_assigned_21 h4_ h112_) h79_) (la_assigned_22 h129_))
            have h326_ := (h325_ (la_assigned_23 h129_))
            exact ((la_assigned_85 h106_ h322_)).elim
          have h327_ := (h186_ r43)
          have h328_ := ((sm_TK_go h6_ (S 1020 0) h4_ h5_) h113_)
          have h329_ := ((sm_TK_go h6_ (g5 1020 0) (la_assigned_21 h4_ h112_) h79_) (la_assigned_22 h129_))
          have h330_ := (h329_ (la_assigned_23 h129_))
          exact ((la_assigned_85 h106_ h322_)).elim
        intro h331_
        have h332_ := (h126_.resolve_left (la_assigned_86 h331_))
        refine ⟨?_, ?_⟩
        · skip
          refine ⟨(la_assigned_20 h4_ h112_), ?_⟩
          refine ⟨?_, ?_⟩
          · skip
            have h333_ := ((sm_TK_go h6_ (S 1020 0) h4_ h5_) h113_)
            have h334_ := ((sm_TK_go h6_ (g5 1020 0) (la_assigned_21 h4_ h112_) h79_) (la_assigned_22 h129_))
            have h335_ := (h334_ (la_assigned_23 h129_))
            exact h335_
          refine ⟨h6_, ?_⟩
          refine ⟨h80_, ?_⟩
          refine ⟨h8_, ?_⟩
          refine ⟨h9_, ?_⟩
          refine ⟨(la_assigned_24 h10_ h82_), ?_⟩
          refine ⟨h83_, ?_⟩
          refine ⟨h84_, ?_⟩
          refine ⟨?_, ?_⟩
          · skip
            intro h336_
            exact h110_
          refine ⟨h88_, ?_⟩
          refine ⟨h89_, ?_⟩
          refine ⟨(la_assigned_25 h16_ h91_), ?_⟩
          refine ⟨(la_assigned_26 h17_ h18_ h91_ h94_ h96_), ?_⟩
          refine ⟨h96_, ?_⟩
          refine ⟨(la_assigned_27 h95_), ?_⟩
          refine ⟨(la_assigned_25 h20_ h90_), ?_⟩
          refine ⟨(la_assigned_28 h90_ h119_ h120_), ?_⟩
          refine ⟨(la_assigned_25 h22_ h92_), ?_⟩
          refine ⟨(la_assigned_29 h92_ h119_ h122_), ?_⟩
          refine ⟨(la_assigned_25 h24_ h93_), ?_⟩
          refine ⟨(la_assigned_29 h93_ h119_ h123_), ?_⟩
          refine ⟨(la_assigned_21 (sm_ex_e h114_).1 (sm_ex_e h114_).2.1), ?_⟩
          refine ⟨(la_assigned_30 h90_ h92_ h93_ h107_ h108_ h118_ h119_ h120_ h121_ h122_ h123_), ?_⟩
          exact (la_assigned_10 h80_ h105_)
        refine ⟨(la_assigned_31 h28_ h107_ e116_ h119_), ?_⟩
        refine ⟨(la_assigned_32 h107_ e116_ h119_), ?_⟩
        intro r65
        intro h337_
        intro g61
        rintro ⟨h338_, ⟨h339_, ⟨h340_, ⟨h341_, ⟨h342_, ⟨h343_, ⟨h344_, ⟨h345_, ⟨h346_, ⟨h347_, ⟨h348_, ⟨h349_, ⟨h350_, ⟨h351_, ⟨h352_, ⟨h353_, ⟨h354_, ⟨h355_, ⟨h356_, ⟨h357_, ⟨h358_, ⟨h359_, ⟨h360_, ⟨h361_, h362_⟩⟩⟩⟩⟩⟩⟩⟩⟩⟩⟩⟩⟩⟩⟩⟩⟩⟩⟩⟩⟩⟩⟩⟩
        refine ⟨?_, ?_⟩
        · skip
          refine ⟨(la_assigned_33 (sm_ex_e h114_).1 (sm_ex_e h114_).2.1 h357_), ?_⟩
          have h363_ := ((sm_TK_go h6_ (S 1020 0) h4_ h5_) h113_)
          have h364_ := ((sm_TK_go h6_ (g5 1020 0) (la_assigned_21 h4_ h112_) h79_) (la_assigned_22 h129_))
          have h365_ := (h364_ (la_assigned_23 h129_))
          exact (la_assigned_34 (sm_TK_t h6_).2 h107_ h108_ h118_ h121_ h339_ h340_ h358_ h359_)
        intro r72
        intro h366_
        intro g68
        rintro ⟨h367_, ⟨h368_, ⟨h369_, ⟨h370_, ⟨h371_, ⟨h372_, ⟨h373_, ⟨h374_, ⟨h375_, ⟨h376_, ⟨h377_, ⟨h378_, h379_⟩⟩⟩⟩⟩⟩⟩⟩⟩⟩⟩⟩
        refine ⟨(la_assigned_35 h118_ h119_), ?_⟩
        refine ⟨(la_assigned_36 h118_ h119_), ?_⟩
        intro h380_
        refine ⟨(la_assigned_37 h112_ h338_), ?_⟩
        refine ⟨h339_, ?_⟩
        refine ⟨h340_, ?_⟩
        refine ⟨(la_assigned_38 h106_), ?_⟩
        refine ⟨(la_assigned_39 h82_ h342_), ?_⟩
        refine ⟨h343_, ?_⟩
        refine ⟨h344_, ?_⟩
        refine ⟨(la_assigned_40 h85_ h345_), ?_⟩
        refine ⟨?_, ?_⟩
        · skip
          intro h381_
          obtain ⟨h382_, h383_⟩ := (h358_ h381_)
          obtain ⟨h384_, h385_⟩ := (h346_ h381_)
          obtain ⟨h386_, h387_⟩ := (h362_ h381_)
          obtain ⟨h388_, h389_⟩ := (h378_ h384_)
          have h390_ := (h380_ h381_)
          have h391_ := (h390_ h388_)
          have h392_ := (h391_ h389_)
          have h393_ := (h392_ (la_assigned_42 h367_ (sm_ex_e h386_).1 (sm_ex_e h386_).2.1))
          have h394_ := (h393_ (la_assigned_43 h367_ h368_))
          have h395_ := (h394_ h375_)
          have h396_ := (h395_ h369_)
          have h397_ := (h396_ (la_assigned_87 h370_))
          refine ⟨?_, ?_⟩
          · skip
            have h398_ := (h377_ r72)
            have h399_ := ((sm_TK_go h6_ (S 1020 0) h4_ h5_) h113_)
            have h400_ := ((sm_TK_go h6_ (g5 1020 0) (la_assigned_21 h4_ h112_) h79_) (la_assigned_22 h129_))
            have h401_ := (h400_ (la_assigned_23 h129_))
            have h402_ : sm_ex (g61 1100001) (g61 1100002) (g61 1100005) (g68 1024 0) 1 (g68 12 (5 * r72 + 1)) (17 * (20 - S 1023 0) + 17 - 3) (20 - S 1023 0) := by
              have e403_ : g5 11 r9 = g5 11 (g68 12 (5 * r72 + 1)) := congrArg ((g5 11)) (la_assigned_53 h371_)
              have e404_ : g5 1100001 r9 = g5 1100001 (g68 12 (5 * r72 + 1)) := congrArg ((g5 1100001)) (la_assigned_53 h371_)
              have e405_ : g5 1100002 r9 = g5 1100002 (g68 12 (5 * r72 + 1)) := congrArg ((g5 1100002)) (la_assigned_53 h371_)
              have e406_ : g5 1100003 r9 = g5 1100003 (g68 12 (5 * r72 + 1)) := congrArg ((g5 1100003)) (la_assigned_53 h371_)
              have e407_ : g5 1100004 r9 = g5 1100004 (g68 12 (5 * r72 + 1)) := congrArg ((g5 1100004)) (la_assigned_53 h371_)
              have e408_ : g5 1100005 r9 = g5 1100005 (g68 12 (5 * r72 + 1)) := congrArg ((g5 1100005)) (la_assigned_53 h371_)
              have e409_ : g5 12 (5 * r9) = g5 12 (5 * g68 12 (5 * r72 + 1)) := congrArg ((g5 12)) (la_assigned_54 h371_)
              have e410_ : g5 12 (5 * r9 + 1) = g5 12 (5 * g68 12 (5 * r72 + 1) + 1) := congrArg ((g5 12)) (la_assigned_55 h371_)
              have e411_ : g5 12 (5 * r9 + 2) = g5 12 (5 * g68 12 (5 * r72 + 1) + 2) := congrArg ((g5 12)) (la_assigned_56 h371_)
              have e412_ : g5 12 (5 * r9 + 3) = g5 12 (5 * g68 12 (5 * r72 + 1) + 3) := congrArg ((g5 12)) (la_assigned_57 h371_)
              have e413_ : g5 12 (5 * r9 + 4) = g5 12 (5 * g68 12 (5 * r72 + 1) + 4) := congrArg ((g5 12)) (la_assigned_58 h371_)
              have e414_ : g5 13 r9 = g5 13 (g68 12 (5 * r72 + 1)) := congrArg ((g5 13)) (la_assigned_53 h371_)
              have e415_ : g61 11 r9 = g61 11 (g68 12 (5 * r72 + 1)) := congrArg ((g61 11)) (la_assigned_53 h371_)
              have e416_ : g61 1100001 r9 = g61 1100001 (g68 12 (5 * r72 + 1)) := congrArg ((g61 1100001)) (la_assigned_53 h371_)
              have e417_ : g61 1100002 r9 = g61 1100002 (g68 12 (5 * r72 + 1)) := congrArg ((g61 1100002)) (la_assigned_53 h371_)
              have e418_ : g61 1100003 r9 = g61 1100003 (g68 12 (5 * r72 + 1)) := congrArg ((g61 1100003)) (la_assigned_53 h371_)
              have e419_ : g61 1100004 r9 = g61 1100004 (g68 12 (5 * r72 + 1)) := congrArg ((g61 1100004)) (la_assigned_53 h371_)
              have e420_ : g61 1100005 r9 = g61 1100005 (g68 12 (5 * r72 + 1)) := congrArg ((g61 1100005)) (la_assigned_53 h371_)
              have e421_ : g61 12 (5 * r9) = g61 12 (5 * g68 12 (5 * r72 + 1)) := congrArg ((g61 12)) (la_assigned_54 h371_)
              have e422_ : g61 12 (5 * r9 + 1) = g61 12 (5 * g68 12 (5 * r72 + 1) + 1) := congrArg ((g61 12)) (la_assigned_55 h371_)
              have e423_ : g61 12 (5 * r9 + 2) = g61 12 (5 * g68 12 (5 * r72 + 1) + 2) := congrArg ((g61 12)) (la_assigned_56 h371_)
              have e424_ : g61 12 (5 * r9 + 3) = g61 12 (5 * g68 12 (5 * r72 + 1) + 3) := congrArg ((g61 12)) (la_assigned_57 h371_)
              have e425_ : g61 12 (5 * r9 + 4) = g61 12 (5 * g68 12 (5 * r72 + 1) + 4) := congrArg ((g61 12)) (la_assigned_58 h371_)
              have e426_ : g61 13 r9 = g61 13 (g68 12 (5 * r72 + 1)) := congrArg ((g61 13)) (la_assigned_53 h371_)
              have e427_ : g68 11 r9 = g68 11 (g68 12 (5 * r72 + 1)) := congrArg ((g68 11)) (la_assigned_53 h371_)
              have e428_ : g68 13 r9 = g68 13 (g68 12 (5 * r72 + 1)) := congrArg ((g68 13)) (la_assigned_53 h371_)
              exact (sm_ex_i (la_assigned_25 (sm_ex_e h114_).1 h371_) (la_assigned_46 (sm_ex_e h114_).2.1 h357_ h368_ h371_) (la_assigned_88 (sm_ex_e h114_).2.2.1 (sm_PX_at h385_ r9 (sm_ex_e h114_).1 (sm_ex_e h114_).2.1).2.2.2.2.2.2.2.1 (sm_PX_at h385_ (g68 12 (5 * r72 + 1)) (la_assigned_25 (sm_ex_e h114_).1 h371_) (la_assigned_52 (sm_ex_e h114_).2.1 h371_)).2.2.2.2.2.2.2.1 e404_ e416_) (la_assigned_60 h138_ (sm_PX_at h385_ r9 (sm_ex_e h114_).1 (sm_ex_e h114_).2.1).2.2.2.2.2.2.2.2.1 e417_) (la_assigned_61 (sm_ex_e h114_).2.2.2.2 (sm_PX_at h385_ r9 (sm_ex_e h114_).1 (sm_ex_e h114_).2.1).2.2.2.2.2.2.2.2.2.1 e420_))
            have h429_ : g68 11 (g68 12 (5 * r72 + 1)) = 2 ∨ g68 11 (g68 12 (5 * r72 + 1)) = 7 := by
              have e430_ : g5 11 r9 = g5 11 (g68 12 (5 * r72 + 1)) := congrArg ((g5 11)) (la_assigned_53 h371_)
              have e431_ : g5 1100001 r9 = g5 1100001 (g68 12 (5 * r72 + 1)) := congrArg ((g5 1100001)) (la_assigned_53 h371_)
              have e432_ : g5 1100002 r9 = g5 1100002 (g68 12 (5 * r72 + 1)) := congrArg ((g5 1100002)) (la_assigned_53 h371_)
              have e433_ : g5 1100003 r9 = g5 1100003 (g68 12 (5 * r72 + 1)) := congrArg ((g5 1100003)) (la_assigned_53 h371_)
              have e434_ : g5 1100004 r9 = g5 1100004 (g68 12 (5 * r72 + 1)) := congrArg ((g5 1100004)) (la_assigned_53 h371_)
              have e435_ : g5 1100005 r9 = g5 1100005 (g68 12 (5 * r72 + 1)) := congrArg ((g5 1100005)) (la_assigned_53 h371_)
              have e436_ : g5 12 (5 * r9) = g5 12 (5 * g68 12 (5 * r72 + 1)) := congrArg ((g5 12)) (la_assigned_54 h371_)
              have e437_ : g5 12 (5 * r9 + 1) = g5 12 (5 * g68 12 (5 * r72 + 1) + 1) := congrArg ((g5 12)) (la_assigned_55 h371_)
              have e438_ : g5 12 (5 * r9 + 2) = g5 12 (5 * g68 12 (5 * r72 + 1) + 2) := congrArg ((g5 12)) (la_assigned_56 h371_)
              have e439_ : g5 12 (5 * r9 + 3) = g5 12 (5 * g68 12 (5 * r72 + 1) + 3) := congrArg ((g5 12)) (la_assigned_57 h371_)
              have e440_ : g5 12 (5 * r9 + 4) = g5 12 (5 * g68 12 (5 * r72 + 1) + 4) := congrArg ((g5 12)) (la_assigned_58 h371_)
              have e441_ : g5 13 r9 = g5 13 (g68 12 (5 * r72 + 1)) := congrArg ((g5 13)) (la_assigned_53 h371_)
              have e442_ : g61 11 r9 = g61 11 (g68 12 (5 * r72 + 1)) := congrArg ((g61 11)) (la_assigned_53 h371_)
              have e443_ : g61 1100001 r9 = g61 1100001 (g68 12 (5 * r72 + 1)) := congrArg ((g61 1100001)) (la_assigned_53 h371_)
              have e444_ : g61 1100002 r9 = g61 1100002 (g68 12 (5 * r72 + 1)) := congrArg ((g61 1100002)) (la_assigned_53 h371_)
              have e445_ : g61 1100003 r9 = g61 1100003 (g68 12 (5 * r72 + 1)) := congrArg ((g61 1100003)) (la_assigned_53 h371_)
              have e446_ : g61 1100004 r9 = g61 1100004 (g68 12 (5 * r72 + 1)) := congrArg ((g61 1100004)) (la_assigned_53 h371_)
              have e447_ : g61 1100005 r9 = g61 1100005 (g68 12 (5 * r72 + 1)) := congrArg ((g61 1100005)) (la_assigned_53 h371_)
              have e448_ : g61 12 (5 * r9) = g61 12 (5 * g68 12 (5 * r72 + 1)) := congrArg ((g61 12)) (la_assigned_54 h371_)
              have e449_ : g61 12 (5 * r9 + 1) = g61 12 (5 * g68 12 (5 * r72 + 1) + 1) := congrArg ((g61 12)) (la_assigned_55 h371_)
              have e450_ : g61 12 (5 * r9 + 2) = g61 12 (5 * g68 12 (5 * r72 + 1) + 2) := congrArg ((g61 12)) (la_assigned_56 h371_)
              have e451_ : g61 12 (5 * r9 + 3) = g61 12 (5 * g68 12 (5 * r72 + 1) + 3) := congrArg ((g61 12)) (la_assigned_57 h371_)
              have e452_ : g61 12 (5 * r9 + 4) = g61 12 (5 * g68 12 (5 * r72 + 1) + 4) := congrArg ((g61 12)) (la_assigned_58 h371_)
              have e453_ : g61 13 r9 = g61 13 (g68 12 (5 * r72 + 1)) := congrArg ((g61 13)) (la_assigned_53 h371_)
              have e454_ : g68 11 r9 = g68 11 (g68 12 (5 * r72 + 1)) := congrArg ((g68 11)) (la_assigned_53 h371_)
              have e455_ : g68 13 r9 = g68 13 (g68 12 (5 * r72 + 1)) := congrArg ((g68 13)) (la_assigned_53 h371_)
              exact (la_assigned_89 h137_ (sm_PX_at h379_ r9 (sm_ex_e h114_).1 (la_assigned_51 (sm_ex_e h114_).2.1 h357_)).1 (sm_PX_at h379_ (g68 12 (5 * r72 + 1)) (la_assigned_25 (sm_ex_e h114_).1 h371_) (la_assigned_50 (sm_ex_e h114_).2.1 h357_ h371_)).1 (sm_PX_at h385_ r9 (sm_ex_e h114_).1 (sm_ex_e h114_).2.1).1 (sm_PX_at h385_ (g68 12 (5 * r72 + 1)) (la_assigned_25 (sm_ex_e h114_).1 h371_) (la_assigned_52 (sm_ex_e h114_).2.1 h371_)).1 e430_ e454_)
            have h456_ := (h397_ h402_ (la_assigned_62 (sm_ex_e h114_).2.1 h357_ h367_ h371_) h429_ (sm_ex_eq h372_ (sm_ex_N (sm_ex_w h386_ (la_assigned_64 h107_) (la_assigned_65 h107_)) (la_assigned_66 h368_))))
            exact h456_
          exact (sm_PX_up_Ws (sm_PX_up_Lp (sm_PX_up_V (sm_PX_up_M (sm_PX_up_C (sm_PX_tr (sm_PX_tr (sm_PX_le h111_ (Int.le_refl _)) h385_ h97_) h379_ (la_assigned_39 h97_ h357_)) (la_assigned_67 h97_ h357_ h367_)) (la_assigned_67 h97_ h357_ h367_)) (la_assigned_67 h97_ h357_ h367_)) (la_assigned_67 h97_ h357_ h367_)) (la_assigned_67 h97_ h357_ h367_))
        refine ⟨(sm_KL_tr (sm_KL_le h87_ (Int.le_refl _)) (sm_KL_le h347_ (la_assigned_68 h90_)) (Int.le_refl _)), ?_⟩
        refine ⟨h348_, ?_⟩
        refine ⟨h349_, ?_⟩
        refine ⟨(la_assigned_69 h90_ h350_), ?_⟩
        refine ⟨(la_assigned_69 h91_ h351_), ?_⟩
        refine ⟨(la_assigned_69 h92_ h352_), ?_⟩
        refine ⟨(la_assigned_69 h93_ h353_), ?_⟩
        refine ⟨(la_assigned_39 h94_ h354_), ?_⟩
        refine ⟨h355_, ?_⟩
        refine ⟨h356_, ?_⟩
        refine ⟨(la_assigned_70 h97_ h357_ h368_), ?_⟩
        refine ⟨(la_assigned_71 h107_ h108_ h340_ h358_ h368_), ?_⟩
        refine ⟨(la_assigned_72 h107_ h108_ e116_ h119_ h358_ h359_ h368_), ?_⟩
        refine ⟨(la_assigned_73 (sm_ex_e h114_).1 (sm_ex_e h114_).2.1 h357_ h367_), ?_⟩
        refine ⟨?_, ?_⟩
        · skip
          have h457_ := (h377_ r72)
          have h458_ := ((sm_TK_go h6_ (S 1020 0) h4_ h5_) h113_)
          have h459_ := ((sm_TK_go h6_ (g5 1020 0) (la_assigned_21 h4_ h112_) h79_) (la_assigned_22 h129_))
          have h460_ := (h459_ (la_assigned_23 h129_))
          exact (la_assigned_74 (sm_TK_t h6_).2 h107_ h108_ h118_ h121_ h339_ h340_ h358_ h359_ h367_)
        refine ⟨?_, ?_⟩
        · skip
          intro h461_
          obtain ⟨h462_, h463_⟩ := (h358_ h461_)
          obtain ⟨h464_, h465_⟩ := (h346_ h461_)
          obtain ⟨h466_, h467_⟩ := (h362_ h461_)
          obtain ⟨h468_, h469_⟩ := (h378_ h464_)
          have h470_ := (h380_ h461_)
          have h471_ := (h470_ h468_)
          have h472_ := (h471_ h469_)
          have h473_ := (h472_ (la_assigned_42 h367_ (sm_ex_e h466_).1 (sm_ex_e h466_).2.1))
          have h474_ := (h473_ (la_assigned_43 h367_ h368_))
          have h475_ := (h474_ h375_)
          have h476_ := (h475_ h369_)
          have h477_ := (h476_ (la_assigned_87 h370_))
          refine ⟨(la_assigned_75 h112_ h467_), ?_⟩
          refine ⟨h113_, ?_⟩
          refine ⟨(sm_ex_if (la_assigned_42 h367_ (sm_ex_e h466_).1 (sm_ex_e h466_).2.1) (la_assigned_43 h367_ h368_) la_assigned_76 la_assigned_77 la_assigned_78), ?_⟩
          intro h478_
          have h479_ := (h478_.resolve_left (la_assigned_79 h369_))
          have h480_ := (h377_ r72)
          have e481_ : (if r72 = r72 then 17 * (20 - S 1023 0) + 17 else g61 1100002 r72 : Int) = 17 * (20 - S 1023 0) + 17 := if_pos la_assigned_80
          have h482_ := ((sm_TK_go h6_ (S 1020 0) h4_ h5_) h113_)
          have h483_ := ((sm_TK_go h6_ (g5 1020 0) (la_assigned_21 h4_ h112_) h79_) (la_assigned_22 h129_))
          have h484_ := (h477_ (sm_ex_eq h371_ (sm_ex_i (sm_ex_e h114_).1 (la_assigned_47 (sm_ex_e h114_).2.1 h357_ h368_) (la_assigned_81 (sm_ex_e h114_).2.2.1 (sm_PX_at h465_ r9 (sm_ex_e h114_).1 (sm_ex_e h114_).2.1).2.2.2.2.2.2.2.1) (la_assigned_82 h138_ (sm_PX_at h465_ r9 (sm_ex_e h114_).1 (sm_ex_e h114_).2.1).2.2.2.2.2.2.2.2.1) (la_assigned_83 (sm_ex_e h114_).2.2.2.2 (sm_PX_at h465_ r9 (sm_ex_e h114_).1 (sm_ex_e h114_).2.1).2.2.2.2.2.2.2.2.2.1))))
          have h485_ := (h483_ (la_assigned_23 h129_))
          have h486_ := (h484_ (la_assigned_62 (sm_ex_e h114_).2.1 h357_ h367_ h371_))
          have e487_ : g5 11 r9 = g5 11 (g68 12 (5 * r72 + 1)) := congrArg ((g5 11)) (la_assigned_53 h371_)
          have e488_ : g5 1100001 r9 = g5 1100001 (g68 12 (5 * r72 + 1)) := congrArg ((g5 1100001)) (la_assigned_53 h371_)
          have e489_ : g5 1100002 r9 = g5 1100002 (g68 12 (5 * r72 + 1)) := congrArg ((g5 1100002)) (la_assigned_53 h371_)
          have e490_ : g5 1100003 r9 = g5 1100003 (g68 12 (5 * r72 + 1)) := congrArg ((g5 1100003)) (la_assigned_53 h371_)
          have e491_ : g5 1100004 r9 = g5 1100004 (g68 12 (5 * r72 + 1)) := congrArg ((g5 1100004)) (la_assigned_53 h371_)
          have e492_ : g5 1100005 r9 = g5 1100005 (g68 12 (5 * r72 + 1)) := congrArg ((g5 1100005)) (la_assigned_53 h371_)
          have e493_ : g5 12 (5 * r9) = g5 12 (5 * g68 12 (5 * r72 + 1)) := congrArg ((g5 12)) (la_assigned_54 h371_)
          have e494_ : g5 12 (5 * r9 + 1) = g5 12 (5 * g68 12 (5 * r72 + 1) + 1) := congrArg ((g5 12)) (la_assigned_55 h371_)
          have e495_ : g5 12 (5 * r9 + 2) = g5 12 (5 * g68 12 (5 * r72 + 1) + 2) := congrArg ((g5 12)) (la_assigned_56 h371_)
          have e496_ : g5 12 (5 * r9 + 3) = g5 12 (5 * g68 12 (5 * r72 + 1) + 3) := congrArg ((g5 12)) (la_assigned_57 h371_)
          have e497_ : g5 12 (5 * r9 + 4) = g5 12 (5 * g68 12 (5 * r72 + 1) + 4) := congrArg ((g5 12)) (la_assigned_58 h371_)
          have e498_ : g5 13 r9 = g5 13 (g68 12 (5 * r72 + 1)) := congrArg ((g5 13)) (la_assigned_53 h371_)
          have e499_ : g61 11 r9 = g61 11 (g68 12 (5 * r72 + 1)) := congrArg ((g61 11)) (la_assigned_53 h371_)
          have e500_ : g61 1100001 r9 = g61 1100001 (g68 12 (5 * r72 + 1)) := congrArg ((g61 1100001)) (la_assigned_53 h371_)
          have e501_ : g61 1100002 r9 = g61 1100002 (g68 12 (5 * r72 + 1)) := congrArg ((g61 1100002)) (la_assigned_53 h371_)
          have e502_ : g61 1100003 r9 = g61 1100003 (g68 12 (5 * r72 + 1)) := congrArg ((g61 1100003)) (la_assigned_53 h371_)
          have e503_ : g61 1100004 r9 = g61 1100004 (g68 12 (5 * r72 + 1)) := congrArg ((g61 1100004)) (la_assigned_53 h371_)
          have e504_ : g61 1100005 r9 = g61 1100005 (g68 12 (5 * r72 + 1)) := congrArg ((g61 1100005)) (la_assigned_53 h371_)
          have e505_ : g61 12 (5 * r9) = g61 12 (5 * g68 12 (5 * r72 + 1)) := congrArg ((g61 12)) (la_assigned_54 h371_)
          have e506_ : g61 12 (5 * r9 + 1) = g61 12 (5 * g68 12 (5 * r72 + 1) + 1) := congrArg ((g61 12)) (la_assigned_55 h371_)
          have e507_ : g61 12 (5 * r9 + 2) = g61 12 (5 * g68 12 (5 * r72 + 1) + 2) := congrArg ((g61 12)) (la_assigned_56 h371_)
          have e508_ : g61 12 (5 * r9 + 3) = g61 12 (5 * g68 12 (5 * r72 + 1) + 3) := congrArg ((g61 12)) (la_assigned_57 h371_)
          have e509_ : g61 12 (5 * r9 + 4) = g61 12 (5 * g68 12 (5 * r72 + 1) + 4) := congrArg ((g61 12)) (la_assigned_58 h371_)
          have e510_ : g61 13 r9 = g61 13 (g68 12 (5 * r72 + 1)) := congrArg ((g61 13)) (la_assigned_53 h371_)
          have e511_ : g68 11 r9 = g68 11 (g68 12 (5 * r72 + 1)) := congrArg ((g68 11)) (la_assigned_53 h371_)
          have e512_ : g68 13 r9 = g68 13 (g68 12 (5 * r72 + 1)) := congrArg ((g68 13)) (la_assigned_53 h371_)
          exact ((la_assigned_84 h369_ h479_)).elim
        intro h513_
        refine ⟨?_, ?_⟩
        · skip
          have h514_ := (h377_ r72)
          have h515_ := ((sm_TK_go h6_ (S 1020 0) h4_ h5_) h113_)
          have h516_ := ((sm_TK_go h6_ (g5 1020 0) (la_assigned_21 h4_ h112_) h79_) (la_assigned_22 h129_))
          have h517_ := (h516_ (la_assigned_23 h129_))
          exact ((la_assigned_85 h106_ h513_)).elim
        have h518_ := (h377_ r72)
        have h519_ := ((sm_TK_go h6_ (S 1020 0) h4_ h5_) h113_)
        have h520_ := ((sm_TK_go h6_ (g5 1020 0) (la_assigned_21 h4_ h112_) h79_) (la_assigned_22 h129_))
        have h521_ := (h520_ (la_assigned_23 h129_))
        exact ((la_assigned_85 h106_ h513_)).elim
      intro h522_
      have h523_ := (h131_.resolve_right (la_assigned_90 h522_))
      refine ⟨(la_assigned_91 h4_ (sm_TK_t h6_).2 h79_ h80_ h112_), ?_⟩
      intro r92
      intro h524_
      intro g88
      rintro ⟨h525_, ⟨h526_, h527_⟩⟩
      refine ⟨h78_, ?_⟩
      refine ⟨h79_, ?_⟩
      refine ⟨(la_assigned_92 h526_), ?_⟩
      refine ⟨(la_assigned_38 h106_), ?_⟩
      refine ⟨h82_, ?_⟩
      refine ⟨h83_, ?_⟩
      refine ⟨h84_, ?_⟩
      refine ⟨h85_, ?_⟩
      refine ⟨?_, ?_⟩
      · skip
        intro h528_
        refine ⟨h110_, ?_⟩
        exact h111_
      refine ⟨h87_, ?_⟩
      refine ⟨h88_, ?_⟩
      refine ⟨h89_, ?_⟩
      refine ⟨h90_, ?_⟩
      refine ⟨h91_, ?_⟩
      refine ⟨h92_, ?_⟩
      refine ⟨h93_, ?_⟩
      refine ⟨h94_, ?_⟩
      refine ⟨h95_, ?_⟩
      refine ⟨h96_, ?_⟩
      refine ⟨h97_, ?_⟩
      refine ⟨(la_assigned_93 h107_ h526_), ?_⟩
      refine ⟨(la_assigned_94 h108_ e116_ h119_), ?_⟩
      refine ⟨la_assigned_95, ?_⟩
      refine ⟨la_assigned_96, ?_⟩
      refine ⟨?_, ?_⟩
      · skip
        intro h529_
        refine ⟨h112_, ?_⟩
        refine ⟨h113_, ?_⟩
        refine ⟨?_, ?_⟩
        · skip
          have h530_ := ((sm_TK_go h6_ (S 1020 0) h4_ h5_) h113_)
          have h531_ := ((sm_TK_go h6_ (g5 1020 0) (la_assigned_21 h4_ h112_) h79_) (la_assigned_22 h129_))
          have h532_ := (h531_ (la_assigned_23 h129_))
          exact ((la_assigned_97 h526_ h529_)).elim
        intro h533_
        have h534_ := ((sm_TK_go h6_ (S 1020 0) h4_ h5_) h113_)
        have h535_ := ((sm_TK_go h6_ (g5 1020 0) (la_assigned_21 h4_ h112_) h79_) (la_assigned_22 h129_))
        have h536_ := (h535_ (la_assigned_23 h129_))
        exact ((la_assigned_97 h526_ h529_)).elim
      intro h537_
      refine ⟨?_, ?_⟩
      · skip
        have h538_ := ((sm_TK_go h6_ (S 1020 0) h4_ h5_) h113_)
        have h539_ := ((sm_TK_go h6_ (g5 1020 0) (la_assigned_21 h4_ h112_) h79_) (la_assigned_22 h129_))
        have h540_ := (h539_ (la_assigned_23 h129_))
        exact ((la_assigned_85 h106_ h537_)).elim
      have h541_ := ((sm_TK_go h6_ (S 1020 0) h4_ h5_) h113_)
      have h542_ := ((sm_TK_go h6_ (g5 1020 0) (la_assigned_21 h4_ h112_) h79_) (la_assigned_22 h129_))
      have h543_ := (h542_ (la_assigned_23 h129_))
      exact ((la_assigned_85 h106_ h537_)).elim
    intro h544_
    have h545_ := (h126_.resolve_right (la_assigned_98 h544_))
    refine ⟨h78_, ?_⟩
    refine ⟨h79_, ?_⟩
    refine ⟨h80_, ?_⟩
    refine ⟨h81_, ?_⟩
    refine ⟨h82_, ?_⟩
    refine ⟨h83_, ?_⟩
    refine ⟨h84_, ?_⟩
    refine ⟨h85_, ?_⟩
    refine ⟨h86_, ?_⟩
    refine ⟨h87_, ?_⟩
    refine ⟨h88_, ?_⟩
    refine ⟨h89_, ?_⟩
    refine ⟨h90_, ?_⟩
    refine ⟨h91_, ?_⟩
    refine ⟨h92_, ?_⟩
    refine ⟨h93_, ?_⟩
    refine ⟨h94_, ?_⟩
    refine ⟨h95_, ?_⟩
    refine ⟨h96_, ?_⟩
    refine ⟨h97_, ?_⟩
    refine ⟨h98_, ?_⟩
    refine ⟨(la_assigned_99 h105_), ?_⟩
    refine ⟨h100_, ?_⟩
    refine ⟨h101_, ?_⟩
    refine ⟨h102_, ?_⟩
    intro h546_
    refine ⟨?_, ?_⟩
    · skip
      have h547_ := ((sm_TK_go h6_ (S 1020 0) h4_ h5_) h113_)
      exact ((la_assigned_85 h106_ h546_)).elim
    have h548_ := ((sm_TK_go h6_ (S 1020 0) h4_ h5_) h113_)
    exact ((la_assigned_85 h106_ h546_)).elim
  intro h549_
  have h550_ := (h99_ (la_assigned_101 h549_))
  refine ⟨h78_, ?_⟩
  refine ⟨h79_, ?_⟩
  refine ⟨h80_, ?_⟩
  refine ⟨h81_, ?_⟩
  refine ⟨h82_, ?_⟩
  refine ⟨h83_, ?_⟩
  refine ⟨h84_, ?_⟩
  refine ⟨h85_, ?_⟩
  refine ⟨h86_, ?_⟩
  refine ⟨h87_, ?_⟩
  refine ⟨h88_, ?_⟩
  refine ⟨h89_, ?_⟩
  refine ⟨h90_, ?_⟩
  refine ⟨h91_, ?_⟩
  refine ⟨h92_, ?_⟩
  refine ⟨h93_, ?_⟩
  refine ⟨h94_, ?_⟩
  refine ⟨h95_, ?_⟩
  refine ⟨h96_, ?_⟩
  refine ⟨h97_, ?_⟩
  refine ⟨h98_, ?_⟩
  refine ⟨?_, ?_⟩
  · skip
    intro h551_
    by_cases c552_ : 0 < S 1021 0
    · skip
      have e553_ : (if 0 < S 1021 0 then 12 else 30 * (20 - S 1023 0) + 25 : Int) = 12 := if_pos c552_
      have e554_ : (if 0 < S 1021 0 then 11 else 30 * (20 - S 1023 0) + 24 : Int) = 11 := if_pos c552_
      have h555_ := (h81_ c552_)
      obtain ⟨h556_, h557_⟩ := (h103_ c552_)
      exact (la_assigned_102 e553_ h556_ h557_)
    · skip
      have e558_ : (if 0 < S 1021 0 then 12 else 30 * (20 - S 1023 0) + 25 : Int) = 30 * (20 - S 1023 0) + 25 := if_neg c552_
      have e559_ : (if 0 < S 1021 0 then 11 else 30 * (20 - S 1023 0) + 24 : Int) = 30 * (20 - S 1023 0) + 24 := if_neg c552_
      obtain ⟨h560_, ⟨h561_, ⟨h562_, ⟨h563_, ⟨h564_, h565_⟩⟩⟩⟩⟩ := (h27_ (la_assigned_3 h7_ c552_))
      have h566_ := (h13_ (la_assigned_3 h7_ c552_))
      exact (la_assigned_103 h550_ e558_ e559_)
  refine ⟨la_assigned_95, ?_⟩
  refine ⟨la_assigned_96, ?_⟩
  refine ⟨?_, ?_⟩
  · skip
    intro h567_
    have e568_ : (if 0 < S 1021 0 then 12 else 30 * (20 - S 1023 0) + 25 : Int) = 12 := if_pos (la_assigned_104 h549_ h567_)
    have e569_ : (if 0 < S 1021 0 then 11 else 30 * (20 - S 1023 0) + 24 : Int) = 11 := if_pos (la_assigned_104 h549_ h567_)
    obtain ⟨h570_, ⟨h571_, ⟨h572_, ⟨h573_, ⟨h574_, h575_⟩⟩⟩⟩⟩ := (h27_ (la_assigned_105 h549_ h567_))
    have h576_ := (h81_ (la_assigned_104 h549_ h567_))
    refine ⟨?_, ?_⟩
    · skip
      exact ((la_assigned_106 h567_ h576_)).elim
    refine ⟨?_, ?_⟩
    · skip
      exact ((la_assigned_107 h549_ h567_)).elim
    refine ⟨?_, ?_⟩
    · skip
      exact ((la_assigned_106 h567_ h576_)).elim
    intro h577_
    exact ((la_assigned_106 h567_ h576_)).elim
  intro h578_
  have e579_ : (if 0 < S 1021 0 then 12 else 30 * (20 - S 1023 0) + 25 : Int) = 12 := if_pos h578_
  have e580_ : (if 0 < S 1021 0 then 11 else 30 * (20 - S 1023 0) + 24 : Int) = 11 := if_pos h578_
  have h581_ := (h81_ h578_)
  obtain ⟨h582_, h583_⟩ := (h103_ h578_)
  refine ⟨h582_, ?_⟩
  exact h583_
set_option maxRecDepth 8000 in
set_option maxHeartbeats 2000000 in
theorem s_assigned (d : Int) (h0 : 0 ≤ d) (IH : ∀ d' : Int, 0 ≤ d' → d' < d → P_P d') : T_assigned d := by
  intro p1 S hok hp1 hpre hd
  have h := f_assigned d p1 S hok hp1 hpre hd
  have hM := sm_h47
  show sv_T sm_XS sm_cs sm_L sm_sh ((if 0 < (S 1021 0) then 12 else 30 * (20 - (S 1023 0)) + 25)).toNat (q_assigned p1 S) 47 0 [(0, .ref 0), (1, sv_I p1)] [] S
  refine sv_aload_n hM dX12_assigned_0 rfl rfl ?_
  refine sv_iload_n hM dX12_assigned_1 rfl rfl ?_
  obtain ⟨o1, h⟩ := h
  obtain ⟨o2, h⟩ := h
  obtain ⟨o3, h⟩ := h
  obtain ⟨o4, h⟩ := h
  refine sv_callV hM dX12_assigned_2 sm_iv_457 (by decide) (sm_a0 _) rfl rfl (Nat.le_of_ble_eq_true rfl) sm_h48 (Nat.le_of_ble_eq_true rfl) (Nat.le_of_ble_eq_true rfl) (F' := (((if 0 < (S 1021 0) then 11 else 30 * (20 - (S 1023 0)) + 24))).toNat) (sv_Fe o4) rfl ((IH ((if 0 < (S 1021 0) then 11 else 30 * (20 - (S 1023 0)) + 24)) o3.1 o3.2).2.2.2.1 p1 S hok o1 o2 rfl) (fun v S1 hq => ?_)
  obtain ⟨r9, rfl, hr9, ok6, md7, hp8⟩ := hq
  obtain ⟨g5, rfl⟩ : ∃ g, S1 = sv_sts S [1020, 1021, 1022, 1023, 5, 1011, 3, 4, 1007, 1009, 11, 12, 13, 14, 1024, 15, 16, 1031, 1032, 17, 18, 19, 20, 21, 22, 23, 24, 25, 1042, 1043, 1044, 1045, 1100001, 1100002, 1100005, 1100003, 1100004, 1100018] g := ⟨_, md7.eq⟩
  show sv_T sm_XS sm_cs sm_L sm_sh ((if 0 < (S 1021 0) then 12 else 30 * (20 - (S 1023 0)) + 25)).toNat (q_assigned p1 S) 47 5 [(0, .ref 0), (1, sv_I p1)] [sv_I r9] (sv_sts S [1020, 1021, 1022, 1023, 5, 1011, 3, 4, 1007, 1009, 11, 12, 13, 14, 1024, 15, 16, 1031, 1032, 17, 18, 19, 20, 21, 22, 23, 24, 25, 1042, 1043, 1044, 1045, 1100001, 1100002, 1100005, 1100003, 1100004, 1100018] g5)
  have md10 : sv_mod [1020, 1021, 1022, 1023, 5, 1011, 3, 4, 1007, 1009, 11, 12, 13, 14, 1024, 15, 16, 1031, 1032, 17, 18, 19, 20, 21, 22, 23, 24, 25, 1042, 1043, 1044, 1045, 1100001, 1100002, 1100005, 1100003, 1100004, 1100018] S (sv_sts S [1020, 1021, 1022, 1023, 5, 1011, 3, 4, 1007, 1009, 11, 12, 13, 14, 1024, 15, 16, 1031, 1032, 17, 18, 19, 20, 21, 22, 23, 24, 25, 1042, 1043, 1044, 1045, 1100001, 1100002, 1100005, 1100003, 1100004, 1100018] g5) := sv_mod.sts sv_mod.rf (by decide)
  have h := h r9 hr9 g5 hp8
  refine sv_istore_n hM dX12_assigned_5 (by decide) rfl ?_
  show sv_T sm_XS sm_cs sm_L sm_sh ((if 0 < (S 1021 0) then 12 else 30 * (20 - (S 1023 0)) + 25)).toNat (q_assigned p1 S) 47 6 [(0, .ref 0), (1, sv_I p1), (2, sv_I r9)] [] (sv_sts S [1020, 1021, 1022, 1023, 5, 1011, 3, 4, 1007, 1009, 11, 12, 13, 14, 1024, 15, 16, 1031, 1032, 17, 18, 19, 20, 21, 22, 23, 24, 25, 1042, 1043, 1044, 1045, 1100001, 1100002, 1100005, 1100003, 1100004, 1100018] g5)
  refine sv_aload_n hM dX12_assigned_6 rfl rfl ?_
  have k11 : sv_R (g5 1021 0) := sm_okI ok6 sm_r1021 0
  have h := h k11
  refine sv_getI hM dX12_assigned_7 sm_fl_389 (sm_a0 _) sm_k21 rfl (x := (g5 1021 0)) rfl ?_
  refine sv_cond_le hM dX12_assigned_10 k11 (t := 15) rfl rfl (fun hc => ?_) (fun hc => ?_)
  · have h := h.1 (hc)
    refine sv_aload_n hM dX12_assigned_15 rfl rfl ?_
    obtain ⟨o12, h⟩ := h
    obtain ⟨o13, h⟩ := h
    refine sv_callV hM dX12_assigned_16 sm_iv_460 (by decide) (sm_a0 _) rfl rfl (Nat.le_of_ble_eq_true rfl) sm_h45 (Nat.le_of_ble_eq_true rfl) (Nat.le_of_ble_eq_true rfl) (F' := 0) (sv_Fn (n := 0) o13) rfl (t_settingOf  (sv_sts S [1020, 1021, 1022, 1023, 5, 1011, 3, 4, 1007, 1009, 11, 12, 13, 14, 1024, 15, 16, 1031, 1032, 17, 18, 19, 20, 21, 22, 23, 24, 25, 1042, 1043, 1044, 1045, 1100001, 1100002, 1100005, 1100003, 1100004, 1100018] g5) ok6 o12) (fun v S1 hq => ?_)
    obtain ⟨r18, rfl, hr18, ok15, md16, hp17⟩ := hq
    obtain rfl : (sv_sts S [1020, 1021, 1022, 1023, 5, 1011, 3, 4, 1007, 1009, 11, 12, 13, 14, 1024, 15, 16, 1031, 1032, 17, 18, 19, 20, 21, 22, 23, 24, 25, 1042, 1043, 1044, 1045, 1100001, 1100002, 1100005, 1100003, 1100004, 1100018] g5) = S1 := (funext fun j => md16 j (by intro q; cases q)).symm
    show sv_T sm_XS sm_cs sm_L sm_sh ((if 0 < (S 1021 0) then 12 else 30 * (20 - (S 1023 0)) + 25)).toNat (q_assigned p1 S) 47 19 [(0, .ref 0), (1, sv_I p1), (2, sv_I r9)] [sv_I r18] (sv_sts S [1020, 1021, 1022, 1023, 5, 1011, 3, 4, 1007, 1009, 11, 12, 13, 14, 1024, 15, 16, 1031, 1032, 17, 18, 19, 20, 21, 22, 23, 24, 25, 1042, 1043, 1044, 1045, 1100001, 1100002, 1100005, 1100003, 1100004, 1100018] g5)
    have h := h r18 hr18 hp17
    refine sv_istore_n hM dX12_assigned_19 (by decide) rfl ?_
    show sv_T sm_XS sm_cs sm_L sm_sh ((if 0 < (S 1021 0) then 12 else 30 * (20 - (S 1023 0)) + 25)).toNat (q_assigned p1 S) 47 20 [(0, .ref 0), (1, sv_I p1), (2, sv_I r9), (3, sv_I r18)] [] (sv_sts S [1020, 1021, 1022, 1023, 5, 1011, 3, 4, 1007, 1009, 11, 12, 13, 14, 1024, 15, 16, 1031, 1032, 17, 18, 19, 20, 21, 22, 23, 24, 25, 1042, 1043, 1044, 1045, 1100001, 1100002, 1100005, 1100003, 1100004, 1100018] g5)
    refine sv_iload_n hM dX12_assigned_20 rfl rfl ?_
    refine sv_iconst (d := (-1 : Int)) hM dX12_assigned_21 rfl rfl ?_
    refine sv_icmp_ne hM dX12_assigned_22 hr18 (⟨by decide, by decide⟩ : sv_R (-1 : Int)) (t := 27) rfl rfl (fun hc => ?_) (fun hc => ?_)
    · have h := h.1 (hc)
      refine sv_aload_n hM dX12_assigned_27 rfl rfl ?_
      refine sv_iload_n hM dX12_assigned_28 rfl rfl ?_
      obtain ⟨o19, h⟩ := h
      refine sv_callV hM dX12_assigned_29 sm_iv_463 (by decide) (sm_a0 _) rfl rfl (Nat.le_of_ble_eq_true rfl) sm_h44 (Nat.le_of_ble_eq_true rfl) (Nat.le_of_ble_eq_true rfl) (F' := 0) (sv_Fn (n := 0) o13) rfl (t_isTarget r9 (sv_sts S [1020, 1021, 1022, 1023, 5, 1011, 3, 4, 1007, 1009, 11, 12, 13, 14, 1024, 15, 16, 1031, 1032, 17, 18, 19, 20, 21, 22, 23, 24, 25, 1042, 1043, 1044, 1045, 1100001, 1100002, 1100005, 1100003, 1100004, 1100018] g5) ok15 hr9 o19) (fun v S1 hq => ?_)
      obtain ⟨r24, rfl, hr24, ok21, md22, hp23⟩ := hq
      obtain rfl : (sv_sts S [1020, 1021, 1022, 1023, 5, 1011, 3, 4, 1007, 1009, 11, 12, 13, 14, 1024, 15, 16, 1031, 1032, 17, 18, 19, 20, 21, 22, 23, 24, 25, 1042, 1043, 1044, 1045, 1100001, 1100002, 1100005, 1100003, 1100004, 1100018] g5) = S1 := (funext fun j => md22 j (by intro q; cases q)).symm
      show sv_T sm_XS sm_cs sm_L sm_sh ((if 0 < (S 1021 0) then 12 else 30 * (20 - (S 1023 0)) + 25)).toNat (q_assigned p1 S) 47 32 [(0, .ref 0), (1, sv_I p1), (2, sv_I r9), (3, sv_I r18)] [sv_I r24] (sv_sts S [1020, 1021, 1022, 1023, 5, 1011, 3, 4, 1007, 1009, 11, 12, 13, 14, 1024, 15, 16, 1031, 1032, 17, 18, 19, 20, 21, 22, 23, 24, 25, 1042, 1043, 1044, 1045, 1100001, 1100002, 1100005, 1100003, 1100004, 1100018] g5)
      have h := h r24 hr24 hp23
      refine sv_cond_ne hM dX12_assigned_32 hr24 (t := 43) rfl rfl (fun hc => ?_) (fun hc => ?_)
      · have h := h.1 (hc)
        refine sv_aload_n hM dX12_assigned_43 rfl rfl ?_
        refine sv_dupA hM dX12_assigned_44 rfl ?_
        have k25 : sv_R (g5 1020 0) := sm_okI ok21 sm_r1020 0
        have h := h k25
        refine sv_getI hM dX12_assigned_45 sm_fl_392 (sm_a0 _) sm_k20 rfl (x := (g5 1020 0)) rfl ?_
        refine sv_iconst (d := (1 : Int)) hM dX12_assigned_48 rfl rfl ?_
        refine sv_iadd hM dX12_assigned_49 rfl ?_
        obtain ⟨o26, h⟩ := h
        refine sv_putI sm_X hM dX12_assigned_50 sm_fp_392 (sm_a0 _) sm_q20 (Or.inl rfl) rfl rfl rfl rfl ?_
        have ok27 : sm_ok (sv_up (sv_sts S [1020, 1021, 1022, 1023, 5, 1011, 3, 4, 1007, 1009, 11, 12, 13, 14, 1024, 15, 16, 1031, 1032, 17, 18, 19, 20, 21, 22, 23, 24, 25, 1042, 1043, 1044, 1045, 1100001, 1100002, 1100005, 1100003, 1100004, 1100018] g5) 1020 0 ((g5 1020 0) + (1 : Int))) := sm_upI ok21 sm_r1020 o26
        have md28 : sv_mod [1020, 1021, 1022, 1023, 5, 1011, 3, 4, 1007, 1009, 11, 12, 13, 14, 1024, 15, 16, 1031, 1032, 17, 18, 19, 20, 21, 22, 23, 24, 25, 1042, 1043, 1044, 1045, 1100001, 1100002, 1100005, 1100003, 1100004, 1100018] S (sv_up (sv_sts S [1020, 1021, 1022, 1023, 5, 1011, 3, 4, 1007, 1009, 11, 12, 13, 14, 1024, 15, 16, 1031, 1032, 17, 18, 19, 20, 21, 22, 23, 24, 25, 1042, 1043, 1044, 1045, 1100001, 1100002, 1100005, 1100003, 1100004, 1100018] g5) 1020 0 ((g5 1020 0) + (1 : Int))) := sv_mod.up md10 (by decide)
        refine sv_aload_n hM dX12_assigned_53 rfl rfl ?_
        refine sv_bipush (d := (15 : Int)) hM dX12_assigned_54 rfl rfl ?_
        refine sv_iload_n hM dX12_assigned_56 rfl rfl ?_
        refine sv_bipush (d := (99 : Int)) hM dX12_assigned_57 rfl rfl ?_
        refine sv_icmp_ne hM dX12_assigned_59 hr18 (⟨by decide, by decide⟩ : sv_R (99 : Int)) (t := 66) rfl rfl (fun hc => ?_) (fun hc => ?_)
        · have h := h.1 (hc)
          refine sv_iload_n hM dX12_assigned_66 rfl rfl ?_
          refine sv_iload_n hM dX12_assigned_67 rfl rfl ?_
          refine sv_aload_n hM dX12_assigned_68 rfl rfl ?_
          refine sv_iload_n hM dX12_assigned_69 rfl rfl ?_
          obtain ⟨o29, h⟩ := h
          obtain ⟨o30, h⟩ := h
          obtain ⟨o31, h⟩ := h
          refine sv_callV hM dX12_assigned_70 sm_iv_466 (by decide) (sm_a0 _) rfl rfl (Nat.le_of_ble_eq_true rfl) sm_h46 (Nat.le_of_ble_eq_true rfl) (Nat.le_of_ble_eq_true rfl) (F' := ((30 * (20 - (g5 1023 0)) + 14)).toNat) (sv_Fe o31) rfl ((IH (30 * (20 - (g5 1023 0)) + 14) o30.1 o30.2).2.1 p1 (sv_up (sv_sts S [1020, 1021, 1022, 1023, 5, 1011, 3, 4, 1007, 1009, 11, 12, 13, 14, 1024, 15, 16, 1031, 1032, 17, 18, 19, 20, 21, 22, 23, 24, 25, 1042, 1043, 1044, 1045, 1100001, 1100002, 1100005, 1100003, 1100004, 1100018] g5) 1020 0 ((g5 1020 0) + (1 : Int))) ok27 o1 o29 rfl) (fun v S1 hq => ?_)
          obtain ⟨r36, rfl, hr36, ok33, md34, hp35⟩ := hq
          obtain ⟨g32, rfl⟩ : ∃ g, S1 = sv_sts (sv_up (sv_sts S [1020, 1021, 1022, 1023, 5, 1011, 3, 4, 1007, 1009, 11, 12, 13, 14, 1024, 15, 16, 1031, 1032, 17, 18, 19, 20, 21, 22, 23, 24, 25, 1042, 1043, 1044, 1045, 1100001, 1100002, 1100005, 1100003, 1100004, 1100018] g5) 1020 0 ((g5 1020 0) + (1 : Int))) [1020, 1021, 1022, 1023, 5, 1011, 3, 4, 1007, 1009, 11, 12, 13, 14, 1024, 15, 16, 1031, 1032, 17, 18, 19, 20, 21, 22, 23, 24, 25, 1042, 1043, 1044, 1045, 1100001, 1100002, 1100005, 1100003, 1100004, 1100018] g := ⟨_, md34.eq⟩
          show sv_T sm_XS sm_cs sm_L sm_sh ((if 0 < (S 1021 0) then 12 else 30 * (20 - (S 1023 0)) + 25)).toNat (q_assigned p1 S) 47 73 [(0, .ref 0), (1, sv_I p1), (2, sv_I r9), (3, sv_I r18)] [sv_I r36, sv_I r9, sv_I r18, sv_I (15 : Int), .ref 0] (sv_sts (sv_up (sv_sts S [1020, 1021, 1022, 1023, 5, 1011, 3, 4, 1007, 1009, 11, 12, 13, 14, 1024, 15, 16, 1031, 1032, 17, 18, 19, 20, 21, 22, 23, 24, 25, 1042, 1043, 1044, 1045, 1100001, 1100002, 1100005, 1100003, 1100004, 1100018] g5) 1020 0 ((g5 1020 0) + (1 : Int))) [1020, 1021, 1022, 1023, 5, 1011, 3, 4, 1007, 1009, 11, 12, 13, 14, 1024, 15, 16, 1031, 1032, 17, 18, 19, 20, 21, 22, 23, 24, 25, 1042, 1043, 1044, 1045, 1100001, 1100002, 1100005, 1100003, 1100004, 1100018] g32)
          have md37 : sv_mod [1020, 1021, 1022, 1023, 5, 1011, 3, 4, 1007, 1009, 11, 12, 13, 14, 1024, 15, 16, 1031, 1032, 17, 18, 19, 20, 21, 22, 23, 24, 25, 1042, 1043, 1044, 1045, 1100001, 1100002, 1100005, 1100003, 1100004, 1100018] S (sv_sts (sv_up (sv_sts S [1020, 1021, 1022, 1023, 5, 1011, 3, 4, 1007, 1009, 11, 12, 13, 14, 1024, 15, 16, 1031, 1032, 17, 18, 19, 20, 21, 22, 23, 24, 25, 1042, 1043, 1044, 1045, 1100001, 1100002, 1100005, 1100003, 1100004, 1100018] g5) 1020 0 ((g5 1020 0) + (1 : Int))) [1020, 1021, 1022, 1023, 5, 1011, 3, 4, 1007, 1009, 11, 12, 13, 14, 1024, 15, 16, 1031, 1032, 17, 18, 19, 20, 21, 22, 23, 24, 25, 1042, 1043, 1044, 1045, 1100001, 1100002, 1100005, 1100003, 1100004, 1100018] g32) := sv_mod.sts md28 (by decide)
          have h := h r36 hr36 g32 hp35
          obtain ⟨o38, h⟩ := h
          refine sv_callV hM dX12_assigned_73 sm_iv_446 (by decide) (sm_a0 _) rfl rfl (Nat.le_of_ble_eq_true rfl) sm_h33 (Nat.le_of_ble_eq_true rfl) (Nat.le_of_ble_eq_true rfl) (F' := 0) (sv_Fn (n := 0) o13) rfl (t_node (15 : Int) r18 r9 r36 (sv_sts (sv_up (sv_sts S [1020, 1021, 1022, 1023, 5, 1011, 3, 4, 1007, 1009, 11, 12, 13, 14, 1024, 15, 16, 1031, 1032, 17, 18, 19, 20, 21, 22, 23, 24, 25, 1042, 1043, 1044, 1045, 1100001, 1100002, 1100005, 1100003, 1100004, 1100018] g5) 1020 0 ((g5 1020 0) + (1 : Int))) [1020, 1021, 1022, 1023, 5, 1011, 3, 4, 1007, 1009, 11, 12, 13, 14, 1024, 15, 16, 1031, 1032, 17, 18, 19, 20, 21, 22, 23, 24, 25, 1042, 1043, 1044, 1045, 1100001, 1100002, 1100005, 1100003, 1100004, 1100018] g32) ok33 (⟨by decide, by decide⟩ : sv_R (15 : Int)) hr18 hr9 hr36 o38) (fun v S1 hq => ?_)
          obtain ⟨r43, rfl, hr43, ok40, md41, hp42⟩ := hq
          obtain ⟨g39, rfl⟩ : ∃ g, S1 = sv_sts (sv_sts (sv_up (sv_sts S [1020, 1021, 1022, 1023, 5, 1011, 3, 4, 1007, 1009, 11, 12, 13, 14, 1024, 15, 16, 1031, 1032, 17, 18, 19, 20, 21, 22, 23, 24, 25, 1042, 1043, 1044, 1045, 1100001, 1100002, 1100005, 1100003, 1100004, 1100018] g5) 1020 0 ((g5 1020 0) + (1 : Int))) [1020, 1021, 1022, 1023, 5, 1011, 3, 4, 1007, 1009, 11, 12, 13, 14, 1024, 15, 16, 1031, 1032, 17, 18, 19, 20, 21, 22, 23, 24, 25, 1042, 1043, 1044, 1045, 1100001, 1100002, 1100005, 1100003, 1100004, 1100018] g32) [1024, 11, 12, 13, 14] g := ⟨_, md41.eq⟩
          show sv_T sm_XS sm_cs sm_L sm_sh ((if 0 < (S 1021 0) then 12 else 30 * (20 - (S 1023 0)) + 25)).toNat (q_assigned p1 S) 47 76 [(0, .ref 0), (1, sv_I p1), (2, sv_I r9), (3, sv_I r18)] [sv_I r43] (sv_sts (sv_sts (sv_up (sv_sts S [1020, 1021, 1022, 1023, 5, 1011, 3, 4, 1007, 1009, 11, 12, 13, 14, 1024, 15, 16, 1031, 1032, 17, 18, 19, 20, 21, 22, 23, 24, 25, 1042, 1043, 1044, 1045, 1100001, 1100002, 1100005, 1100003, 1100004, 1100018] g5) 1020 0 ((g5 1020 0) + (1 : Int))) [1020, 1021, 1022, 1023, 5, 1011, 3, 4, 1007, 1009, 11, 12, 13, 14, 1024, 15, 16, 1031, 1032, 17, 18, 19, 20, 21, 22, 23, 24, 25, 1042, 1043, 1044, 1045, 1100001, 1100002, 1100005, 1100003, 1100004, 1100018] g32) [1024, 11, 12, 13, 14] g39)
          have md44 : sv_mod [1020, 1021, 1022, 1023, 5, 1011, 3, 4, 1007, 1009, 11, 12, 13, 14, 1024, 15, 16, 1031, 1032, 17, 18, 19, 20, 21, 22, 23, 24, 25, 1042, 1043, 1044, 1045, 1100001, 1100002, 1100005, 1100003, 1100004, 1100018] S (sv_sts (sv_sts (sv_up (sv_sts S [1020, 1021, 1022, 1023, 5, 1011, 3, 4, 1007, 1009, 11, 12, 13, 14, 1024, 15, 16, 1031, 1032, 17, 18, 19, 20, 21, 22, 23, 24, 25, 1042, 1043, 1044, 1045, 1100001, 1100002, 1100005, 1100003, 1100004, 1100018] g5) 1020 0 ((g5 1020 0) + (1 : Int))) [1020, 1021, 1022, 1023, 5, 1011, 3, 4, 1007, 1009, 11, 12, 13, 14, 1024, 15, 16, 1031, 1032, 17, 18, 19, 20, 21, 22, 23, 24, 25, 1042, 1043, 1044, 1045, 1100001, 1100002, 1100005, 1100003, 1100004, 1100018] g32) [1024, 11, 12, 13, 14] g39) := sv_mod.sts md37 (by decide)
          have h := h r43 hr43 g39 hp42
          refine sv_ghost sm_X 1100001 r43 (1 : Int) (by decide) ?_
          have ok45 : sm_ok (sv_up (sv_sts (sv_sts (sv_up (sv_sts S [1020, 1021, 1022, 1023, 5, 1011, 3, 4, 1007, 1009, 11, 12, 13, 14, 1024, 15, 16, 1031, 1032, 17, 18, 19, 20, 21, 22, 23, 24, 25, 1042, 1043, 1044, 1045, 1100001, 1100002, 1100005, 1100003, 1100004, 1100018] g5) 1020 0 ((g5 1020 0) + (1 : Int))) [1020, 1021, 1022, 1023, 5, 1011, 3, 4, 1007, 1009, 11, 12, 13, 14, 1024, 15, 16, 1031, 1032, 17, 18, 19, 20, 21, 22, 23, 24, 25, 1042, 1043, 1044, 1045, 1100001, 1100002, 1100005, 1100003, 1100004, 1100018] g32) [1024, 11, 12, 13, 14] g39) 1100001 r43 (1 : Int)) := sm_upI ok40 sm_r1100001 (⟨by decide, by decide⟩ : sv_R (1 : Int))
          have md46 : sv_mod [1020, 1021, 1022, 1023, 5, 1011, 3, 4, 1007, 1009, 11, 12, 13, 14, 1024, 15, 16, 1031, 1032, 17, 18, 19, 20, 21, 22, 23, 24, 25, 1042, 1043, 1044, 1045, 1100001, 1100002, 1100005, 1100003, 1100004, 1100018] S (sv_up (sv_sts (sv_sts (sv_up (sv_sts S [1020, 1021, 1022, 1023, 5, 1011, 3, 4, 1007, 1009, 11, 12, 13, 14, 1024, 15, 16, 1031, 1032, 17, 18, 19, 20, 21, 22, 23, 24, 25, 1042, 1043, 1044, 1045, 1100001, 1100002, 1100005, 1100003, 1100004, 1100018] g5) 1020 0 ((g5 1020 0) + (1 : Int))) [1020, 1021, 1022, 1023, 5, 1011, 3, 4, 1007, 1009, 11, 12, 13, 14, 1024, 15, 16, 1031, 1032, 17, 18, 19, 20, 21, 22, 23, 24, 25, 1042, 1043, 1044, 1045, 1100001, 1100002, 1100005, 1100003, 1100004, 1100018] g32) [1024, 11, 12, 13, 14] g39) 1100001 r43 (1 : Int)) := sv_mod.up md44 (by decide)
          obtain ⟨o47, h⟩ := h
          refine sv_ghost sm_X 1100002 r43 ((17 * (20 - (S 1023 0)) + 17)) (by decide) ?_
          have ok48 : sm_ok (sv_up (sv_up (sv_sts (sv_sts (sv_up (sv_sts S [1020, 1021, 1022, 1023, 5, 1011, 3, 4, 1007, 1009, 11, 12, 13, 14, 1024, 15, 16, 1031, 1032, 17, 18, 19, 20, 21, 22, 23, 24, 25, 1042, 1043, 1044, 1045, 1100001, 1100002, 1100005, 1100003, 1100004, 1100018] g5) 1020 0 ((g5 1020 0) + (1 : Int))) [1020, 1021, 1022, 1023, 5, 1011, 3, 4, 1007, 1009, 11, 12, 13, 14, 1024, 15, 16, 1031, 1032, 17, 18, 19, 20, 21, 22, 23, 24, 25, 1042, 1043, 1044, 1045, 1100001, 1100002, 1100005, 1100003, 1100004, 1100018] g32) [1024, 11, 12, 13, 14] g39) 1100001 r43 (1 : Int)) 1100002 r43 ((17 * (20 - (S 1023 0)) + 17))) := sm_upI ok45 sm_r1100002 o47
          have md49 : sv_mod [1020, 1021, 1022, 1023, 5, 1011, 3, 4, 1007, 1009, 11, 12, 13, 14, 1024, 15, 16, 1031, 1032, 17, 18, 19, 20, 21, 22, 23, 24, 25, 1042, 1043, 1044, 1045, 1100001, 1100002, 1100005, 1100003, 1100004, 1100018] S (sv_up (sv_up (sv_sts (sv_sts (sv_up (sv_sts S [1020, 1021, 1022, 1023, 5, 1011, 3, 4, 1007, 1009, 11, 12, 13, 14, 1024, 15, 16, 1031, 1032, 17, 18, 19, 20, 21, 22, 23, 24, 25, 1042, 1043, 1044, 1045, 1100001, 1100002, 1100005, 1100003, 1100004, 1100018] g5) 1020 0 ((g5 1020 0) + (1 : Int))) [1020, 1021, 1022, 1023, 5, 1011, 3, 4, 1007, 1009, 11, 12, 13, 14, 1024, 15, 16, 1031, 1032, 17, 18, 19, 20, 21, 22, 23, 24, 25, 1042, 1043, 1044, 1045, 1100001, 1100002, 1100005, 1100003, 1100004, 1100018] g32) [1024, 11, 12, 13, 14] g39) 1100001 r43 (1 : Int)) 1100002 r43 ((17 * (20 - (S 1023 0)) + 17))) := sv_mod.up md46 (by decide)
          obtain ⟨o50, h⟩ := h
          refine sv_ghost sm_X 1100005 r43 ((20 - (S 1023 0))) (by decide) ?_
          have ok51 : sm_ok (sv_up (sv_up (sv_up (sv_sts (sv_sts (sv_up (sv_sts S [1020, 1021, 1022, 1023, 5, 1011, 3, 4, 1007, 1009, 11, 12, 13, 14, 1024, 15, 16, 1031, 1032, 17, 18, 19, 20, 21, 22, 23, 24, 25, 1042, 1043, 1044, 1045, 1100001, 1100002, 1100005, 1100003, 1100004, 1100018] g5) 1020 0 ((g5 1020 0) + (1 : Int))) [1020, 1021, 1022, 1023, 5, 1011, 3, 4, 1007, 1009, 11, 12, 13, 14, 1024, 15, 16, 1031, 1032, 17, 18, 19, 20, 21, 22, 23, 24, 25, 1042, 1043, 1044, 1045, 1100001, 1100002, 1100005, 1100003, 1100004, 1100018] g32) [1024, 11, 12, 13, 14] g39) 1100001 r43 (1 : Int)) 1100002 r43 ((17 * (20 - (S 1023 0)) + 17))) 1100005 r43 ((20 - (S 1023 0)))) := sm_upI ok48 sm_r1100005 o50
          have md52 : sv_mod [1020, 1021, 1022, 1023, 5, 1011, 3, 4, 1007, 1009, 11, 12, 13, 14, 1024, 15, 16, 1031, 1032, 17, 18, 19, 20, 21, 22, 23, 24, 25, 1042, 1043, 1044, 1045, 1100001, 1100002, 1100005, 1100003, 1100004, 1100018] S (sv_up (sv_up (sv_up (sv_sts (sv_sts (sv_up (sv_sts S [1020, 1021, 1022, 1023, 5, 1011, 3, 4, 1007, 1009, 11, 12, 13, 14, 1024, 15, 16, 1031, 1032, 17, 18, 19, 20, 21, 22, 23, 24, 25, 1042, 1043, 1044, 1045, 1100001, 1100002, 1100005, 1100003, 1100004, 1100018] g5) 1020 0 ((g5 1020 0) + (1 : Int))) [1020, 1021, 1022, 1023, 5, 1011, 3, 4, 1007, 1009, 11, 12, 13, 14, 1024, 15, 16, 1031, 1032, 17, 18, 19, 20, 21, 22, 23, 24, 25, 1042, 1043, 1044, 1045, 1100001, 1100002, 1100005, 1100003, 1100004, 1100018] g32) [1024, 11, 12, 13, 14] g39) 1100001 r43 (1 : Int)) 1100002 r43 ((17 * (20 - (S 1023 0)) + 17))) 1100005 r43 ((20 - (S 1023 0)))) := sv_mod.up md49 (by decide)
          refine sv_ghost sm_X 1100003 r43 (0 : Int) (by decide) ?_
          have ok53 : sm_ok (sv_up (sv_up (sv_up (sv_up (sv_sts (sv_sts (sv_up (sv_sts S [1020, 1021, 1022, 1023, 5, 1011, 3, 4, 1007, 1009, 11, 12, 13, 14, 1024, 15, 16, 1031, 1032, 17, 18, 19, 20, 21, 22, 23, 24, 25, 1042, 1043, 1044, 1045, 1100001, 1100002, 1100005, 1100003, 1100004, 1100018] g5) 1020 0 ((g5 1020 0) + (1 : Int))) [1020, 1021, 1022, 1023, 5, 1011, 3, 4, 1007, 1009, 11, 12, 13, 14, 1024, 15, 16, 1031, 1032, 17, 18, 19, 20, 21, 22, 23, 24, 25, 1042, 1043, 1044, 1045, 1100001, 1100002, 1100005, 1100003, 1100004, 1100018] g32) [1024, 11, 12, 13, 14] g39) 1100001 r43 (1 : Int)) 1100002 r43 ((17 * (20 - (S 1023 0)) + 17))) 1100005 r43 ((20 - (S 1023 0)))) 1100003 r43 (0 : Int)) := sm_upI ok51 sm_r1100003 (⟨by decide, by decide⟩ : sv_R (0 : Int))
          have md54 : sv_mod [1020, 1021, 1022, 1023, 5, 1011, 3, 4, 1007, 1009, 11, 12, 13, 14, 1024, 15, 16, 1031, 1032, 17, 18, 19, 20, 21, 22, 23, 24, 25, 1042, 1043, 1044, 1045, 1100001, 1100002, 1100005, 1100003, 1100004, 1100018] S (sv_up (sv_up (sv_up (sv_up (sv_sts (sv_sts (sv_up (sv_sts S [1020, 1021, 1022, 1023, 5, 1011, 3, 4, 1007, 1009, 11, 12, 13, 14, 1024, 15, 16, 1031, 1032, 17, 18, 19, 20, 21, 22, 23, 24, 25, 1042, 1043, 1044, 1045, 1100001, 1100002, 1100005, 1100003, 1100004, 1100018] g5) 1020 0 ((g5 1020 0) + (1 : Int))) [1020, 1021, 1022, 1023, 5, 1011, 3, 4, 1007, 1009, 11, 12, 13, 14, 1024, 15, 16, 1031, 1032, 17, 18, 19, 20, 21, 22, 23, 24, 25, 1042, 1043, 1044, 1045, 1100001, 1100002, 1100005, 1100003, 1100004, 1100018] g32) [1024, 11, 12, 13, 14] g39) 1100001 r43 (1 : Int)) 1100002 r43 ((17 * (20 - (S 1023 0)) + 17))) 1100005 r43 ((20 - (S 1023 0)))) 1100003 r43 (0 : Int)) := sv_mod.up md52 (by decide)
          refine sv_ghost sm_X 1100004 r43 (0 : Int) (by decide) ?_
          have ok55 : sm_ok (sv_up (sv_up (sv_up (sv_up (sv_up (sv_sts (sv_sts (sv_up (sv_sts S [1020, 1021, 1022, 1023, 5, 1011, 3, 4, 1007, 1009, 11, 12, 13, 14, 1024, 15, 16, 1031, 1032, 17, 18, 19, 20, 21, 22, 23, 24, 25, 1042, 1043, 1044, 1045, 1100001, 1100002, 1100005, 1100003, 1100004, 1100018] g5) 1020 0 ((g5 1020 0) + (1 : Int))) [1020, 1021, 1022, 1023, 5, 1011, 3, 4, 1007, 1009, 11, 12, 13, 14, 1024, 15, 16, 1031, 1032, 17, 18, 19, 20, 21, 22, 23, 24, 25, 1042, 1043, 1044, 1045, 1100001, 1100002, 1100005, 1100003, 1100004, 1100018] g32) [1024, 11, 12, 13, 14] g39) 1100001 r43 (1 : Int)) 1100002 r43 ((17 * (20 - (S 1023 0)) + 17))) 1100005 r43 ((20 - (S 1023 0)))) 1100003 r43 (0 : Int)) 1100004 r43 (0 : Int)) := sm_upI ok53 sm_r1100004 (⟨by decide, by decide⟩ : sv_R (0 : Int))
          have md56 : sv_mod [1020, 1021, 1022, 1023, 5, 1011, 3, 4, 1007, 1009, 11, 12, 13, 14, 1024, 15, 16, 1031, 1032, 17, 18, 19, 20, 21, 22, 23, 24, 25, 1042, 1043, 1044, 1045, 1100001, 1100002, 1100005, 1100003, 1100004, 1100018] S (sv_up (sv_up (sv_up (sv_up (sv_up (sv_sts (sv_sts (sv_up (sv_sts S [1020, 1021, 1022, 1023, 5, 1011, 3, 4, 1007, 1009, 11, 12, 13, 14, 1024, 15, 16, 1031, 1032, 17, 18, 19, 20, 21, 22, 23, 24, 25, 1042, 1043, 1044, 1045, 1100001, 1100002, 1100005, 1100003, 1100004, 1100018] g5) 1020 0 ((g5 1020 0) + (1 : Int))) [1020, 1021, 1022, 1023, 5, 1011, 3, 4, 1007, 1009, 11, 12, 13, 14, 1024, 15, 16, 1031, 1032, 17, 18, 19, 20, 21, 22, 23, 24, 25, 1042, 1043, 1044, 1045, 1100001, 1100002, 1100005, 1100003, 1100004, 1100018] g32) [1024, 11, 12, 13, 14] g39) 1100001 r43 (1 : Int)) 1100002 r43 ((17 * (20 - (S 1023 0)) + 17))) 1100005 r43 ((20 - (S 1023 0)))) 1100003 r43 (0 : Int)) 1100004 r43 (0 : Int)) := sv_mod.up md54 (by decide)
          have k57 : ((g32 1021 0) = 0 → sm_WF (g39 11) (g39 12) (g39 13) (g32 1100001) (g32 1100002) (g32 1100005) (g32 1100003) (g32 1100004) (g39 1024 0) (g32 1007 0) (g32 1009 0) (g32 1032 0) → (g32 1100001 r43) = 0 → 0 ≤ r43 → r43 < (g39 1024 0) → (g39 13 r43) = -1 → (g39 11 r43) = 15 → (-1 ≤ (g39 12 (5 * r43)) ∧ (g39 12 (5 * r43)) ≤ 10) → (sm_ex (g32 1100001) (g32 1100002) (g32 1100005) (g39 1024 0) 1 (g39 12 (5 * r43 + 1)) ((17 * (20 - (S 1023 0)) + 17) - 3) (20 - (S 1023 0))) → ((g39 12 (5 * r43 + 1)) < r43) → ((g39 11 (g39 12 (5 * r43 + 1))) = 2 ∨ (g39 11 (g39 12 (5 * r43 + 1))) = 7) → (sm_ex (g32 1100001) (g32 1100002) (g32 1100005) (g39 1024 0) 1 (g39 12 (5 * r43 + 2)) ((17 * (20 - (S 1023 0)) + 17) - 3) ((20 - (S 1023 0)) - 1)) → sm_WF (g39 11) (g39 12) (g39 13) (fun i' : Int => if i' = r43 then (1 : Int) else (g32 1100001) i') (fun i' : Int => if i' = r43 then ((17 * (20 - (S 1023 0)) + 17)) else (g32 1100002) i') (fun i' : Int => if i' = r43 then ((20 - (S 1023 0))) else (g32 1100005) i') (fun i' : Int => if i' = r43 then (0 : Int) else (g32 1100003) i') (fun i' : Int => if i' = r43 then (0 : Int) else (g32 1100004) i') (g39 1024 0) (g32 1007 0) (g32 1009 0) (g32 1032 0)) := fun a0 aW a1 a2 a3 a4 aS c1 c2 c3 c4 c5 => (sm_mk1 aW a1 a2 a3 a4 (Or.inr ⟨rfl, sm_c1_15 aS c1 c2 c3 c4 c5⟩)).1
          have h := h k57
          exact sv_iret hM dX12_assigned_76 rfl rfl ⟨r43, rfl, hr43, ok55, md56, h⟩
        · have h := h.2 (hc)
          refine sv_iconst (d := (-1 : Int)) hM dX12_assigned_62 rfl rfl ?_
          refine sv_goto hM dX12_assigned_63 (pc' := 67) rfl ?_
          refine sv_iload_n hM dX12_assigned_67 rfl rfl ?_
          refine sv_aload_n hM dX12_assigned_68 rfl rfl ?_
          refine sv_iload_n hM dX12_assigned_69 rfl rfl ?_
          obtain ⟨o58, h⟩ := h
          obtain ⟨o59, h⟩ := h
          obtain ⟨o60, h⟩ := h
          refine sv_callV hM dX12_assigned_70 sm_iv_466 (by decide) (sm_a0 _) rfl rfl (Nat.le_of_ble_eq_true rfl) sm_h46 (Nat.le_of_ble_eq_true rfl) (Nat.le_of_ble_eq_true rfl) (F' := ((30 * (20 - (g5 1023 0)) + 14)).toNat) (sv_Fe o60) rfl ((IH (30 * (20 - (g5 1023 0)) + 14) o59.1 o59.2).2.1 p1 (sv_up (sv_sts S [1020, 1021, 1022, 1023, 5, 1011, 3, 4, 1007, 1009, 11, 12, 13, 14, 1024, 15, 16, 1031, 1032, 17, 18, 19, 20, 21, 22, 23, 24, 25, 1042, 1043, 1044, 1045, 1100001, 1100002, 1100005, 1100003, 1100004, 1100018] g5) 1020 0 ((g5 1020 0) + (1 : Int))) ok27 o1 o58 rfl) (fun v S1 hq => ?_)
          obtain ⟨r65, rfl, hr65, ok62, md63, hp64⟩ := hq
          obtain ⟨g61, rfl⟩ : ∃ g, S1 = sv_sts (sv_up (sv_sts S [1020, 1021, 1022, 1023, 5, 1011, 3, 4, 1007, 1009, 11, 12, 13, 14, 1024, 15, 16, 1031, 1032, 17, 18, 19, 20, 21, 22, 23, 24, 25, 1042, 1043, 1044, 1045, 1100001, 1100002, 1100005, 1100003, 1100004, 1100018] g5) 1020 0 ((g5 1020 0) + (1 : Int))) [1020, 1021, 1022, 1023, 5, 1011, 3, 4, 1007, 1009, 11, 12, 13, 14, 1024, 15, 16, 1031, 1032, 17, 18, 19, 20, 21, 22, 23, 24, 25, 1042, 1043, 1044, 1045, 1100001, 1100002, 1100005, 1100003, 1100004, 1100018] g := ⟨_, md63.eq⟩
          show sv_T sm_XS sm_cs sm_L sm_sh ((if 0 < (S 1021 0) then 12 else 30 * (20 - (S 1023 0)) + 25)).toNat (q_assigned p1 S) 47 73 [(0, .ref 0), (1, sv_I p1), (2, sv_I r9), (3, sv_I r18)] [sv_I r65, sv_I r9, sv_I (-1 : Int), sv_I (15 : Int), .ref 0] (sv_sts (sv_up (sv_sts S [1020, 1021, 1022, 1023, 5, 1011, 3, 4, 1007, 1009, 11, 12, 13, 14, 1024, 15, 16, 1031, 1032, 17, 18, 19, 20, 21, 22, 23, 24, 25, 1042, 1043, 1044, 1045, 1100001, 1100002, 1100005, 1100003, 1100004, 1100018] g5) 1020 0 ((g5 1020 0) + (1 : Int))) [1020, 1021, 1022, 1023, 5, 1011, 3, 4, 1007, 1009, 11, 12, 13, 14, 1024, 15, 16, 1031, 1032, 17, 18, 19, 20, 21, 22, 23, 24, 25, 1042, 1043, 1044, 1045, 1100001, 1100002, 1100005, 1100003, 1100004, 1100018] g61)
          have md66 : sv_mod [1020, 1021, 1022, 1023, 5, 1011, 3, 4, 1007, 1009, 11, 12, 13, 14, 1024, 15, 16, 1031, 1032, 17, 18, 19, 20, 21, 22, 23, 24, 25, 1042, 1043, 1044, 1045, 1100001, 1100002, 1100005, 1100003, 1100004, 1100018] S (sv_sts (sv_up (sv_sts S [1020, 1021, 1022, 1023, 5, 1011, 3, 4, 1007, 1009, 11, 12, 13, 14, 1024, 15, 16, 1031, 1032, 17, 18, 19, 20, 21, 22, 23, 24, 25, 1042, 1043, 1044, 1045, 1100001, 1100002, 1100005, 1100003, 1100004, 1100018] g5) 1020 0 ((g5 1020 0) + (1 : Int))) [1020, 1021, 1022, 1023, 5, 1011, 3, 4, 1007, 1009, 11, 12, 13, 14, 1024, 15, 16, 1031, 1032, 17, 18, 19, 20, 21, 22, 23, 24, 25, 1042, 1043, 1044, 1045, 1100001, 1100002, 1100005, 1100003, 1100004, 1100018] g61) := sv_mod.sts md28 (by decide)
          have h := h r65 hr65 g61 hp64
          obtain ⟨o67, h⟩ := h
          refine sv_callV hM dX12_assigned_73 sm_iv_446 (by decide) (sm_a0 _) rfl rfl (Nat.le_of_ble_eq_true rfl) sm_h33 (Nat.le_of_ble_eq_true rfl) (Nat.le_of_ble_eq_true rfl) (F' := 0) (sv_Fn (n := 0) o13) rfl (t_node (15 : Int) (-1 : Int) r9 r65 (sv_sts (sv_up (sv_sts S [1020, 1021, 1022, 1023, 5, 1011, 3, 4, 1007, 1009, 11, 12, 13, 14, 1024, 15, 16, 1031, 1032, 17, 18, 19, 20, 21, 22, 23, 24, 25, 1042, 1043, 1044, 1045, 1100001, 1100002, 1100005, 1100003, 1100004, 1100018] g5) 1020 0 ((g5 1020 0) + (1 : Int))) [1020, 1021, 1022, 1023, 5, 1011, 3, 4, 1007, 1009, 11, 12, 13, 14, 1024, 15, 16, 1031, 1032, 17, 18, 19, 20, 21, 22, 23, 24, 25, 1042, 1043, 1044, 1045, 1100001, 1100002, 1100005, 1100003, 1100004, 1100018] g61) ok62 (⟨by decide, by decide⟩ : sv_R (15 : Int)) (⟨by decide, by decide⟩ : sv_R (-1 : Int)) hr9 hr65 o67) (fun v S1 hq => ?_)
          obtain ⟨r72, rfl, hr72, ok69, md70, hp71⟩ := hq
          obtain ⟨g68, rfl⟩ : ∃ g, S1 = sv_sts (sv_sts (sv_up (sv_sts S [1020, 1021, 1022, 1023, 5, 1011, 3, 4, 1007, 1009, 11, 12, 13, 14, 1024, 15, 16, 1031, 1032, 17, 18, 19, 20, 21, 22, 23, 24, 25, 1042, 1043, 1044, 1045, 1100001, 1100002, 1100005, 1100003, 1100004, 1100018] g5) 1020 0 ((g5 1020 0) + (1 : Int))) [1020, 1021, 1022, 1023, 5, 1011, 3, 4, 1007, 1009, 11, 12, 13, 14, 1024, 15, 16, 1031, 1032, 17, 18, 19, 20, 21, 22, 23, 24, 25, 1042, 1043, 1044, 1045, 1100001, 1100002, 1100005, 1100003, 1100004, 1100018] g61) [1024, 11, 12, 13, 14] g := ⟨_, md70.eq⟩
          show sv_T sm_XS sm_cs sm_L sm_sh ((if 0 < (S 1021 0) then 12 else 30 * (20 - (S 1023 0)) + 25)).toNat (q_assigned p1 S) 47 76 [(0, .ref 0), (1, sv_I p1), (2, sv_I r9), (3, sv_I r18)] [sv_I r72] (sv_sts (sv_sts (sv_up (sv_sts S [1020, 1021, 1022, 1023, 5, 1011, 3, 4, 1007, 1009, 11, 12, 13, 14, 1024, 15, 16, 1031, 1032, 17, 18, 19, 20, 21, 22, 23, 24, 25, 1042, 1043, 1044, 1045, 1100001, 1100002, 1100005, 1100003, 1100004, 1100018] g5) 1020 0 ((g5 1020 0) + (1 : Int))) [1020, 1021, 1022, 1023, 5, 1011, 3, 4, 1007, 1009, 11, 12, 13, 14, 1024, 15, 16, 1031, 1032, 17, 18, 19, 20, 21, 22, 23, 24, 25, 1042, 1043, 1044, 1045, 1100001, 1100002, 1100005, 1100003, 1100004, 1100018] g61) [1024, 11, 12, 13, 14] g68)
          have md73 : sv_mod [1020, 1021, 1022, 1023, 5, 1011, 3, 4, 1007, 1009, 11, 12, 13, 14, 1024, 15, 16, 1031, 1032, 17, 18, 19, 20, 21, 22, 23, 24, 25, 1042, 1043, 1044, 1045, 1100001, 1100002, 1100005, 1100003, 1100004, 1100018] S (sv_sts (sv_sts (sv_up (sv_sts S [1020, 1021, 1022, 1023, 5, 1011, 3, 4, 1007, 1009, 11, 12, 13, 14, 1024, 15, 16, 1031, 1032, 17, 18, 19, 20, 21, 22, 23, 24, 25, 1042, 1043, 1044, 1045, 1100001, 1100002, 1100005, 1100003, 1100004, 1100018] g5) 1020 0 ((g5 1020 0) + (1 : Int))) [1020, 1021, 1022, 1023, 5, 1011, 3, 4, 1007, 1009, 11, 12, 13, 14, 1024, 15, 16, 1031, 1032, 17, 18, 19, 20, 21, 22, 23, 24, 25, 1042, 1043, 1044, 1045, 1100001, 1100002, 1100005, 1100003, 1100004, 1100018] g61) [1024, 11, 12, 13, 14] g68) := sv_mod.sts md66 (by decide)
          have h := h r72 hr72 g68 hp71
          refine sv_ghost sm_X 1100001 r72 (1 : Int) (by decide) ?_
          have ok74 : sm_ok (sv_up (sv_sts (sv_sts (sv_up (sv_sts S [1020, 1021, 1022, 1023, 5, 1011, 3, 4, 1007, 1009, 11, 12, 13, 14, 1024, 15, 16, 1031, 1032, 17, 18, 19, 20, 21, 22, 23, 24, 25, 1042, 1043, 1044, 1045, 1100001, 1100002, 1100005, 1100003, 1100004, 1100018] g5) 1020 0 ((g5 1020 0) + (1 : Int))) [1020, 1021, 1022, 1023, 5, 1011, 3, 4, 1007, 1009, 11, 12, 13, 14, 1024, 15, 16, 1031, 1032, 17, 18, 19, 20, 21, 22, 23, 24, 25, 1042, 1043, 1044, 1045, 1100001, 1100002, 1100005, 1100003, 1100004, 1100018] g61) [1024, 11, 12, 13, 14] g68) 1100001 r72 (1 : Int)) := sm_upI ok69 sm_r1100001 (⟨by decide, by decide⟩ : sv_R (1 : Int))
          have md75 : sv_mod [1020, 1021, 1022, 1023, 5, 1011, 3, 4, 1007, 1009, 11, 12, 13, 14, 1024, 15, 16, 1031, 1032, 17, 18, 19, 20, 21, 22, 23, 24, 25, 1042, 1043, 1044, 1045, 1100001, 1100002, 1100005, 1100003, 1100004, 1100018] S (sv_up (sv_sts (sv_sts (sv_up (sv_sts S [1020, 1021, 1022, 1023, 5, 1011, 3, 4, 1007, 1009, 11, 12, 13, 14, 1024, 15, 16, 1031, 1032, 17, 18, 19, 20, 21, 22, 23, 24, 25, 1042, 1043, 1044, 1045, 1100001, 1100002, 1100005, 1100003, 1100004, 1100018] g5) 1020 0 ((g5 1020 0) + (1 : Int))) [1020, 1021, 1022, 1023, 5, 1011, 3, 4, 1007, 1009, 11, 12, 13, 14, 1024, 15, 16, 1031, 1032, 17, 18, 19, 20, 21, 22, 23, 24, 25, 1042, 1043, 1044, 1045, 1100001, 1100002, 1100005, 1100003, 1100004, 1100018] g61) [1024, 11, 12, 13, 14] g68) 1100001 r72 (1 : Int)) := sv_mod.up md73 (by decide)
          obtain ⟨o76, h⟩ := h
          refine sv_ghost sm_X 1100002 r72 ((17 * (20 - (S 1023 0)) + 17)) (by decide) ?_
          have ok77 : sm_ok (sv_up (sv_up (sv_sts (sv_sts (sv_up (sv_sts S [1020, 1021, 1022, 1023, 5, 1011, 3, 4, 1007, 1009, 11, 12, 13, 14, 1024, 15, 16, 1031, 1032, 17, 18, 19, 20, 21, 22, 23, 24, 25, 1042, 1043, 1044, 1045, 1100001, 1100002, 1100005, 1100003, 1100004, 1100018] g5) 1020 0 ((g5 1020 0) + (1 : Int))) [1020, 1021, 1022, 1023, 5, 1011, 3, 4, 1007, 1009, 11, 12, 13, 14, 1024, 15, 16, 1031, 1032, 17, 18, 19, 20, 21, 22, 23, 24, 25, 1042, 1043, 1044, 1045, 1100001, 1100002, 1100005, 1100003, 1100004, 1100018] g61) [1024, 11, 12, 13, 14] g68) 1100001 r72 (1 : Int)) 1100002 r72 ((17 * (20 - (S 1023 0)) + 17))) := sm_upI ok74 sm_r1100002 o76
          have md78 : sv_mod [1020, 1021, 1022, 1023, 5, 1011, 3, 4, 1007, 1009, 11, 12, 13, 14, 1024, 15, 16, 1031, 1032, 17, 18, 19, 20, 21, 22, 23, 24, 25, 1042, 1043, 1044, 1045, 1100001, 1100002, 1100005, 1100003, 1100004, 1100018] S (sv_up (sv_up (sv_sts (sv_sts (sv_up (sv_sts S [1020, 1021, 1022, 1023, 5, 1011, 3, 4, 1007, 1009, 11, 12, 13, 14, 1024, 15, 16, 1031, 1032, 17, 18, 19, 20, 21, 22, 23, 24, 25, 1042, 1043, 1044, 1045, 1100001, 1100002, 1100005, 1100003, 1100004, 1100018] g5) 1020 0 ((g5 1020 0) + (1 : Int))) [1020, 1021, 1022, 1023, 5, 1011, 3, 4, 1007, 1009, 11, 12, 13, 14, 1024, 15, 16, 1031, 1032, 17, 18, 19, 20, 21, 22, 23, 24, 25, 1042, 1043, 1044, 1045, 1100001, 1100002, 1100005, 1100003, 1100004, 1100018] g61) [1024, 11, 12, 13, 14] g68) 1100001 r72 (1 : Int)) 1100002 r72 ((17 * (20 - (S 1023 0)) + 17))) := sv_mod.up md75 (by decide)
          obtain ⟨o79, h⟩ := h
          refine sv_ghost sm_X 1100005 r72 ((20 - (S 1023 0))) (by decide) ?_
          have ok80 : sm_ok (sv_up (sv_up (sv_up (sv_sts (sv_sts (sv_up (sv_sts S [1020, 1021, 1022, 1023, 5, 1011, 3, 4, 1007, 1009, 11, 12, 13, 14, 1024, 15, 16, 1031, 1032, 17, 18, 19, 20, 21, 22, 23, 24, 25, 1042, 1043, 1044, 1045, 1100001, 1100002, 1100005, 1100003, 1100004, 1100018] g5) 1020 0 ((g5 1020 0) + (1 : Int))) [1020, 1021, 1022, 1023, 5, 1011, 3, 4, 1007, 1009, 11, 12, 13, 14, 1024, 15, 16, 1031, 1032, 17, 18, 19, 20, 21, 22, 23, 24, 25, 1042, 1043, 1044, 1045, 1100001, 1100002, 1100005, 1100003, 1100004, 1100018] g61) [1024, 11, 12, 13, 14] g68) 1100001 r72 (1 : Int)) 1100002 r72 ((17 * (20 - (S 1023 0)) + 17))) 1100005 r72 ((20 - (S 1023 0)))) := sm_upI ok77 sm_r1100005 o79
          have md81 : sv_mod [1020, 1021, 1022, 1023, 5, 1011, 3, 4, 1007, 1009, 11, 12, 13, 14, 1024, 15, 16, 1031, 1032, 17, 18, 19, 20, 21, 22, 23, 24, 25, 1042, 1043, 1044, 1045, 1100001, 1100002, 1100005, 1100003, 1100004, 1100018] S (sv_up (sv_up (sv_up (sv_sts (sv_sts (sv_up (sv_sts S [1020, 1021, 1022, 1023, 5, 1011, 3, 4, 1007, 1009, 11, 12, 13, 14, 1024, 15, 16, 1031, 1032, 17, 18, 19, 20, 21, 22, 23, 24, 25, 1042, 1043, 1044, 1045, 1100001, 1100002, 1100005, 1100003, 1100004, 1100018] g5) 1020 0 ((g5 1020 0) + (1 : Int))) [1020, 1021, 1022, 1023, 5, 1011, 3, 4, 1007, 1009, 11, 12, 13, 14, 1024, 15, 16, 1031, 1032, 17, 18, 19, 20, 21, 22, 23, 24, 25, 1042, 1043, 1044, 1045, 1100001, 1100002, 1100005, 1100003, 1100004, 1100018] g61) [1024, 11, 12, 13, 14] g68) 1100001 r72 (1 : Int)) 1100002 r72 ((17 * (20 - (S 1023 0)) + 17))) 1100005 r72 ((20 - (S 1023 0)))) := sv_mod.up md78 (by decide)
          refine sv_ghost sm_X 1100003 r72 (0 : Int) (by decide) ?_
          have ok82 : sm_ok (sv_up (sv_up (sv_up (sv_up (sv_sts (sv_sts (sv_up (sv_sts S [1020, 1021, 1022, 1023, 5, 1011, 3, 4, 1007, 1009, 11, 12, 13, 14, 1024, 15, 16, 1031, 1032, 17, 18, 19, 20, 21, 22, 23, 24, 25, 1042, 1043, 1044, 1045, 1100001, 1100002, 1100005, 1100003, 1100004, 1100018] g5) 1020 0 ((g5 1020 0) + (1 : Int))) [1020, 1021, 1022, 1023, 5, 1011, 3, 4, 1007, 1009, 11, 12, 13, 14, 1024, 15, 16, 1031, 1032, 17, 18, 19, 20, 21, 22, 23, 24, 25, 1042, 1043, 1044, 1045, 1100001, 1100002, 1100005, 1100003, 1100004, 1100018] g61) [1024, 11, 12, 13, 14] g68) 1100001 r72 (1 : Int)) 1100002 r72 ((17 * (20 - (S 1023 0)) + 17))) 1100005 r72 ((20 - (S 1023 0)))) 1100003 r72 (0 : Int)) := sm_upI ok80 sm_r1100003 (⟨by decide, by decide⟩ : sv_R (0 : Int))
          have md83 : sv_mod [1020, 1021, 1022, 1023, 5, 1011, 3, 4, 1007, 1009, 11, 12, 13, 14, 1024, 15, 16, 1031, 1032, 17, 18, 19, 20, 21, 22, 23, 24, 25, 1042, 1043, 1044, 1045, 1100001, 1100002, 1100005, 1100003, 1100004, 1100018] S (sv_up (sv_up (sv_up (sv_up (sv_sts (sv_sts (sv_up (sv_sts S [1020, 1021, 1022, 1023, 5, 1011, 3, 4, 1007, 1009, 11, 12, 13, 14, 1024, 15, 16, 1031, 1032, 17, 18, 19, 20, 21, 22, 23, 24, 25, 1042, 1043, 1044, 1045, 1100001, 1100002, 1100005, 1100003, 1100004, 1100018] g5) 1020 0 ((g5 1020 0) + (1 : Int))) [1020, 1021, 1022, 1023, 5, 1011, 3, 4, 1007, 1009, 11, 12, 13, 14, 1024, 15, 16, 1031, 1032, 17, 18, 19, 20, 21, 22, 23, 24, 25, 1042, 1043, 1044, 1045, 1100001, 1100002, 1100005, 1100003, 1100004, 1100018] g61) [1024, 11, 12, 13, 14] g68) 1100001 r72 (1 : Int)) 1100002 r72 ((17 * (20 - (S 1023 0)) + 17))) 1100005 r72 ((20 - (S 1023 0)))) 1100003 r72 (0 : Int)) := sv_mod.up md81 (by decide)
          refine sv_ghost sm_X 1100004 r72 (0 : Int) (by decide) ?_
          have ok84 : sm_ok (sv_up (sv_up (sv_up (sv_up (sv_up (sv_sts (sv_sts (sv_up (sv_sts S [1020, 1021, 1022, 1023, 5, 1011, 3, 4, 1007, 1009, 11, 12, 13, 14, 1024, 15, 16, 1031, 1032, 17, 18, 19, 20, 21, 22, 23, 24, 25, 1042, 1043, 1044, 1045, 1100001, 1100002, 1100005, 1100003, 1100004, 1100018] g5) 1020 0 ((g5 1020 0) + (1 : Int))) [1020, 1021, 1022, 1023, 5, 1011, 3, 4, 1007, 1009, 11, 12, 13, 14, 1024, 15, 16, 1031, 1032, 17, 18, 19, 20, 21, 22, 23, 24, 25, 1042, 1043, 1044, 1045, 1100001, 1100002, 1100005, 1100003, 1100004, 1100018] g61) [1024, 11, 12, 13, 14] g68) 1100001 r72 (1 : Int)) 1100002 r72 ((17 * (20 - (S 1023 0)) + 17))) 1100005 r72 ((20 - (S 1023 0)))) 1100003 r72 (0 : Int)) 1100004 r72 (0 : Int)) := sm_upI ok82 sm_r1100004 (⟨by decide, by decide⟩ : sv_R (0 : Int))
          have md85 : sv_mod [1020, 1021, 1022, 1023, 5, 1011, 3, 4, 1007, 1009, 11, 12, 13, 14, 1024, 15, 16, 1031, 1032, 17, 18, 19, 20, 21, 22, 23, 24, 25, 1042, 1043, 1044, 1045, 1100001, 1100002, 1100005, 1100003, 1100004, 1100018] S (sv_up (sv_up (sv_up (sv_up (sv_up (sv_sts (sv_sts (sv_up (sv_sts S [1020, 1021, 1022, 1023, 5, 1011, 3, 4, 1007, 1009, 11, 12, 13, 14, 1024, 15, 16, 1031, 1032, 17, 18, 19, 20, 21, 22, 23, 24, 25, 1042, 1043, 1044, 1045, 1100001, 1100002, 1100005, 1100003, 1100004, 1100018] g5) 1020 0 ((g5 1020 0) + (1 : Int))) [1020, 1021, 1022, 1023, 5, 1011, 3, 4, 1007, 1009, 11, 12, 13, 14, 1024, 15, 16, 1031, 1032, 17, 18, 19, 20, 21, 22, 23, 24, 25, 1042, 1043, 1044, 1045, 1100001, 1100002, 1100005, 1100003, 1100004, 1100018] g61) [1024, 11, 12, 13, 14] g68) 1100001 r72 (1 : Int)) 1100002 r72 ((17 * (20 - (S 1023 0)) + 17))) 1100005 r72 ((20 - (S 1023 0)))) 1100003 r72 (0 : Int)) 1100004 r72 (0 : Int)) := sv_mod.up md83 (by decide)
          have k86 : ((g61 1021 0) = 0 → sm_WF (g68 11) (g68 12) (g68 13) (g61 1100001) (g61 1100002) (g61 1100005) (g61 1100003) (g61 1100004) (g68 1024 0) (g61 1007 0) (g61 1009 0) (g61 1032 0) → (g61 1100001 r72) = 0 → 0 ≤ r72 → r72 < (g68 1024 0) → (g68 13 r72) = -1 → (g68 11 r72) = 15 → (-1 ≤ (g68 12 (5 * r72)) ∧ (g68 12 (5 * r72)) ≤ 10) → (sm_ex (g61 1100001) (g61 1100002) (g61 1100005) (g68 1024 0) 1 (g68 12 (5 * r72 + 1)) ((17 * (20 - (S 1023 0)) + 17) - 3) (20 - (S 1023 0))) → ((g68 12 (5 * r72 + 1)) < r72) → ((g68 11 (g68 12 (5 * r72 + 1))) = 2 ∨ (g68 11 (g68 12 (5 * r72 + 1))) = 7) → (sm_ex (g61 1100001) (g61 1100002) (g61 1100005) (g68 1024 0) 1 (g68 12 (5 * r72 + 2)) ((17 * (20 - (S 1023 0)) + 17) - 3) ((20 - (S 1023 0)) - 1)) → sm_WF (g68 11) (g68 12) (g68 13) (fun i' : Int => if i' = r72 then (1 : Int) else (g61 1100001) i') (fun i' : Int => if i' = r72 then ((17 * (20 - (S 1023 0)) + 17)) else (g61 1100002) i') (fun i' : Int => if i' = r72 then ((20 - (S 1023 0))) else (g61 1100005) i') (fun i' : Int => if i' = r72 then (0 : Int) else (g61 1100003) i') (fun i' : Int => if i' = r72 then (0 : Int) else (g61 1100004) i') (g68 1024 0) (g61 1007 0) (g61 1009 0) (g61 1032 0)) := fun a0 aW a1 a2 a3 a4 aS c1 c2 c3 c4 c5 => (sm_mk1 aW a1 a2 a3 a4 (Or.inr ⟨rfl, sm_c1_15 aS c1 c2 c3 c4 c5⟩)).1
          have h := h k86
          exact sv_iret hM dX12_assigned_76 rfl rfl ⟨r72, rfl, hr72, ok84, md85, h⟩
      · have h := h.2 (hc)
        refine sv_aload_n hM dX12_assigned_35 rfl rfl ?_
        refine sv_iconst (d := (3 : Int)) hM dX12_assigned_36 rfl rfl ?_
        obtain ⟨o87, h⟩ := h
        refine sv_callV hM dX12_assigned_37 sm_iv_401 (by decide) (sm_a0 _) rfl rfl (Nat.le_of_ble_eq_true rfl) sm_h23 (Nat.le_of_ble_eq_true rfl) (Nat.le_of_ble_eq_true rfl) (F' := 0) (sv_Fn (n := 0) o13) rfl (t_fail (3 : Int) (sv_sts S [1020, 1021, 1022, 1023, 5, 1011, 3, 4, 1007, 1009, 11, 12, 13, 14, 1024, 15, 16, 1031, 1032, 17, 18, 19, 20, 21, 22, 23, 24, 25, 1042, 1043, 1044, 1045, 1100001, 1100002, 1100005, 1100003, 1100004, 1100018] g5) ok21 (⟨by decide, by decide⟩ : sv_R (3 : Int)) o87) (fun v S1 hq => ?_)
        obtain ⟨r92, rfl, hr92, ok89, md90, hp91⟩ := hq
        obtain ⟨g88, rfl⟩ : ∃ g, S1 = sv_sts (sv_sts S [1020, 1021, 1022, 1023, 5, 1011, 3, 4, 1007, 1009, 11, 12, 13, 14, 1024, 15, 16, 1031, 1032, 17, 18, 19, 20, 21, 22, 23, 24, 25, 1042, 1043, 1044, 1045, 1100001, 1100002, 1100005, 1100003, 1100004, 1100018] g5) [1021, 1022] g := ⟨_, md90.eq⟩
        show sv_T sm_XS sm_cs sm_L sm_sh ((if 0 < (S 1021 0) then 12 else 30 * (20 - (S 1023 0)) + 25)).toNat (q_assigned p1 S) 47 40 [(0, .ref 0), (1, sv_I p1), (2, sv_I r9), (3, sv_I r18)] [sv_I r92] (sv_sts (sv_sts S [1020, 1021, 1022, 1023, 5, 1011, 3, 4, 1007, 1009, 11, 12, 13, 14, 1024, 15, 16, 1031, 1032, 17, 18, 19, 20, 21, 22, 23, 24, 25, 1042, 1043, 1044, 1045, 1100001, 1100002, 1100005, 1100003, 1100004, 1100018] g5) [1021, 1022] g88)
        have md93 : sv_mod [1020, 1021, 1022, 1023, 5, 1011, 3, 4, 1007, 1009, 11, 12, 13, 14, 1024, 15, 16, 1031, 1032, 17, 18, 19, 20, 21, 22, 23, 24, 25, 1042, 1043, 1044, 1045, 1100001, 1100002, 1100005, 1100003, 1100004, 1100018] S (sv_sts (sv_sts S [1020, 1021, 1022, 1023, 5, 1011, 3, 4, 1007, 1009, 11, 12, 13, 14, 1024, 15, 16, 1031, 1032, 17, 18, 19, 20, 21, 22, 23, 24, 25, 1042, 1043, 1044, 1045, 1100001, 1100002, 1100005, 1100003, 1100004, 1100018] g5) [1021, 1022] g88) := sv_mod.sts md10 (by decide)
        have h := h r92 hr92 g88 hp91
        refine sv_popI hM dX12_assigned_40 rfl ?_
        refine sv_iconst (d := (-1 : Int)) hM dX12_assigned_41 rfl rfl ?_
        exact sv_iret hM dX12_assigned_42 rfl rfl ⟨(-1 : Int), rfl, (⟨by decide, by decide⟩ : sv_R (-1 : Int)), ok89, md93, h⟩
    · have h := h.2 (hc)
      refine sv_iload_n hM dX12_assigned_25 rfl rfl ?_
      exact sv_iret hM dX12_assigned_26 rfl rfl ⟨r9, rfl, hr9, ok15, md10, h⟩
  · have h := h.2 (hc)
    refine sv_iconst (d := (-1 : Int)) hM dX12_assigned_13 rfl rfl ?_
    exact sv_iret hM dX12_assigned_14 rfl rfl ⟨(-1 : Int), rfl, (⟨by decide, by decide⟩ : sv_R (-1 : Int)), ok6, md10, h⟩
theorem la_conditional_0 {x0 : Int} (h0 : 0 ≤ x0) (h1 : x0 ≤ 1) : 0 ≤ x0 ∧ x0 ≤ 1 := by omega
theorem la_conditional_1 : (0 : Int) ≤ 0 ∧ (0 : Int) ≤ 10 := by omega
theorem la_conditional_2 {x0 : Int} (h0 : 0 < x0) : ¬ x0 = 0 := by omega
theorem la_conditional_3 {x0 : Int} (h0 : x0 = 10) : 0 ≤ x0 := by omega
theorem la_conditional_4 {x0 : Int} (h0 : 0 ≤ x0) (h1 : ¬ 0 < x0) : x0 = 0 := by omega
theorem la_conditional_5 {x0 x1 : Int} (h0 : x0 = 30 * (20 - x1) + (23 - 0)) (h1 : x1 ≤ 20) : 0 ≤ x0 := by omega
theorem la_conditional_6 {x0 x1 x2 : Int} (h0 : x0 = x1) (h1 : x2 = 10) (h2 : x0 = 11) : x2 < x1 := by omega
theorem la_conditional_7 {x0 x1 x2 x3 : Int} (h0 : x0 = x1) (h1 : x2 = 30 * (20 - x3) + (23 - 0)) (h2 : x0 = 30 * (20 - x3) + 24) : x2 < x1 := by omega
theorem la_conditional_8 {x0 x1 : Int} (h0 : x0 = 10) (h1 : x1 = 11) : x0 + 1 ≤ x1 := by omega
theorem la_conditional_9 {x0 x1 x2 : Int} (h0 : x0 = 30 * (20 - x1) + (23 - 0)) (h1 : x2 = 30 * (20 - x1) + 24) : x0 + 1 ≤ x2 := by omega
theorem la_conditional_10 {x0 x1 x2 x3 x4 : Int} (h0 : x0 = 11) (h1 : x1 = x2) (h2 : x3 = x4) : x3 ≤ x4 + 2 * (x1 - x2) + 2 * x0 := by omega
theorem la_conditional_11 {x0 x1 x2 x3 x4 x5 x6 : Int} (h0 : x0 ≤ x1 + 2 * (x2 - x3) + 2 * x4) (h1 : x4 = 30 * (20 - x5) + (23 - 0)) (h2 : x6 = 30 * (20 - x5) + 24) : x0 ≤ x1 + 2 * (x2 - x3) + 2 * x6 := by omega
theorem la_conditional_12 {x0 x1 : Int} (h0 : 0 < x0) (h1 : x0 = 0) : 0 < x1 := by omega
theorem la_conditional_13 {x0 x1 : Int} (h0 : 0 < x0) (h1 : x0 = 0) : x1 = 0 := by omega
theorem la_conditional_14 {x0 : Int} (h0 : 0 < x0) (h1 : x0 = 0) : False := by omega
theorem la_conditional_15 {x0 x1 x2 : Int} (h0 : 0 ≤ x0) (h1 : x1 ≤ 4001) (h2 : x2 < x1) (h3 : x0 < x2) : 0 ≤ x2 ∧ x2 ≤ 4000 := by omega
theorem la_conditional_16 {x0 x1 : Int} (h0 : x0 = 30 * (20 - x1) + 24) (h1 : x1 ≤ 20) : 0 + 1 ≤ x0 := by omega
theorem la_conditional_17 {x0 x1 x2 : Int} (h0 : 0 ≤ x0) (h1 : x1 ≤ 4001) (h2 : x2 < x1) (h3 : x0 < x2) : sv_R (x2 + 1) := by omega
theorem la_conditional_18 {x0 x1 : Int} (h0 : 0 ≤ x0) (h1 : x0 < x1) : 0 ≤ x1 + 1 := by omega
theorem la_conditional_19 {x0 x1 : Int} (h0 : 0 ≤ x0) (h1 : x0 < x1) : 0 ≤ x1 := by omega
theorem la_conditional_20 {x0 : Int} (h0 : x0 = 5) : 1 ≤ x0 := by omega
theorem la_conditional_21 {x0 : Int} (h0 : x0 = 5) : x0 ≤ 5 := by omega
theorem la_conditional_22 {x0 x1 : Int} (h0 : 0 ≤ x0) (h1 : x0 ≤ x1) : 0 ≤ x1 := by omega
theorem la_conditional_23 {x0 x1 : Int} (h0 : 0 ≤ x0) (h1 : x1 = x0) : 0 ≤ x1 := by omega
theorem la_conditional_24 {x0 x1 x2 x3 x4 x5 : Int} (h0 : x0 < x1) (h1 : x1 = x2) (h2 : x3 = x0) (h3 : x2 ≤ x4) (h4 : x5 = x4) : x3 < x5 := by omega
theorem la_conditional_25 {x0 x1 : Int} (h0 : x0 ≤ 1 + x1) : x0 ≤ 1 + (x1 + 1) := by omega
theorem la_conditional_26 {x0 x1 x2 : Int} (h0 : x0 = x1) (h1 : x2 ≤ 20) (h2 : x1 ≤ 3 * x2 + 5) : x0 ≤ 100 := by omega
theorem la_conditional_27 {x0 x1 x2 : Int} (h0 : x0 = x1) (h1 : x2 ≤ 20) (h2 : x1 ≤ x2) : x0 ≤ 30 := by omega
theorem la_conditional_28 {x0 x1 x2 x3 x4 x5 x6 x7 x8 x9 x10 x11 x12 : Int} (h0 : x0 = x1) (h1 : x2 = x3) (h2 : x4 = x5) (h3 : x6 = x7) (h4 : x8 + 1 ≤ x9 + 2 * (x10 - x11)) (h5 : 0 ≤ x7) (h6 : x7 ≤ 20) (h7 : x1 ≤ 3 * x7 + 5) (h8 : x9 ≤ 2 * x11) (h9 : x3 ≤ x7) (h10 : x5 ≤ x7) : x12 = 0 → 0 ≤ x6 ∧ x6 ≤ 20 ∧ x0 ≤ 3 * x6 + 5 ∧ x8 ≤ 2 * (x10 + 1) ∧ x2 ≤ x6 ∧ x4 ≤ x6 := by omega
theorem la_conditional_29 {x0 x1 x2 x3 : Int} (h0 : x0 = x1) (h1 : x2 = x3) (h2 : x0 = 30 * (20 - x3) + 24) (h3 : x3 ≤ 20) : 0 ≤ 30 * (20 - x2) + 14 ∧ 30 * (20 - x2) + 14 < x1 := by omega
theorem la_conditional_30 {x0 x1 x2 : Int} (h0 : x0 = x1) (h1 : x2 = 30 * (20 - x1) + 24) (h2 : x1 ≤ 20) : 0 ≤ 30 * (20 - x0) + 14 ∧ 30 * (20 - x0) + 14 + 1 ≤ x2 := by omega
theorem la_conditional_31 {x0 x1 x2 : Int} (h0 : 0 ≤ x0) (h1 : x0 < x1) (h2 : x1 + 1 ≤ x2) : 0 ≤ x2 := by omega
theorem la_conditional_32 {x0 x1 : Int} (h0 : x0 = 30 * (20 - x1) + 24) (h1 : x1 ≤ 20) : 1 + 1 ≤ x0 := by omega
theorem la_conditional_33 {x0 : Int} (h0 : x0 = 1) : 0 ≤ x0 := by omega
theorem la_conditional_34 {x0 : Int} (h0 : 0 ≤ x0) (h1 : ¬ x0 = 0) : 0 < x0 := by omega
theorem la_conditional_35 {x0 : Int} (h0 : x0 = 0) : ¬ 0 < x0 := by omega
theorem la_conditional_36 {x0 x1 x2 x3 : Int} (h0 : 0 ≤ x0) (h1 : x0 < x1) (h2 : x2 = x3 + 1) (h3 : x1 + 1 < x3) : 0 ≤ x2 := by omega
theorem la_conditional_37 {x0 : Int} (h0 : x0 = 0) : 0 ≤ x0 := by omega
theorem la_conditional_38 {x0 x1 x2 : Int} (h0 : 0 ≤ x0) (h1 : x0 ≤ x1) (h2 : x1 ≤ x2) : 0 ≤ x2 := by omega
theorem la_conditional_39 {x0 x1 x2 : Int} (h0 : 0 ≤ x0) (h1 : x1 = x0) (h2 : x2 = x1) : 0 ≤ x2 := by omega
theorem la_conditional_40 {x0 x1 x2 x3 x4 x5 x6 x7 : Int} (h0 : x0 < x1) (h1 : x1 = x2) (h2 : x3 = x0) (h3 : x2 ≤ x4) (h4 : x5 = x3) (h5 : x4 ≤ x6) (h6 : x7 = x6) : x5 < x7 := by omega
theorem la_conditional_41 {x0 x1 x2 : Int} (h0 : x0 ≤ 1 + x1) (h1 : x2 = x1 + 1) : x0 ≤ 1 + x2 := by omega
theorem la_conditional_42 {x0 x1 x2 : Int} (h0 : x0 ≤ 100) (h1 : x1 = x0) (h2 : x2 = x1) : x2 ≤ 100 := by omega
theorem la_conditional_43 {x0 x1 x2 : Int} (h0 : x0 ≤ 30) (h1 : x1 = x0) (h2 : x2 = x1) : x2 ≤ 30 := by omega
theorem la_conditional_44 {x0 x1 x2 x3 x4 x5 x6 x7 x8 x9 x10 x11 x12 x13 x14 x15 x16 x17 x18 x19 : Int} (h0 : x0 = x1) (h1 : x2 = x3) (h2 : x4 = x5) (h3 : x6 = x7) (h4 : x8 + 1 ≤ x9 + 2 * (x10 - x11)) (h5 : 0 ≤ x7) (h6 : x7 ≤ 20) (h7 : x1 ≤ 3 * x7 + 5) (h8 : x9 ≤ 2 * x11) (h9 : x3 ≤ x7) (h10 : x5 ≤ x7) (h11 : x12 = x0) (h12 : x13 = x2) (h13 : x14 = x4) (h14 : x15 = x16 + 1) (h15 : x17 = x6) (h16 : x18 + 1 ≤ x8 + 2 * (x16 - (x10 + 1))) : x19 = 0 → 0 ≤ x17 ∧ x17 ≤ 20 ∧ x12 ≤ 3 * x17 + 5 ∧ x18 ≤ 2 * x15 ∧ x13 ≤ x17 ∧ x14 ≤ x17 := by omega
theorem la_conditional_45 {x0 x1 x2 x3 x4 : Int} (h0 : x0 = x1) (h1 : x2 = x3) (h2 : x0 = 30 * (20 - x3) + 24) (h3 : x3 ≤ 20) (h4 : x4 = x2) : 0 ≤ 30 * (20 - x4) + 14 ∧ 30 * (20 - x4) + 14 < x1 := by omega
theorem la_conditional_46 {x0 x1 x2 x3 : Int} (h0 : x0 = x1) (h1 : x2 = 30 * (20 - x1) + 24) (h2 : x1 ≤ 20) (h3 : x3 = x0) : 0 ≤ 30 * (20 - x3) + 14 ∧ 30 * (20 - x3) + 14 + 1 ≤ x2 := by omega
theorem la_conditional_47 {x0 x1 x2 : Int} (h0 : 0 ≤ x0) (h1 : x0 < x1) (h2 : x1 ≤ x2) : 0 ≤ x2 := by omega
theorem la_conditional_48 {x0 x1 x2 : Int} (h0 : 0 ≤ x0) (h1 : x0 < x1) (h2 : x1 + 1 < x2) : 0 ≤ x2 := by omega
theorem la_conditional_49 {x0 x1 x2 x3 x4 x5 x6 x7 x8 x9 x10 x11 x12 x13 x14 : Int} (h0 : x0 ≤ 4001) (h1 : x1 = x2) (h2 : x3 + 1 ≤ x4 + 2 * (x5 - x6)) (h3 : 0 ≤ x2) (h4 : x4 ≤ 2 * x6) (h5 : x7 = x8 + 1) (h6 : x9 = x1) (h7 : x10 + 1 ≤ x3 + 2 * (x8 - (x5 + 1))) (h8 : x11 < x0) (h9 : 0 ≤ x12) (h10 : x12 = 0 → x13 = x9 ∧ x14 + 1 ≤ x10 + 2 * (x11 - x7)) (h11 : 0 < x12 → x14 ≤ x10 + 2 * (x11 - x7) + 2 * (30 * (20 - x9) + 14)) : x14 < 12000 := by omega
theorem la_conditional_50 {x0 : Int} (h0 : 0 ≤ x0) (h1 : x0 ≤ 20) : sv_R (17 * (20 - x0) + 17) := by omega
theorem la_conditional_51 {x0 : Int} (h0 : 0 ≤ x0) (h1 : x0 ≤ 20) : sv_R (20 - x0) := by omega
theorem la_conditional_52 {x0 x1 x2 x3 x4 : Int} (h0 : x0 < x1) (h1 : x2 = x3 + 1) (h2 : x1 + 1 < x3) (h3 : x2 ≤ x4) : x0 ≤ x4 := by omega
theorem la_conditional_53 {x0 x1 : Int} (h0 : ¬ 0 < x0) : 0 < x0 → 0 < x1 := by omega
theorem la_conditional_54 {x0 x1 x2 x3 : Int} (h0 : x0 ≤ x1) (h1 : x1 ≤ x2) (h2 : x2 ≤ x3) : x0 ≤ x3 := by omega
theorem la_conditional_55 {x0 x1 x2 x3 : Int} (h0 : x0 = 1 → x1 = 1) (h1 : x1 = 1 → x2 = 1) (h2 : x2 = 1 → x3 = 1) : x0 = 1 → x3 = 1 := by omega
theorem la_conditional_56 {x0 x1 x2 : Int} (h0 : x0 = x1) (h1 : 0 ≤ x2) (h2 : x2 < x1) : 0 ≤ x0 := by omega
theorem la_conditional_57 {x0 x1 x2 : Int} (h0 : x0 = x1) (h1 : x2 = x1 + 1) : x0 < x2 := by omega
theorem la_conditional_58 {x0 : Int} : 17 * (20 - x0) + (15 - 0) ≤ 17 * (20 - x0) + 17 - 2 := by omega
theorem la_conditional_59 {x0 x1 x2 x3 : Int} (h0 : x0 ≤ x1) (h1 : x1 ≤ x2) (h2 : x3 = x2 + 1) : x0 ≤ x3 := by omega
theorem la_conditional_60 {x0 x1 : Int} (h0 : x0 = x1) : 17 * (20 - x0) ≤ 17 * (20 - x1) + 17 - 2 := by omega
theorem la_conditional_61 {x0 x1 : Int} (h0 : x0 = x1) : 19 - x0 ≤ 20 - x1 := by omega
theorem la_conditional_62 {x0 x1 x2 : Int} (h0 : x0 ≤ x1) (h1 : x2 = x1 + 1) : x0 ≤ x2 := by omega
theorem la_conditional_63 {x0 x1 x2 : Int} (h0 : x0 = x1) (h1 : x2 = x0) : 17 * (20 - x2) ≤ 17 * (20 - x1) + 17 - 2 := by omega
theorem la_conditional_64 {x0 x1 x2 : Int} (h0 : x0 = x1) (h1 : x2 = x0) : 19 - x2 ≤ 20 - x1 := by omega
theorem la_conditional_65 {x0 x1 : Int} (h0 : x0 = x1 + 1) : x1 ≤ x0 := by omega
theorem la_conditional_66 {x0 x1 x2 : Int} (h0 : x0 ≤ x1) (h1 : x1 ≤ x2) : x0 ≤ x2 := by omega
theorem la_conditional_67 {x0 x1 x2 x3 x4 : Int} (h0 : x0 ≤ x1) (h1 : x1 ≤ x2) (h2 : x2 ≤ x3) (h3 : x4 = x3) : x0 ≤ x4 := by omega
theorem la_conditional_68 {x0 x1 x2 : Int} (h0 : x0 = x1) (h1 : x2 = x0) : x1 ≤ x2 := by omega
theorem la_conditional_69 {x0 x1 : Int} (h0 : x0 = x1) : x1 ≤ x0 := by omega
theorem la_conditional_70 {x0 x1 x2 x3 : Int} (h0 : x0 = x1) (h1 : x2 = x0) (h2 : x3 = x2) : x3 = x1 := by omega
theorem la_conditional_71 {x0 x1 x2 x3 x4 : Int} (h0 : x0 ≤ x1) (h1 : x1 ≤ x2) (h2 : x2 ≤ x3) (h3 : x4 = x3 + 1) : x0 ≤ x4 := by omega
theorem la_conditional_72 {x0 x1 x2 x3 x4 x5 x6 x7 x8 x9 x10 x11 x12 x13 x14 : Int} (h0 : x0 = x1) (h1 : x2 + 1 ≤ x3 + 2 * (x4 - x5)) (h2 : x6 = x7 + 1) (h3 : x8 = x0) (h4 : x9 + 1 ≤ x2 + 2 * (x7 - (x4 + 1))) (h5 : 0 ≤ x10) (h6 : x10 = 0 → x11 = x8 ∧ x12 + 1 ≤ x9 + 2 * (x13 - x6)) (h7 : x14 = x12 + 1) : x10 = 0 → x11 = x1 ∧ x14 + 1 ≤ x3 + 2 * (x13 - x5) := by omega
theorem la_conditional_73 {x0 x1 x2 x3 x4 x5 x6 x7 x8 x9 x10 x11 x12 x13 x14 x15 : Int} (h0 : x0 = x1) (h1 : x2 + 1 ≤ x3 + 2 * (x4 - x5)) (h2 : x6 = 30 * (20 - x1) + 24) (h3 : x1 ≤ 20) (h4 : x7 = x8 + 1) (h5 : x9 = x0) (h6 : x10 + 1 ≤ x2 + 2 * (x8 - (x4 + 1))) (h7 : x11 = 0 → x12 = x9 ∧ x13 + 1 ≤ x10 + 2 * (x14 - x7)) (h8 : 0 < x11 → x13 ≤ x10 + 2 * (x14 - x7) + 2 * (30 * (20 - x9) + 14)) (h9 : x15 = x13 + 1) : 0 < x11 → x15 ≤ x3 + 2 * (x14 - x5) + 2 * x6 := by omega
theorem la_conditional_74 {x0 x1 x2 x3 : Int} (h0 : 0 ≤ x0) (h1 : x0 < x1) (h2 : x1 ≤ x2) (h3 : x3 = x2) : (-1) ≤ x3 := by omega
theorem la_conditional_75 {x0 x1 : Int} (h0 : x0 = x1) : ¬ x0 < x1 := by omega
theorem la_conditional_76 {x0 x1 x2 x3 x4 x5 x6 x7 x8 x9 x10 x11 x12 x13 x14 x15 : Int} (h0 : x0 ≤ 4001) (h1 : x1 = x2) (h2 : x3 + 1 ≤ x4 + 2 * (x5 - x6)) (h3 : 0 ≤ x2) (h4 : x4 ≤ 2 * x6) (h5 : x7 = x8 + 1) (h6 : x9 = x1) (h7 : x10 + 1 ≤ x3 + 2 * (x8 - (x5 + 1))) (h8 : x11 < x0) (h9 : 0 ≤ x12) (h10 : x12 = 0 → x13 = x9 ∧ x14 + 1 ≤ x10 + 2 * (x11 - x7)) (h11 : 0 < x12 → x14 ≤ x10 + 2 * (x11 - x7) + 2 * (30 * (20 - x9) + 14)) (h12 : x15 = x14) : x15 < 12000 := by omega
theorem la_conditional_77 {x0 x1 x2 x3 x4 : Int} (h0 : x0 < x1) (h1 : x2 = x3 + 1) (h2 : x1 + 1 < x3) (h3 : x2 < x4) : x0 < x4 := by omega
theorem la_conditional_78 : (1 : Int) = 1 := by omega
theorem la_conditional_79 {x0 : Int} : 17 * (20 - x0) + 17 ≤ 17 * (20 - x0) + 17 := by omega
theorem la_conditional_80 {x0 : Int} : 20 - x0 ≤ 20 - x0 := by omega
theorem la_conditional_81 {x0 : Int} (h0 : x0 = 14) : ¬ x0 = 2 := by omega
theorem la_conditional_82 {x0 x1 x2 : Int} (h0 : x0 < x1) (h1 : x2 = x0) : x2 < x1 := by omega
theorem la_conditional_83 {x0 x1 x2 x3 : Int} (h0 : x0 < x1) (h1 : x1 ≤ x2) (h2 : x2 ≤ x3) : x0 < x3 := by omega
theorem la_conditional_84 {x0 x1 x2 x3 x4 : Int} (h0 : x0 < x1) (h1 : x1 ≤ x2) (h2 : x2 ≤ x3) (h3 : x4 = x0) : x4 < x3 := by omega
theorem la_conditional_85 {x0 x1 x2 : Int} (h0 : x0 < x1) (h1 : x1 ≤ x2) : x0 < x2 := by omega
theorem la_conditional_86 {x0 x1 x2 x3 : Int} (h0 : x0 < x1) (h1 : x1 ≤ x2) (h2 : x3 = x0) : x3 < x2 := by omega
theorem la_conditional_87 {x0 : Int} : x0 = x0 := by omega
theorem la_conditional_88 {x0 x1 : Int} (h0 : x0 = x1) : x1 = x0 := by omega
theorem la_conditional_89 {x0 x1 : Int} (h0 : x0 = x1) : 5 * x1 = 5 * x0 := by omega
theorem la_conditional_90 {x0 x1 : Int} (h0 : x0 = x1) : 5 * x1 + 1 = 5 * x0 + 1 := by omega
theorem la_conditional_91 {x0 x1 : Int} (h0 : x0 = x1) : 5 * x1 + 2 = 5 * x0 + 2 := by omega
theorem la_conditional_92 {x0 x1 : Int} (h0 : x0 = x1) : 5 * x1 + 3 = 5 * x0 + 3 := by omega
theorem la_conditional_93 {x0 x1 : Int} (h0 : x0 = x1) : 5 * x1 + 4 = 5 * x0 + 4 := by omega
theorem la_conditional_94 {x0 : Int} (h0 : x0 = 14) (h1 : x0 = 7) : False := by omega
theorem la_conditional_95 {x0 : Int} (h0 : ¬ 0 < x0) (h1 : 0 < x0) : False := by omega
theorem la_conditional_96 {x0 x1 x2 x3 x4 x5 x6 : Int} (h0 : ¬ ¬ x0 = 0) : ¬ (x0 = 1 ∧ x1 = 0 ∧ x2 = 0 ∧ x3 = x4 + 1 ∧ x3 < x5 ∧ x6 = 5) := by omega
theorem la_conditional_97 {x0 x1 x2 x3 : Int} (h0 : x0 < x1) (h1 : x1 + 1 ≤ x2) (h2 : x3 = x2) : x0 ≤ x3 := by omega
theorem la_conditional_98 {x0 : Int} (h0 : 0 < x0) : 0 ≤ x0 := by omega
theorem la_conditional_99 {x0 x1 x2 : Int} (h0 : x0 = 1 → x1 = 1) (h1 : x1 = 1 → x2 = 1) : x0 = 1 → x2 = 1 := by omega
theorem la_conditional_100 {x0 x1 x2 : Int} (h0 : x0 = x1) (h1 : x2 = x0) : x2 = x1 := by omega
theorem la_conditional_101 {x0 x1 x2 : Int} (h0 : x0 ≤ 1 + x1) (h1 : x2 = x1) : x0 ≤ 1 + x2 := by omega
theorem la_conditional_102 {x0 x1 x2 x3 x4 x5 x6 : Int} (h0 : 0 < x0) : x0 = 0 → x1 = x2 ∧ x3 + 1 ≤ x4 + 2 * (x5 - x6) := by omega
theorem la_conditional_103 {x0 x1 x2 x3 x4 x5 x6 x7 x8 x9 x10 x11 x12 : Int} (h0 : x0 = x1) (h1 : x2 + 1 ≤ x3 + 2 * (x4 - x5)) (h2 : x6 = 30 * (20 - x1) + 24) (h3 : x1 ≤ 20) (h4 : 0 ≤ x7) (h5 : x7 = 0 → x8 = x0 ∧ x9 + 1 ≤ x2 + 2 * (x10 - (x4 + 1))) (h6 : 0 < x7 → x9 ≤ x2 + 2 * (x10 - (x4 + 1)) + 2 * (30 * (20 - x0) + 14)) (h7 : x11 = x10) : 0 < x12 → x9 ≤ x3 + 2 * (x11 - x5) + 2 * x6 := by omega
theorem la_conditional_104 : ((-1) : Int) ≤ (-1) := by omega
theorem la_conditional_105 : ((-1) : Int) < 12000 := by omega
theorem la_conditional_106 {x0 x1 x2 x3 : Int} (h0 : x0 < x1) (h1 : x1 + 1 ≤ x2) (h2 : x3 = x2) : x0 < x3 := by omega
theorem la_conditional_107 {x0 x1 x2 x3 x4 x5 : Int} (h0 : ¬ 0 < x0) : 0 < x0 → x1 ≤ x2 + 2 * (x3 - x4) + 2 * x5 := by omega
theorem la_conditional_108 {x0 : Int} : 17 * (20 - x0) + (15 - 0) ≤ 17 * (20 - x0) + 17 := by omega
set_option maxHeartbeats 8000000 in
theorem f_conditional : ∀ (d : Int) (p1 : Int) (S : sv_S), sm_ok S → (0 ≤ p1 ∧ p1 ≤ 1) → (0 ≤ (S 1020 0) ∧ (S 1020 0) < (S 1012 0) ∧ sm_TK (S 6) (S 8) (S 9) (S 10) (S 1012 0) ∧ 0 ≤ (S 1021 0) ∧ 0 ≤ (S 1004 0) ∧ (S 1004 0) ≤ 4000 ∧ 0 ≤ (S 1007 0) ∧ (S 1007 0) ≤ 90 ∧ sm_LN (S 4) (S 1007 0) ∧ ((S 1021 0) = 0 → sm_WF (S 11) (S 12) (S 13) (S 1100001) (S 1100002) (S 1100005) (S 1100003) (S 1100004) (S 1024 0) (S 1007 0) (S 1009 0) (S 1032 0)) ∧ sm_HD (S 23) (S 24) (S 1100018 0) (S 1007 0) ∧ sm_HD (S 25) (fun _ : Int => (S 1042 0)) 1 (S 1007 0) ∧ 0 ≤ (S 1043 0) ∧ (S 1043 0) < (S 1100018 0) ∧ (S 1100018 0) = (S 1032 0) ∧ (S 1032 0) ≤ 1 + (S 1020 0) ∧ 0 ≤ (S 1031 0) ∧ (S 1031 0) ≤ 100 ∧ 0 ≤ (S 1044 0) ∧ (S 1044 0) ≤ 30 ∧ 0 ≤ (S 1045 0) ∧ (S 1045 0) ≤ 30 ∧ 0 ≤ (S 1024 0) ∧ ((S 1021 0) = 0 → 0 ≤ (S 1023 0) ∧ (S 1023 0) ≤ 20 ∧ (S 1031 0) ≤ 3 * (S 1023 0) + 5 ∧ (S 1024 0) ≤ 2 * (S 1020 0) ∧ (S 1044 0) ≤ (S 1023 0) ∧ (S 1045 0) ≤ (S 1023 0))) → ((if 0 < (S 1021 0) then 11 else 30 * (20 - (S 1023 0)) + 24)) = d → (0 ≤ p1 ∧ p1 ≤ 1) ∧ (0 ≤ (S 1020 0) ∧ (S 1020 0) < (S 1012 0) ∧ sm_TK (S 6) (S 8) (S 9) (S 10) (S 1012 0) ∧ 0 ≤ (S 1021 0) ∧ 0 ≤ (S 1004 0) ∧ (S 1004 0) ≤ 4000 ∧ 0 ≤ (S 1007 0) ∧ (S 1007 0) ≤ 90 ∧ sm_LN (S 4) (S 1007 0) ∧ ((S 1021 0) = 0 → sm_WF (S 11) (S 12) (S 13) (S 1100001) (S 1100002) (S 1100005) (S 1100003) (S 1100004) (S 1024 0) (S 1007 0) (S 1009 0) (S 1032 0)) ∧ sm_HD (S 23) (S 24) (S 1100018 0) (S 1007 0) ∧ sm_HD (S 25) (fun _ : Int => (S 1042 0)) 1 (S 1007 0) ∧ 0 ≤ (S 1043 0) ∧ (S 1043 0) < (S 1100018 0) ∧ (S 1100018 0) = (S 1032 0) ∧ (S 1032 0) ≤ 1 + (S 1020 0) ∧ 0 ≤ (S 1031 0) ∧ (S 1031 0) ≤ 100 ∧ 0 ≤ (S 1044 0) ∧ (S 1044 0) ≤ 30 ∧ 0 ≤ (S 1045 0) ∧ (S 1045 0) ≤ 30 ∧ 0 ≤ (S 1024 0) ∧ ((S 1021 0) = 0 → 0 ≤ (S 1023 0) ∧ (S 1023 0) ≤ 20 ∧ (S 1031 0) ≤ 3 * (S 1023 0) + 5 ∧ (S 1024 0) ≤ 2 * (S 1020 0) ∧ (S 1044 0) ≤ (S 1023 0) ∧ (S 1045 0) ≤ (S 1023 0)) ∧ 0 ≤ (0 : Int) ∧ (0 : Int) ≤ 10) ∧ (0 ≤ ((if 0 < (S 1021 0) then 10 else 30 * (20 - (S 1023 0)) + (23 - (0 : Int)))) ∧ ((if 0 < (S 1021 0) then 10 else 30 * (20 - (S 1023 0)) + (23 - (0 : Int)))) < d) ∧ (0 ≤ ((if 0 < (S 1021 0) then 10 else 30 * (20 - (S 1023 0)) + (23 - (0 : Int)))) ∧ ((if 0 < (S 1021 0) then 10 else 30 * (20 - (S 1023 0)) + (23 - (0 : Int)))) + 1 ≤ ((if 0 < (S 1021 0) then 11 else 30 * (20 - (S 1023 0)) + 24))) ∧ (∀ r9 : Int, sv_R r9 → ∀ g5 : sv_S, ((S 1020 0) ≤ (g5 1020 0) ∧ (g5 1020 0) < (S 1012 0) ∧ 0 ≤ (g5 1021 0) ∧ (0 < (S 1021 0) → 0 < (g5 1021 0)) ∧ (S 1007 0) ≤ (g5 1007 0) ∧ (g5 1007 0) ≤ 90 ∧ sm_LN (g5 4) (g5 1007 0) ∧ ((S 1009 0) = 1 → (g5 1009 0) = 1) ∧ ((g5 1021 0) = 0 → sm_WF (g5 11) (g5 12) (g5 13) (g5 1100001) (g5 1100002) (g5 1100005) (g5 1100003) (g5 1100004) (g5 1024 0) (g5 1007 0) (g5 1009 0) (g5 1032 0) ∧ sm_PX (S 11) (S 12) (S 13) (S 1100001) (S 1100002) (S 1100005) (S 1100003) (S 1100004) (g5 11) (g5 12) (g5 13) (g5 1100001) (g5 1100002) (g5 1100005) (g5 1100003) (g5 1100004) (S 1024 0)) ∧ sm_KL (S 15) (S 16) (g5 15) (g5 16) (S 1031 0) ∧ sm_HD (g5 23) (g5 24) (g5 1100018 0) (g5 1007 0) ∧ sm_HD (g5 25) (fun _ : Int => (g5 1042 0)) 1 (g5 1007 0) ∧ (g5 1031 0) = (S 1031 0) ∧ (g5 1043 0) = (S 1043 0) ∧ (g5 1044 0) = (S 1044 0) ∧ (g5 1045 0) = (S 1045 0) ∧ (S 1032 0) ≤ (g5 1032 0) ∧ (g5 1032 0) ≤ 1 + (g5 1020 0) ∧ (g5 1100018 0) = (g5 1032 0) ∧ (S 1024 0) ≤ (g5 1024 0) ∧ ((g5 1021 0) = 0 → (g5 1023 0) = (S 1023 0) ∧ (g5 1024 0) + 1 ≤ (S 1024 0) + 2 * ((g5 1020 0) - (S 1020 0))) ∧ (0 < (g5 1021 0) → (g5 1024 0) ≤ (S 1024 0) + 2 * ((g5 1020 0) - (S 1020 0)) + 2 * ((if 0 < (S 1021 0) then 10 else 30 * (20 - (S 1023 0)) + (23 - (0 : Int))))) ∧ -1 ≤ r9 ∧ r9 < 12000 ∧ ((g5 1021 0) = 0 → (S 1020 0) < (g5 1020 0) ∧ 1 ≤ (S 6 (S 1020 0)) ∧ sm_ex (g5 1100001) (g5 1100002) (g5 1100005) (g5 1024 0) 1 r9 (17 * (20 - (S 1023 0)) + (15 - (0 : Int))) (20 - (S 1023 0)) ∧ ((g5 11 r9) = 2 ∨ (g5 11 r9) = 7 → (g5 1100002 r9) ≤ 17 * (20 - (S 1023 0)) + 2)) ∧ (0 < (S 1021 0) → (g5 1020 0) = (S 1020 0) ∧ (g5 1024 0) = (S 1024 0))) → (sv_R (g5 1021 0) → ((((0 : Int) < (g5 1021 0)) → ((S 1020 0) ≤ (g5 1020 0) ∧ (g5 1020 0) < (S 1012 0) ∧ 0 ≤ (g5 1021 0) ∧ (0 < (S 1021 0) → 0 < (g5 1021 0)) ∧ (S 1007 0) ≤ (g5 1007 0) ∧ (g5 1007 0) ≤ 90 ∧ sm_LN (g5 4) (g5 1007 0) ∧ ((S 1009 0) = 1 → (g5 1009 0) = 1) ∧ ((g5 1021 0) = 0 → sm_WF (g5 11) (g5 12) (g5 13) (g5 1100001) (g5 1100002) (g5 1100005) (g5 1100003) (g5 1100004) (g5 1024 0) (g5 1007 0) (g5 1009 0) (g5 1032 0) ∧ sm_PX (S 11) (S 12) (S 13) (S 1100001) (S 1100002) (S 1100005) (S 1100003) (S 1100004) (g5 11) (g5 12) (g5 13) (g5 1100001) (g5 1100002) (g5 1100005) (g5 1100003) (g5 1100004) (S 1024 0)) ∧ sm_KL (S 15) (S 16) (g5 15) (g5 16) (S 1031 0) ∧ sm_HD (g5 23) (g5 24) (g5 1100018 0) (g5 1007 0) ∧ sm_HD (g5 25) (fun _ : Int => (g5 1042 0)) 1 (g5 1007 0) ∧ (g5 1031 0) = (S 1031 0) ∧ (g5 1043 0) = (S 1043 0) ∧ (g5 1044 0) = (S 1044 0) ∧ (g5 1045 0) = (S 1045 0) ∧ (S 1032 0) ≤ (g5 1032 0) ∧ (g5 1032 0) ≤ 1 + (g5 1020 0) ∧ (g5 1100018 0) = (g5 1032 0) ∧ (S 1024 0) ≤ (g5 1024 0) ∧ ((g5 1021 0) = 0 → (g5 1023 0) = (S 1023 0) ∧ (g5 1024 0) + 1 ≤ (S 1024 0) + 2 * ((g5 1020 0) - (S 1020 0))) ∧ (0 < (g5 1021 0) → (g5 1024 0) ≤ (S 1024 0) + 2 * ((g5 1020 0) - (S 1020 0)) + 2 * ((if 0 < (S 1021 0) then 11 else 30 * (20 - (S 1023 0)) + 24))) ∧ -1 ≤ r9 ∧ r9 < 12000 ∧ ((g5 1021 0) = 0 → (S 1020 0) < (g5 1020 0) ∧ 1 ≤ (S 6 (S 1020 0)) ∧ sm_ex (g5 1100001) (g5 1100002) (g5 1100005) (g5 1024 0) 1 r9 (17 * (20 - (S 1023 0)) + 17) (20 - (S 1023 0)) ∧ ((g5 11 r9) = 2 ∨ (g5 11 r9) = 7 → (g5 1100002 r9) ≤ 17 * (20 - (S 1023 0)) + 2)) ∧ (0 < (S 1021 0) → (g5 1020 0) = (S 1020 0) ∧ (g5 1024 0) = (S 1024 0)))) ∧ ((¬ ((0 : Int) < (g5 1021 0))) → (0 ≤ (g5 1020 0) ∧ (g5 1020 0) ≤ 4000) ∧ (0 + 1 ≤ ((if 0 < (S 1021 0) then 11 else 30 * (20 - (S 1023 0)) + 24))) ∧ ((((S 6 (g5 1020 0)) = 5 ∧ (S 7 (g5 1020 0)) = (45 : Int)) → (sv_R (g5 1020 0) → (sv_R ((g5 1020 0) + (1 : Int))) ∧ (0 ≤ ((g5 1020 0) + (1 : Int)) ∧ ((g5 1020 0) + (1 : Int)) < (S 1012 0) ∧ sm_TK (S 6) (S 8) (S 9) (S 10) (S 1012 0) ∧ 0 ≤ (g5 1021 0) ∧ 0 ≤ (S 1004 0) ∧ (S 1004 0) ≤ 4000 ∧ 0 ≤ (g5 1007 0) ∧ (g5 1007 0) ≤ 90 ∧ sm_LN (g5 4) (g5 1007 0) ∧ ((g5 1021 0) = 0 → sm_WF (g5 11) (g5 12) (g5 13) (g5 1100001) (g5 1100002) (g5 1100005) (g5 1100003) (g5 1100004) (g5 1024 0) (g5 1007 0) (g5 1009 0) (g5 1032 0)) ∧ sm_HD (g5 23) (g5 24) (g5 1100018 0) (g5 1007 0) ∧ sm_HD (g5 25) (fun _ : Int => (g5 1042 0)) 1 (g5 1007 0) ∧ 0 ≤ (g5 1043 0) ∧ (g5 1043 0) < (g5 1100018 0) ∧ (g5 1100018 0) = (g5 1032 0) ∧ (g5 1032 0) ≤ 1 + ((g5 1020 0) + (1 : Int)) ∧ 0 ≤ (g5 1031 0) ∧ (g5 1031 0) ≤ 100 ∧ 0 ≤ (g5 1044 0) ∧ (g5 1044 0) ≤ 30 ∧ 0 ≤ (g5 1045 0) ∧ (g5 1045 0) ≤ 30 ∧ 0 ≤ (g5 1024 0) ∧ ((g5 1021 0) = 0 → 0 ≤ (g5 1023 0) ∧ (g5 1023 0) ≤ 20 ∧ (g5 1031 0) ≤ 3 * (g5 1023 0) + 5 ∧ (g5 1024 0) ≤ 2 * ((g5 1020 0) + (1 : Int)) ∧ (g5 1044 0) ≤ (g5 1023 0) ∧ (g5 1045 0) ≤ (g5 1023 0)) ∧ (g5 1021 0) = 0) ∧ (0 ≤ (30 * (20 - (g5 1023 0)) + 14) ∧ (30 * (20 - (g5 1023 0)) + 14) < d) ∧ (0 ≤ (30 * (20 - (g5 1023 0)) + 14) ∧ (30 * (20 - (g5 1023 0)) + 14) + 1 ≤ ((if 0 < (S 1021 0) then 11 else 30 * (20 - (S 1023 0)) + 24))) ∧ (∀ r25 : Int, sv_R r25 → ∀ g21 : sv_S, (((g5 1020 0) + (1 : Int)) ≤ (g21 1020 0) ∧ (g21 1020 0) < (S 1012 0) ∧ 0 ≤ (g21 1021 0) ∧ (0 < (g5 1021 0) → 0 < (g21 1021 0)) ∧ (g5 1007 0) ≤ (g21 1007 0) ∧ (g21 1007 0) ≤ 90 ∧ sm_LN (g21 4) (g21 1007 0) ∧ ((g5 1009 0) = 1 → (g21 1009 0) = 1) ∧ ((g21 1021 0) = 0 → sm_WF (g21 11) (g21 12) (g21 13) (g21 1100001) (g21 1100002) (g21 1100005) (g21 1100003) (g21 1100004) (g21 1024 0) (g21 1007 0) (g21 1009 0) (g21 1032 0) ∧ sm_PX (g5 11) (g5 12) (g5 13) (g5 1100001) (g5 1100002) (g5 1100005) (g5 1100003) (g5 1100004) (g21 11) (g21 12) (g21 13) (g21 1100001) (g21 1100002) (g21 1100005) (g21 1100003) (g21 1100004) (g5 1024 0)) ∧ sm_KL (g5 15) (g5 16) (g21 15) (g21 16) (g5 1031 0) ∧ sm_HD (g21 23) (g21 24) (g21 1100018 0) (g21 1007 0) ∧ sm_HD (g21 25) (fun _ : Int => (g21 1042 0)) 1 (g21 1007 0) ∧ (g21 1031 0) = (g5 1031 0) ∧ (g21 1043 0) = (g5 1043 0) ∧ (g21 1044 0) = (g5 1044 0) ∧ (g21 1045 0) = (g5 1045 0) ∧ (g5 1032 0) ≤ (g21 1032 0) ∧ (g21 1032 0) ≤ 1 + (g21 1020 0) ∧ (g21 1100018 0) = (g21 1032 0) ∧ (g5 1024 0) ≤ (g21 1024 0) ∧ ((g21 1021 0) = 0 → (g21 1023 0) = (g5 1023 0) ∧ (g21 1024 0) + 1 ≤ (g5 1024 0) + 2 * ((g21 1020 0) - ((g5 1020 0) + (1 : Int)))) ∧ (0 < (g21 1021 0) → (g21 1024 0) ≤ (g5 1024 0) + 2 * ((g21 1020 0) - ((g5 1020 0) + (1 : Int))) + 2 * (30 * (20 - (g5 1023 0)) + 14)) ∧ -1 ≤ r25 ∧ r25 < 12000 ∧ ((g21 1021 0) = 0 → sm_ex (g21 1100001) (g21 1100002) (g21 1100005) (g21 1024 0) 1 r25 (17 * (20 - (g5 1023 0))) (19 - (g5 1023 0)) ∧ ((g5 1020 0) + (1 : Int)) < (g21 1020 0))) → (0 ≤ (g21 1020 0) ∧ (g21 1020 0) < (S 1012 0) ∧ sm_TK (S 6) (S 8) (S 9) (S 10) (S 1012 0) ∧ 0 ≤ (g21 1021 0)) ∧ (1 + 1 ≤ ((if 0 < (S 1021 0) then 11 else 30 * (20 - (S 1023 0)) + 24))) ∧ (∀ r33 : Int, sv_R r33 → ∀ g29 : sv_S, ((r33 = 0 ∧ 0 < (g29 1021 0) ∧ (g29 1020 0) = (g21 1020 0)) ∨ (r33 = 1 ∧ (g29 1021 0) = 0 ∧ (g21 1021 0) = 0 ∧ (g29 1020 0) = (g21 1020 0) + 1 ∧ (g29 1020 0) < (S 1012 0) ∧ (S 6 (g21 1020 0)) = 5)) → (((¬ r33 = (0 : Int)) → (0 ≤ (g29 1020 0) ∧ (g29 1020 0) < (S 1012 0) ∧ sm_TK (S 6) (S 8) (S 9) (S 10) (S 1012 0) ∧ 0 ≤ (g29 1021 0) ∧ 0 ≤ (S 1004 0) ∧ (S 1004 0) ≤ 4000 ∧ 0 ≤ (g21 1007 0) ∧ (g21 1007 0) ≤ 90 ∧ sm_LN (g21 4) (g21 1007 0) ∧ ((g29 1021 0) = 0 → sm_WF (g21 11) (g21 12) (g21 13) (g21 1100001) (g21 1100002) (g21 1100005) (g21 1100003) (g21 1100004) (g21 1024 0) (g21 1007 0) (g21 1009 0) (g21 1032 0)) ∧ sm_HD (g21 23) (g21 24) (g21 1100018 0) (g21 1007 0) ∧ sm_HD (g21 25) (fun _ : Int => (g21 1042 0)) 1 (g21 1007 0) ∧ 0 ≤ (g21 1043 0) ∧ (g21 1043 0) < (g21 1100018 0) ∧ (g21 1100018 0) = (g21 1032 0) ∧ (g21 1032 0) ≤ 1 + (g29 1020 0) ∧ 0 ≤ (g21 1031 0) ∧ (g21 1031 0) ≤ 100 ∧ 0 ≤ (g21 1044 0) ∧ (g21 1044 0) ≤ 30 ∧ 0 ≤ (g21 1045 0) ∧ (g21 1045 0) ≤ 30 ∧ 0 ≤ (g21 1024 0) ∧ ((g29 1021 0) = 0 → 0 ≤ (g21 1023 0) ∧ (g21 1023 0) ≤ 20 ∧ (g21 1031 0) ≤ 3 * (g21 1023 0) + 5 ∧ (g21 1024 0) ≤ 2 * (g29 1020 0) ∧ (g21 1044 0) ≤ (g21 1023 0) ∧ (g21 1045 0) ≤ (g21 1023 0)) ∧ (g29 1021 0) = 0) ∧ (0 ≤ (30 * (20 - (g21 1023 0)) + 14) ∧ (30 * (20 - (g21 1023 0)) + 14) < d) ∧ (0 ≤ (30 * (20 - (g21 1023 0)) + 14) ∧ (30 * (20 - (g21 1023 0)) + 14) + 1 ≤ ((if 0 < (S 1021 0) then 11 else 30 * (20 - (S 1023 0)) + 24))) ∧ (∀ r42 : Int, sv_R r42 → ∀ g38 : sv_S, ((g29 1020 0) ≤ (g38 1020 0) ∧ (g38 1020 0) < (S 1012 0) ∧ 0 ≤ (g38 1021 0) ∧ (0 < (g29 1021 0) → 0 < (g38 1021 0)) ∧ (g21 1007 0) ≤ (g38 1007 0) ∧ (g38 1007 0) ≤ 90 ∧ sm_LN (g38 4) (g38 1007 0) ∧ ((g21 1009 0) = 1 → (g38 1009 0) = 1) ∧ ((g38 1021 0) = 0 → sm_WF (g38 11) (g38 12) (g38 13) (g38 1100001) (g38 1100002) (g38 1100005) (g38 1100003) (g38 1100004) (g38 1024 0) (g38 1007 0) (g38 1009 0) (g38 1032 0) ∧ sm_PX (g21 11) (g21 12) (g21 13) (g21 1100001) (g21 1100002) (g21 1100005) (g21 1100003) (g21 1100004) (g38 11) (g38 12) (g38 13) (g38 1100001) (g38 1100002) (g38 1100005) (g38 1100003) (g38 1100004) (g21 1024 0)) ∧ sm_KL (g21 15) (g21 16) (g38 15) (g38 16) (g21 1031 0) ∧ sm_HD (g38 23) (g38 24) (g38 1100018 0) (g38 1007 0) ∧ sm_HD (g38 25) (fun _ : Int => (g38 1042 0)) 1 (g38 1007 0) ∧ (g38 1031 0) = (g21 1031 0) ∧ (g38 1043 0) = (g21 1043 0) ∧ (g38 1044 0) = (g21 1044 0) ∧ (g38 1045 0) = (g21 1045 0) ∧ (g21 1032 0) ≤ (g38 1032 0) ∧ (g38 1032 0) ≤ 1 + (g38 1020 0) ∧ (g38 1100018 0) = (g38 1032 0) ∧ (g21 1024 0) ≤ (g38 1024 0) ∧ ((g38 1021 0) = 0 → (g38 1023 0) = (g21 1023 0) ∧ (g38 1024 0) + 1 ≤ (g21 1024 0) + 2 * ((g38 1020 0) - (g29 1020 0))) ∧ (0 < (g38 1021 0) → (g38 1024 0) ≤ (g21 1024 0) + 2 * ((g38 1020 0) - (g29 1020 0)) + 2 * (30 * (20 - (g21 1023 0)) + 14)) ∧ -1 ≤ r42 ∧ r42 < 12000 ∧ ((g38 1021 0) = 0 → sm_ex (g38 1100001) (g38 1100002) (g38 1100005) (g38 1024 0) 1 r42 (17 * (20 - (g21 1023 0))) (19 - (g21 1023 0)) ∧ (g29 1020 0) < (g38 1020 0))) → (0 ≤ (g38 1024 0) ∧ (g38 1024 0) < 12000) ∧ (∀ r49 : Int, sv_R r49 → ∀ g45 : sv_S, (r49 = (g38 1024 0) ∧ (g45 1024 0) = (g38 1024 0) + 1 ∧ (g45 11 r49) = (14 : Int) ∧ (g45 12 (5 * r49)) = r9 ∧ (g45 12 (5 * r49 + 1)) = r25 ∧ (g45 12 (5 * r49 + 2)) = r42 ∧ (g45 12 (5 * r49 + 3)) = -1 ∧ (g45 12 (5 * r49 + 4)) = -1 ∧ (g45 13 r49) = -1 ∧ (g45 14 r49) = 0 ∧ (∀ n : Int, n < (g38 1024 0) → (g45 14 n) = (g38 14 n)) ∧ (sm_WF (g38 11) (g38 12) (g38 13) (g38 1100001) (g38 1100002) (g38 1100005) (g38 1100003) (g38 1100004) (g38 1024 0) (g38 1007 0) (g38 1009 0) (g38 1032 0) → sm_WF (g45 11) (g45 12) (g45 13) (g38 1100001) (g38 1100002) (g38 1100005) (g38 1100003) (g38 1100004) (g45 1024 0) (g38 1007 0) (g38 1009 0) (g38 1032 0) ∧ (g38 1100001 r49) = 0) ∧ sm_PX (g38 11) (g38 12) (g38 13) (g38 1100001) (g38 1100002) (g38 1100005) (g38 1100003) (g38 1100004) (g45 11) (g45 12) (g45 13) (g38 1100001) (g38 1100002) (g38 1100005) (g38 1100003) (g38 1100004) (g38 1024 0)) → (sv_R ((17 * (20 - (S 1023 0)) + 17))) ∧ (sv_R ((20 - (S 1023 0)))) ∧ (((g38 1021 0) = 0 → sm_WF (g45 11) (g45 12) (g45 13) (g38 1100001) (g38 1100002) (g38 1100005) (g38 1100003) (g38 1100004) (g45 1024 0) (g38 1007 0) (g38 1009 0) (g38 1032 0) → (g38 1100001 r49) = 0 → 0 ≤ r49 → r49 < (g45 1024 0) → (g45 13 r49) = -1 → (g45 11 r49) = 14 → (sm_ex (g38 1100001) (g38 1100002) (g38 1100005) (g45 1024 0) 1 (g45 12 (5 * r49)) ((17 * (20 - (S 1023 0)) + 17) - 2) (20 - (S 1023 0))) → (sm_ex (g38 1100001) (g38 1100002) (g38 1100005) (g45 1024 0) 1 (g45 12 (5 * r49 + 1)) ((17 * (20 - (S 1023 0)) + 17) - 2) (20 - (S 1023 0))) → (sm_ex (g38 1100001) (g38 1100002) (g38 1100005) (g45 1024 0) 1 (g45 12 (5 * r49 + 2)) ((17 * (20 - (S 1023 0)) + 17) - 2) (20 - (S 1023 0))) → sm_WF (g45 11) (g45 12) (g45 13) (fun i' : Int => if i' = r49 then (1 : Int) else (g38 1100001) i') (fun i' : Int => if i' = r49 then ((17 * (20 - (S 1023 0)) + 17)) else (g38 1100002) i') (fun i' : Int => if i' = r49 then ((20 - (S 1023 0))) else (g38 1100005) i') (fun i' : Int => if i' = r49 then (0 : Int) else (g38 1100003) i') (fun i' : Int => if i' = r49 then (0 : Int) else (g38 1100004) i') (g45 1024 0) (g38 1007 0) (g38 1009 0) (g38 1032 0)) → ((S 1020 0) ≤ (g38 1020 0) ∧ (g38 1020 0) < (S 1012 0) ∧ 0 ≤ (g38 1021 0) ∧ (0 < (S 1021 0) → 0 < (g38 1021 0)) ∧ (S 1007 0) ≤ (g38 1007 0) ∧ (g38 1007 0) ≤ 90 ∧ sm_LN (g38 4) (g38 1007 0) ∧ ((S 1009 0) = 1 → (g38 1009 0) = 1) ∧ ((g38 1021 0) = 0 → sm_WF (g45 11) (g45 12) (g45 13) (fun i' : Int => if i' = r49 then (1 : Int) else (g38 1100001) i') (fun i' : Int => if i' = r49 then ((17 * (20 - (S 1023 0)) + 17)) else (g38 1100002) i') (fun i' : Int => if i' = r49 then ((20 - (S 1023 0))) else (g38 1100005) i') (fun i' : Int => if i' = r49 then (0 : Int) else (g38 1100003) i') (fun i' : Int => if i' = r49 then (0 : Int) else (g38 1100004) i') (g45 1024 0) (g38 1007 0) (g38 1009 0) (g38 1032 0) ∧ sm_PX (S 11) (S 12) (S 13) (S 1100001) (S 1100002) (S 1100005) (S 1100003) (S 1100004) (g45 11) (g45 12) (g45 13) (fun i' : Int => if i' = r49 then (1 : Int) else (g38 1100001) i') (fun i' : Int => if i' = r49 then ((17 * (20 - (S 1023 0)) + 17)) else (g38 1100002) i') (fun i' : Int => if i' = r49 then ((20 - (S 1023 0))) else (g38 1100005) i') (fun i' : Int => if i' = r49 then (0 : Int) else (g38 1100003) i') (fun i' : Int => if i' = r49 then (0 : Int) else (g38 1100004) i') (S 1024 0)) ∧ sm_KL (S 15) (S 16) (g38 15) (g38 16) (S 1031 0) ∧ sm_HD (g38 23) (g38 24) (g38 1100018 0) (g38 1007 0) ∧ sm_HD (g38 25) (fun _ : Int => (g38 1042 0)) 1 (g38 1007 0) ∧ (g38 1031 0) = (S 1031 0) ∧ (g38 1043 0) = (S 1043 0) ∧ (g38 1044 0) = (S 1044 0) ∧ (g38 1045 0) = (S 1045 0) ∧ (S 1032 0) ≤ (g38 1032 0) ∧ (g38 1032 0) ≤ 1 + (g38 1020 0) ∧ (g38 1100018 0) = (g38 1032 0) ∧ (S 1024 0) ≤ (g45 1024 0) ∧ ((g38 1021 0) = 0 → (g38 1023 0) = (S 1023 0) ∧ (g45 1024 0) + 1 ≤ (S 1024 0) + 2 * ((g38 1020 0) - (S 1020 0))) ∧ (0 < (g38 1021 0) → (g45 1024 0) ≤ (S 1024 0) + 2 * ((g38 1020 0) - (S 1020 0)) + 2 * ((if 0 < (S 1021 0) then 11 else 30 * (20 - (S 1023 0)) + 24))) ∧ -1 ≤ r49 ∧ r49 < 12000 ∧ ((g38 1021 0) = 0 → (S 1020 0) < (g38 1020 0) ∧ 1 ≤ (S 6 (S 1020 0)) ∧ sm_ex (fun i' : Int => if i' = r49 then (1 : Int) else (g38 1100001) i') (fun i' : Int => if i' = r49 then ((17 * (20 - (S 1023 0)) + 17)) else (g38 1100002) i') (fun i' : Int => if i' = r49 then ((20 - (S 1023 0))) else (g38 1100005) i') (g45 1024 0) 1 r49 (17 * (20 - (S 1023 0)) + 17) (20 - (S 1023 0)) ∧ ((g45 11 r49) = 2 ∨ (g45 11 r49) = 7 → (if r49 = r49 then ((17 * (20 - (S 1023 0)) + 17)) else (g38 1100002 r49)) ≤ 17 * (20 - (S 1023 0)) + 2)) ∧ (0 < (S 1021 0) → (g38 1020 0) = (S 1020 0) ∧ (g45 1024 0) = (S 1024 0))))))) ∧ ((¬ (¬ r33 = (0 : Int))) → ((S 1020 0) ≤ (g29 1020 0) ∧ (g29 1020 0) < (S 1012 0) ∧ 0 ≤ (g29 1021 0) ∧ (0 < (S 1021 0) → 0 < (g29 1021 0)) ∧ (S 1007 0) ≤ (g21 1007 0) ∧ (g21 1007 0) ≤ 90 ∧ sm_LN (g21 4) (g21 1007 0) ∧ ((S 1009 0) = 1 → (g21 1009 0) = 1) ∧ ((g29 1021 0) = 0 → sm_WF (g21 11) (g21 12) (g21 13) (g21 1100001) (g21 1100002) (g21 1100005) (g21 1100003) (g21 1100004) (g21 1024 0) (g21 1007 0) (g21 1009 0) (g21 1032 0) ∧ sm_PX (S 11) (S 12) (S 13) (S 1100001) (S 1100002) (S 1100005) (S 1100003) (S 1100004) (g21 11) (g21 12) (g21 13) (g21 1100001) (g21 1100002) (g21 1100005) (g21 1100003) (g21 1100004) (S 1024 0)) ∧ sm_KL (S 15) (S 16) (g21 15) (g21 16) (S 1031 0) ∧ sm_HD (g21 23) (g21 24) (g21 1100018 0) (g21 1007 0) ∧ sm_HD (g21 25) (fun _ : Int => (g21 1042 0)) 1 (g21 1007 0) ∧ (g21 1031 0) = (S 1031 0) ∧ (g21 1043 0) = (S 1043 0) ∧ (g21 1044 0) = (S 1044 0) ∧ (g21 1045 0) = (S 1045 0) ∧ (S 1032 0) ≤ (g21 1032 0) ∧ (g21 1032 0) ≤ 1 + (g29 1020 0) ∧ (g21 1100018 0) = (g21 1032 0) ∧ (S 1024 0) ≤ (g21 1024 0) ∧ ((g29 1021 0) = 0 → (g21 1023 0) = (S 1023 0) ∧ (g21 1024 0) + 1 ≤ (S 1024 0) + 2 * ((g29 1020 0) - (S 1020 0))) ∧ (0 < (g29 1021 0) → (g21 1024 0) ≤ (S 1024 0) + 2 * ((g29 1020 0) - (S 1020 0)) + 2 * ((if 0 < (S 1021 0) then 11 else 30 * (20 - (S 1023 0)) + 24))) ∧ -1 ≤ (-1 : Int) ∧ (-1 : Int) < 12000 ∧ ((g29 1021 0) = 0 → (S 1020 0) < (g29 1020 0) ∧ 1 ≤ (S 6 (S 1020 0)) ∧ sm_ex (g21 1100001) (g21 1100002) (g21 1100005) (g21 1024 0) 1 (-1 : Int) (17 * (20 - (S 1023 0)) + 17) (20 - (S 1023 0)) ∧ ((g21 11 (-1 : Int)) = 2 ∨ (g21 11 (-1 : Int)) = 7 → (g21 1100002 (-1 : Int)) ≤ 17 * (20 - (S 1023 0)) + 2)) ∧ (0 < (S 1021 0) → (g29 1020 0) = (S 1020 0) ∧ (g21 1024 0) = (S 1024 0))))))))) ∧ ((¬ ((S 6 (g5 1020 0)) = 5 ∧ (S 7 (g5 1020 0)) = (45 : Int))) → ((S 1020 0) ≤ (g5 1020 0) ∧ (g5 1020 0) < (S 1012 0) ∧ 0 ≤ (g5 1021 0) ∧ (0 < (S 1021 0) → 0 < (g5 1021 0)) ∧ (S 1007 0) ≤ (g5 1007 0) ∧ (g5 1007 0) ≤ 90 ∧ sm_LN (g5 4) (g5 1007 0) ∧ ((S 1009 0) = 1 → (g5 1009 0) = 1) ∧ ((g5 1021 0) = 0 → sm_WF (g5 11) (g5 12) (g5 13) (g5 1100001) (g5 1100002) (g5 1100005) (g5 1100003) (g5 1100004) (g5 1024 0) (g5 1007 0) (g5 1009 0) (g5 1032 0) ∧ sm_PX (S 11) (S 12) (S 13) (S 1100001) (S 1100002) (S 1100005) (S 1100003) (S 1100004) (g5 11) (g5 12) (g5 13) (g5 1100001) (g5 1100002) (g5 1100005) (g5 1100003) (g5 1100004) (S 1024 0)) ∧ sm_KL (S 15) (S 16) (g5 15) (g5 16) (S 1031 0) ∧ sm_HD (g5 23) (g5 24) (g5 1100018 0) (g5 1007 0) ∧ sm_HD (g5 25) (fun _ : Int => (g5 1042 0)) 1 (g5 1007 0) ∧ (g5 1031 0) = (S 1031 0) ∧ (g5 1043 0) = (S 1043 0) ∧ (g5 1044 0) = (S 1044 0) ∧ (g5 1045 0) = (S 1045 0) ∧ (S 1032 0) ≤ (g5 1032 0) ∧ (g5 1032 0) ≤ 1 + (g5 1020 0) ∧ (g5 1100018 0) = (g5 1032 0) ∧ (S 1024 0) ≤ (g5 1024 0) ∧ ((g5 1021 0) = 0 → (g5 1023 0) = (S 1023 0) ∧ (g5 1024 0) + 1 ≤ (S 1024 0) + 2 * ((g5 1020 0) - (S 1020 0))) ∧ (0 < (g5 1021 0) → (g5 1024 0) ≤ (S 1024 0) + 2 * ((g5 1020 0) - (S 1020 0)) + 2 * ((if 0 < (S 1021 0) then 11 else 30 * (20 - (S 1023 0)) + 24))) ∧ -1 ≤ r9 ∧ r9 < 12000 ∧ ((g5 1021 0) = 0 → (S 1020 0) < (g5 1020 0) ∧ 1 ≤ (S 6 (S 1020 0)) ∧ sm_ex (g5 1100001) (g5 1100002) (g5 1100005) (g5 1024 0) 1 r9 (17 * (20 - (S 1023 0)) + 17) (20 - (S 1023 0)) ∧ ((g5 11 r9) = 2 ∨ (g5 11 r9) = 7 → (g5 1100002 r9) ≤ 17 * (20 - (S 1023 0)) + 2)) ∧ (0 < (S 1021 0) → (g5 1020 0) = (S 1020 0) ∧ (g5 1024 0) = (S 1024 0))))))))) := by
  intro d
  intro p1
  intro S
  intro h1_
  rintro ⟨h2_, h3_⟩
  rintro ⟨h4_, ⟨h5_, ⟨h6_, ⟨h7_, ⟨h8_, ⟨h9_, ⟨h10_, ⟨h11_, ⟨h12_, ⟨h13_, ⟨h14_, ⟨h15_, ⟨h16_, ⟨h17_, ⟨h18_, ⟨h19_, ⟨h20_, ⟨h21_, ⟨h22_, ⟨h23_, ⟨h24_, ⟨h25_, ⟨h26_, h27_⟩⟩⟩⟩⟩⟩⟩⟩⟩⟩⟩⟩⟩⟩⟩⟩⟩⟩⟩⟩⟩⟩⟩
  intro h28_
  refine ⟨(la_conditional_0 h2_ h3_), ?_⟩
  refine ⟨⟨h4_, ⟨h5_, ⟨h6_, ⟨h7_, ⟨h8_, ⟨h9_, ⟨h10_, ⟨h11_, ⟨h12_, ⟨h13_, ⟨h14_, ⟨h15_, ⟨h16_, ⟨h17_, ⟨h18_, ⟨h19_, ⟨h20_, ⟨h21_, ⟨h22_, ⟨h23_, ⟨h24_, ⟨h25_, ⟨h26_, ⟨h27_, la_conditional_1⟩⟩⟩⟩⟩⟩⟩⟩⟩⟩⟩⟩⟩⟩⟩⟩⟩⟩⟩⟩⟩⟩⟩⟩, ?_⟩
  refine ⟨?_, ?_⟩
  · skip
    refine ⟨?_, ?_⟩
    · skip
      by_cases c29_ : 0 < S 1021 0
      · skip
        have e30_ : (if 0 < S 1021 0 then 10 else 30 * (20 - S 1023 0) + (23 - 0) : Int) = 10 := if_pos c29_
        have e31_ : (if 0 < S 1021 0 then 11 else 30 * (20 - S 1023 0) + 24 : Int) = 11 := if_pos c29_
        exact (la_conditional_3 e30_)
      · skip
        have e32_ : (if 0 < S 1021 0 then 10 else 30 * (20 - S 1023 0) + (23 - 0) : Int) = 30 * (20 - S 1023 0) + (23 - 0) := if_neg c29_
        have e33_ : (if 0 < S 1021 0 then 11 else 30 * (20 - S 1023 0) + 24 : Int) = 30 * (20 - S 1023 0) + 24 := if_neg c29_
        obtain ⟨h34_, ⟨h35_, ⟨h36_, ⟨h37_, ⟨h38_, h39_⟩⟩⟩⟩⟩ := (h27_ (la_conditional_4 h7_ c29_))
        have h40_ := (h13_ (la_conditional_4 h7_ c29_))
        exact (la_conditional_5 e32_ h35_)
    by_cases c41_ : 0 < S 1021 0
    · skip
      have e42_ : (if 0 < S 1021 0 then 10 else 30 * (20 - S 1023 0) + (23 - 0) : Int) = 10 := if_pos c41_
      have e43_ : (if 0 < S 1021 0 then 11 else 30 * (20 - S 1023 0) + 24 : Int) = 11 := if_pos c41_
      exact (la_conditional_6 h28_ e42_ e43_)
    · skip
      have e44_ : (if 0 < S 1021 0 then 10 else 30 * (20 - S 1023 0) + (23 - 0) : Int) = 30 * (20 - S 1023 0) + (23 - 0) := if_neg c41_
      have e45_ : (if 0 < S 1021 0 then 11 else 30 * (20 - S 1023 0) + 24 : Int) = 30 * (20 - S 1023 0) + 24 := if_neg c41_
      obtain ⟨h46_, ⟨h47_, ⟨h48_, ⟨h49_, ⟨h50_, h51_⟩⟩⟩⟩⟩ := (h27_ (la_conditional_4 h7_ c41_))
      have h52_ := (h13_ (la_conditional_4 h7_ c41_))
      exact (la_conditional_7 h28_ e44_ e45_)
  refine ⟨?_, ?_⟩
  · skip
    refine ⟨?_, ?_⟩
    · skip
      by_cases c53_ : 0 < S 1021 0
      · skip
        have e54_ : (if 0 < S 1021 0 then 10 else 30 * (20 - S 1023 0) + (23 - 0) : Int) = 10 := if_pos c53_
        have e55_ : (if 0 < S 1021 0 then 11 else 30 * (20 - S 1023 0) + 24 : Int) = 11 := if_pos c53_
        exact (la_conditional_3 e54_)
      · skip
        have e56_ : (if 0 < S 1021 0 then 10 else 30 * (20 - S 1023 0) + (23 - 0) : Int) = 30 * (20 - S 1023 0) + (23 - 0) := if_neg c53_
        have e57_ : (if 0 < S 1021 0 then 11 else 30 * (20 - S 1023 0) + 24 : Int) = 30 * (20 - S 1023 0) + 24 := if_neg c53_
        obtain ⟨h58_, ⟨h59_, ⟨h60_, ⟨h61_, ⟨h62_, h63_⟩⟩⟩⟩⟩ := (h27_ (la_conditional_4 h7_ c53_))
        have h64_ := (h13_ (la_conditional_4 h7_ c53_))
        exact (la_conditional_5 e56_ h59_)
    by_cases c65_ : 0 < S 1021 0
    · skip
      have e66_ : (if 0 < S 1021 0 then 10 else 30 * (20 - S 1023 0) + (23 - 0) : Int) = 10 := if_pos c65_
      have e67_ : (if 0 < S 1021 0 then 11 else 30 * (20 - S 1023 0) + 24 : Int) = 11 := if_pos c65_
      exact (la_conditional_8 e66_ e67_)
    · skip
      have e68_ : (if 0 < S 1021 0 then 10 else 30 * (20 - S 1023 0) + (23 - 0) : Int) = 30 * (20 - S 1023 0) + (23 - 0) := if_neg c65_
      have e69_ : (if 0 < S 1021 0 then 11 else 30 * (20 - S 1023 0) + 24 : Int) = 30 * (20 - S 1023 0) + 24 := if_neg c65_
      obtain ⟨h70_, ⟨h71_, ⟨h72_, ⟨h73_, ⟨h74_, h75_⟩⟩⟩⟩⟩ := (h27_ (la_conditional_4 h7_ c65_))
      have h76_ := (h13_ (la_conditional_4 h7_ c65_))
      exact (la_conditional_9 e68_ e69_)
  intro r9
  intro h77_
  intro g5
  rintro ⟨h78_, ⟨h79_, ⟨h80_, ⟨h81_, ⟨h82_, ⟨h83_, ⟨h84_, ⟨h85_, ⟨h86_, ⟨h87_, ⟨h88_, ⟨h89_, ⟨h90_, ⟨h91_, ⟨h92_, ⟨h93_, ⟨h94_, ⟨h95_, ⟨h96_, ⟨h97_, ⟨h98_, ⟨h99_, ⟨h100_, ⟨h101_, ⟨h102_, h103_⟩⟩⟩⟩⟩⟩⟩⟩⟩⟩⟩⟩⟩⟩⟩⟩⟩⟩⟩⟩⟩⟩⟩⟩⟩
  intro h104_
  refine ⟨?_, ?_⟩
  · skip
    intro h105_
    have h106_ := (h99_ h105_)
    refine ⟨h78_, ?_⟩
    refine ⟨h79_, ?_⟩
    refine ⟨h80_, ?_⟩
    refine ⟨h81_, ?_⟩
    refine ⟨h82_, ?_⟩
    refine ⟨h83_, ?_⟩
    refine ⟨h84_, ?_⟩
    refine ⟨h85_, ?_⟩
    refine ⟨h86_, ?_⟩
    refine ⟨h87_, ?_⟩
    refine ⟨h88_, ?_⟩
    refine ⟨h89_, ?_⟩
    refine ⟨h90_, ?_⟩
    refine ⟨h91_, ?_⟩
    refine ⟨h92_, ?_⟩
    refine ⟨h93_, ?_⟩
    refine ⟨h94_, ?_⟩
    refine ⟨h95_, ?_⟩
    refine ⟨h96_, ?_⟩
    refine ⟨h97_, ?_⟩
    refine ⟨h98_, ?_⟩
    refine ⟨?_, ?_⟩
    · skip
      intro h107_
      by_cases c108_ : 0 < S 1021 0
      · skip
        have e109_ : (if 0 < S 1021 0 then 10 else 30 * (20 - S 1023 0) + (23 - 0) : Int) = 10 := if_pos c108_
        have e110_ : (if 0 < S 1021 0 then 11 else 30 * (20 - S 1023 0) + 24 : Int) = 11 := if_pos c108_
        have h111_ := (h81_ c108_)
        obtain ⟨h112_, h113_⟩ := (h103_ c108_)
        exact (la_conditional_10 e110_ h112_ h113_)
      · skip
        have e114_ : (if 0 < S 1021 0 then 10 else 30 * (20 - S 1023 0) + (23 - 0) : Int) = 30 * (20 - S 1023 0) + (23 - 0) := if_neg c108_
        have e115_ : (if 0 < S 1021 0 then 11 else 30 * (20 - S 1023 0) + 24 : Int) = 30 * (20 - S 1023 0) + 24 := if_neg c108_
        obtain ⟨h116_, ⟨h117_, ⟨h118_, ⟨h119_, ⟨h120_, h121_⟩⟩⟩⟩⟩ := (h27_ (la_conditional_4 h7_ c108_))
        have h122_ := (h13_ (la_conditional_4 h7_ c108_))
        exact (la_conditional_11 h106_ e114_ e115_)
    refine ⟨h100_, ?_⟩
    refine ⟨h101_, ?_⟩
    refine ⟨?_, ?_⟩
    · skip
      intro h123_
      have e124_ : (if 0 < S 1021 0 then 10 else 30 * (20 - S 1023 0) + (23 - 0) : Int) = 10 := if_pos (la_conditional_12 h105_ h123_)
      have e125_ : (if 0 < S 1021 0 then 11 else 30 * (20 - S 1023 0) + 24 : Int) = 11 := if_pos (la_conditional_12 h105_ h123_)
      obtain ⟨h126_, ⟨h127_, ⟨h128_, ⟨h129_, ⟨h130_, h131_⟩⟩⟩⟩⟩ := (h27_ (la_conditional_13 h105_ h123_))
      have h132_ := (h81_ (la_conditional_12 h105_ h123_))
      refine ⟨?_, ?_⟩
      · skip
        exact ((la_conditional_14 h105_ h123_)).elim
      refine ⟨?_, ?_⟩
      · skip
        exact ((la_conditional_14 h105_ h123_)).elim
      refine ⟨?_, ?_⟩
      · skip
        exact ((la_conditional_14 h105_ h123_)).elim
      intro h133_
      exact ((la_conditional_14 h105_ h123_)).elim
    intro h134_
    have e135_ : (if 0 < S 1021 0 then 10 else 30 * (20 - S 1023 0) + (23 - 0) : Int) = 10 := if_pos h134_
    have e136_ : (if 0 < S 1021 0 then 11 else 30 * (20 - S 1023 0) + 24 : Int) = 11 := if_pos h134_
    have h137_ := (h81_ h134_)
    obtain ⟨h138_, h139_⟩ := (h103_ h134_)
    refine ⟨h138_, ?_⟩
    exact h139_
  intro h140_
  have h141_ : ¬ (0 < S 1021 0) := fun q_ => h140_ (h81_ q_)
  obtain ⟨h142_, h143_⟩ := (h98_ (la_conditional_4 h80_ h140_))
  have h144_ := (h13_ (la_conditional_4 h7_ h141_))
  obtain ⟨h145_, h146_⟩ := (h86_ (la_conditional_4 h80_ h140_))
  obtain ⟨h147_, ⟨h148_, ⟨h149_, h150_⟩⟩⟩ := (h102_ (la_conditional_4 h80_ h140_))
  have e151_ : (if 0 < S 1021 0 then 10 else 30 * (20 - S 1023 0) + (23 - 0) : Int) = 30 * (20 - S 1023 0) + (23 - 0) := if_neg h141_
  have e152_ : (if 0 < S 1021 0 then 11 else 30 * (20 - S 1023 0) + 24 : Int) = 30 * (20 - S 1023 0) + 24 := if_neg h141_
  obtain ⟨h153_, ⟨h154_, ⟨h155_, ⟨h156_, ⟨h157_, h158_⟩⟩⟩⟩⟩ := (h27_ (la_conditional_4 h7_ h141_))
  refine ⟨(la_conditional_15 h4_ (sm_TK_t h6_).2 h79_ h147_), ?_⟩
  refine ⟨(la_conditional_16 e152_ h154_), ?_⟩
  refine ⟨?_, ?_⟩
  · skip
    rintro ⟨h159_, h160_⟩
    intro h161_
    refine ⟨(la_conditional_17 h4_ (sm_TK_t h6_).2 h79_ h147_), ?_⟩
    refine ⟨?_, ?_⟩
    · skip
      refine ⟨(la_conditional_18 h4_ h147_), ?_⟩
      refine ⟨?_, ?_⟩
      · skip
        have h162_ := ((sm_TK_go h6_ (S 1020 0) h4_ h5_) h148_)
        have h163_ := ((sm_TK_go h6_ (g5 1020 0) (la_conditional_19 h4_ h147_) h79_) (la_conditional_20 h159_))
        have h164_ := (h163_ (la_conditional_21 h159_))
        exact h164_
      refine ⟨h6_, ?_⟩
      refine ⟨h80_, ?_⟩
      refine ⟨h8_, ?_⟩
      refine ⟨h9_, ?_⟩
      refine ⟨(la_conditional_22 h10_ h82_), ?_⟩
      refine ⟨h83_, ?_⟩
      refine ⟨h84_, ?_⟩
      refine ⟨?_, ?_⟩
      · skip
        intro h165_
        exact h145_
      refine ⟨h88_, ?_⟩
      refine ⟨h89_, ?_⟩
      refine ⟨(la_conditional_23 h16_ h91_), ?_⟩
      refine ⟨(la_conditional_24 h17_ h18_ h91_ h94_ h96_), ?_⟩
      refine ⟨h96_, ?_⟩
      refine ⟨(la_conditional_25 h95_), ?_⟩
      refine ⟨(la_conditional_23 h20_ h90_), ?_⟩
      refine ⟨(la_conditional_26 h90_ h154_ h155_), ?_⟩
      refine ⟨(la_conditional_23 h22_ h92_), ?_⟩
      refine ⟨(la_conditional_27 h92_ h154_ h157_), ?_⟩
      refine ⟨(la_conditional_23 h24_ h93_), ?_⟩
      refine ⟨(la_conditional_27 h93_ h154_ h158_), ?_⟩
      refine ⟨(la_conditional_19 (sm_ex_e h149_).1 (sm_ex_e h149_).2.1), ?_⟩
      refine ⟨(la_conditional_28 h90_ h92_ h93_ h142_ h143_ h153_ h154_ h155_ h156_ h157_ h158_), ?_⟩
      exact (la_conditional_4 h80_ h140_)
    refine ⟨(la_conditional_29 h28_ h142_ e152_ h154_), ?_⟩
    refine ⟨(la_conditional_30 h142_ e152_ h154_), ?_⟩
    intro r25
    intro h166_
    intro g21
    rintro ⟨h167_, ⟨h168_, ⟨h169_, ⟨h170_, ⟨h171_, ⟨h172_, ⟨h173_, ⟨h174_, ⟨h175_, ⟨h176_, ⟨h177_, ⟨h178_, ⟨h179_, ⟨h180_, ⟨h181_, ⟨h182_, ⟨h183_, ⟨h184_, ⟨h185_, ⟨h186_, ⟨h187_, ⟨h188_, ⟨h189_, ⟨h190_, h191_⟩⟩⟩⟩⟩⟩⟩⟩⟩⟩⟩⟩⟩⟩⟩⟩⟩⟩⟩⟩⟩⟩⟩⟩
    refine ⟨⟨(la_conditional_31 h4_ h147_ h167_), ⟨h168_, ⟨h6_, h169_⟩⟩⟩, ?_⟩
    refine ⟨(la_conditional_32 e152_ h154_), ?_⟩
    intro r33
    intro h192_
    intro g29
    intro h193_
    refine ⟨?_, ?_⟩
    · skip
      intro h194_
      obtain ⟨h195_, ⟨h196_, ⟨h197_, ⟨h198_, ⟨h199_, h200_⟩⟩⟩⟩⟩ := (h193_.resolve_left (fun q_ => h194_ q_.1))
      obtain ⟨h201_, h202_⟩ := (h175_ h197_)
      obtain ⟨h203_, h204_⟩ := (h191_ h197_)
      obtain ⟨h205_, h206_⟩ := (h187_ h197_)
      refine ⟨?_, ?_⟩
      · skip
        refine ⟨(la_conditional_36 h4_ h147_ h198_ h204_), ?_⟩
        refine ⟨h199_, ?_⟩
        refine ⟨h6_, ?_⟩
        refine ⟨(la_conditional_37 h196_), ?_⟩
        refine ⟨h8_, ?_⟩
        refine ⟨h9_, ?_⟩
        refine ⟨(la_conditional_38 h10_ h82_ h171_), ?_⟩
        refine ⟨h172_, ?_⟩
        refine ⟨h173_, ?_⟩
        refine ⟨?_, ?_⟩
        · skip
          intro h207_
          exact h201_
        refine ⟨h177_, ?_⟩
        refine ⟨h178_, ?_⟩
        refine ⟨(la_conditional_39 h16_ h91_ h180_), ?_⟩
        refine ⟨(la_conditional_40 h17_ h18_ h91_ h94_ h180_ h183_ h185_), ?_⟩
        refine ⟨h185_, ?_⟩
        refine ⟨(la_conditional_41 h184_ h198_), ?_⟩
        refine ⟨(la_conditional_39 h20_ h90_ h179_), ?_⟩
        refine ⟨(la_conditional_42 h21_ h90_ h179_), ?_⟩
        refine ⟨(la_conditional_39 h22_ h92_ h181_), ?_⟩
        refine ⟨(la_conditional_43 h23_ h92_ h181_), ?_⟩
        refine ⟨(la_conditional_39 h24_ h93_ h182_), ?_⟩
        refine ⟨(la_conditional_43 h25_ h93_ h182_), ?_⟩
        refine ⟨(la_conditional_19 (sm_ex_e h203_).1 (sm_ex_e h203_).2.1), ?_⟩
        refine ⟨(la_conditional_44 h90_ h92_ h93_ h142_ h143_ h153_ h154_ h155_ h156_ h157_ h158_ h179_ h181_ h182_ h198_ h205_ h206_), ?_⟩
        exact h196_
      refine ⟨(la_conditional_45 h28_ h142_ e152_ h154_ h205_), ?_⟩
      refine ⟨(la_conditional_46 h142_ e152_ h154_ h205_), ?_⟩
      intro r42
      intro h208_
      intro g38
      rintro ⟨h209_, ⟨h210_, ⟨h211_, ⟨h212_, ⟨h213_, ⟨h214_, ⟨h215_, ⟨h216_, ⟨h217_, ⟨h218_, ⟨h219_, ⟨h220_, ⟨h221_, ⟨h222_, ⟨h223_, ⟨h224_, ⟨h225_, ⟨h226_, ⟨h227_, ⟨h228_, ⟨h229_, ⟨h230_, ⟨h231_, ⟨h232_, h233_⟩⟩⟩⟩⟩⟩⟩⟩⟩⟩⟩⟩⟩⟩⟩⟩⟩⟩⟩⟩⟩⟩⟩⟩
      refine ⟨?_, ?_⟩
      · skip
        refine ⟨(la_conditional_47 (sm_ex_e h203_).1 (sm_ex_e h203_).2.1 h228_), ?_⟩
        have h234_ := ((sm_TK_go h6_ (g21 1020 0) (la_conditional_48 h4_ h147_ h204_) h168_) (la_conditional_20 h200_))
        have h235_ := ((sm_TK_go h6_ (S 1020 0) h4_ h5_) h148_)
        have h236_ := ((sm_TK_go h6_ (g5 1020 0) (la_conditional_19 h4_ h147_) h79_) (la_conditional_20 h159_))
        have h237_ := (h234_ (la_conditional_21 h200_))
        have h238_ := (h236_ (la_conditional_21 h159_))
        exact (la_conditional_49 (sm_TK_t h6_).2 h142_ h143_ h153_ h156_ h198_ h205_ h206_ h210_ h211_ h229_ h230_)
      intro r49
      intro h239_
      intro g45
      rintro ⟨h240_, ⟨h241_, ⟨h242_, ⟨h243_, ⟨h244_, ⟨h245_, ⟨h246_, ⟨h247_, ⟨h248_, ⟨h249_, ⟨h250_, ⟨h251_, h252_⟩⟩⟩⟩⟩⟩⟩⟩⟩⟩⟩⟩
      refine ⟨(la_conditional_50 h153_ h154_), ?_⟩
      refine ⟨(la_conditional_51 h153_ h154_), ?_⟩
      intro h253_
      refine ⟨(la_conditional_52 h147_ h198_ h204_ h209_), ?_⟩
      refine ⟨h210_, ?_⟩
      refine ⟨h211_, ?_⟩
      refine ⟨(la_conditional_53 h141_), ?_⟩
      refine ⟨(la_conditional_54 h82_ h171_ h213_), ?_⟩
      refine ⟨h214_, ?_⟩
      refine ⟨h215_, ?_⟩
      refine ⟨(la_conditional_55 h85_ h174_ h216_), ?_⟩
      refine ⟨?_, ?_⟩
      · skip
        intro h254_
        obtain ⟨h255_, h256_⟩ := (h229_ h254_)
        obtain ⟨h257_, h258_⟩ := (h217_ h254_)
        obtain ⟨h259_, h260_⟩ := (h233_ h254_)
        obtain ⟨h261_, h262_⟩ := (h251_ h257_)
        have h263_ := (h253_ h254_)
        have h264_ := (h263_ h261_)
        have h265_ := (h264_ h262_)
        have h266_ := (h265_ (la_conditional_56 h240_ (sm_ex_e h259_).1 (sm_ex_e h259_).2.1))
        have h267_ := (h266_ (la_conditional_57 h240_ h241_))
        have h268_ := (h267_ h248_)
        have h269_ := (h268_ h242_)
        have h270_ := (h269_ (sm_ex_eq h243_ (sm_ex_N (sm_ex_w (sm_ex_px (sm_PX_le h258_ h186_) (sm_ex_px (sm_PX_le h202_ (Int.le_refl _)) h149_)) la_conditional_58 (Int.le_refl _)) (la_conditional_59 h186_ h228_ h241_))))
        have h271_ := (h270_ (sm_ex_eq h244_ (sm_ex_N (sm_ex_w (sm_ex_px (sm_PX_le h258_ (Int.le_refl _)) h203_) (la_conditional_60 h142_) (la_conditional_61 h142_)) (la_conditional_62 h228_ h241_))))
        have h272_ := (h271_ (sm_ex_eq h245_ (sm_ex_N (sm_ex_w h259_ (la_conditional_63 h142_ h205_) (la_conditional_64 h142_ h205_)) (la_conditional_65 h241_))))
        refine ⟨h272_, ?_⟩
        exact (sm_PX_up_Ws (sm_PX_up_Lp (sm_PX_up_V (sm_PX_up_M (sm_PX_up_C (sm_PX_tr (sm_PX_tr (sm_PX_tr (sm_PX_le h146_ (Int.le_refl _)) h202_ h97_) h258_ (la_conditional_66 h97_ h186_)) h252_ (la_conditional_54 h97_ h186_ h228_)) (la_conditional_67 h97_ h186_ h228_ h240_)) (la_conditional_67 h97_ h186_ h228_ h240_)) (la_conditional_67 h97_ h186_ h228_ h240_)) (la_conditional_67 h97_ h186_ h228_ h240_)) (la_conditional_67 h97_ h186_ h228_ h240_))
      refine ⟨(sm_KL_tr (sm_KL_le h87_ (Int.le_refl _)) (sm_KL_tr (sm_KL_le h176_ (la_conditional_69 h90_)) (sm_KL_le h218_ (la_conditional_68 h90_ h179_)) (Int.le_refl _)) (Int.le_refl _)), ?_⟩
      refine ⟨h219_, ?_⟩
      refine ⟨h220_, ?_⟩
      refine ⟨(la_conditional_70 h90_ h179_ h221_), ?_⟩
      refine ⟨(la_conditional_70 h91_ h180_ h222_), ?_⟩
      refine ⟨(la_conditional_70 h92_ h181_ h223_), ?_⟩
      refine ⟨(la_conditional_70 h93_ h182_ h224_), ?_⟩
      refine ⟨(la_conditional_54 h94_ h183_ h225_), ?_⟩
      refine ⟨h226_, ?_⟩
      refine ⟨h227_, ?_⟩
      refine ⟨(la_conditional_71 h97_ h186_ h228_ h241_), ?_⟩
      refine ⟨(la_conditional_72 h142_ h143_ h198_ h205_ h206_ h211_ h229_ h241_), ?_⟩
      refine ⟨(la_conditional_73 h142_ h143_ e152_ h154_ h198_ h205_ h206_ h229_ h230_ h241_), ?_⟩
      refine ⟨(la_conditional_74 (sm_ex_e h203_).1 (sm_ex_e h203_).2.1 h228_ h240_), ?_⟩
      refine ⟨?_, ?_⟩
      · skip
        have h273_ := (h250_ r49)
        have h274_ := ((sm_TK_go h6_ (g21 1020 0) (la_conditional_48 h4_ h147_ h204_) h168_) (la_conditional_20 h200_))
        have h275_ := ((sm_TK_go h6_ (S 1020 0) h4_ h5_) h148_)
        have h276_ := ((sm_TK_go h6_ (g5 1020 0) (la_conditional_19 h4_ h147_) h79_) (la_conditional_20 h159_))
        have h277_ := (h274_ (la_conditional_21 h200_))
        have h278_ := (h276_ (la_conditional_21 h159_))
        exact (la_conditional_76 (sm_TK_t h6_).2 h142_ h143_ h153_ h156_ h198_ h205_ h206_ h210_ h211_ h229_ h230_ h240_)
      refine ⟨?_, ?_⟩
      · skip
        intro h279_
        obtain ⟨h280_, h281_⟩ := (h229_ h279_)
        obtain ⟨h282_, h283_⟩ := (h217_ h279_)
        obtain ⟨h284_, h285_⟩ := (h233_ h279_)
        obtain ⟨h286_, h287_⟩ := (h251_ h282_)
        have h288_ := (h253_ h279_)
        have h289_ := (h288_ h286_)
        have h290_ := (h289_ h287_)
        have h291_ := (h290_ (la_conditional_56 h240_ (sm_ex_e h284_).1 (sm_ex_e h284_).2.1))
        have h292_ := (h291_ (la_conditional_57 h240_ h241_))
        have h293_ := (h292_ h248_)
        have h294_ := (h293_ h242_)
        have h295_ := (h294_ (sm_ex_eq h243_ (sm_ex_N (sm_ex_w (sm_ex_px (sm_PX_le h283_ h186_) (sm_ex_px (sm_PX_le h202_ (Int.le_refl _)) h149_)) la_conditional_58 (Int.le_refl _)) (la_conditional_59 h186_ h228_ h241_))))
        have h296_ := (h295_ (sm_ex_eq h244_ (sm_ex_N (sm_ex_w (sm_ex_px (sm_PX_le h283_ (Int.le_refl _)) h203_) (la_conditional_60 h142_) (la_conditional_61 h142_)) (la_conditional_62 h228_ h241_))))
        have h297_ := (h296_ (sm_ex_eq h245_ (sm_ex_N (sm_ex_w h284_ (la_conditional_63 h142_ h205_) (la_conditional_64 h142_ h205_)) (la_conditional_65 h241_))))
        refine ⟨(la_conditional_77 h147_ h198_ h204_ h285_), ?_⟩
        refine ⟨h148_, ?_⟩
        refine ⟨(sm_ex_if (la_conditional_56 h240_ (sm_ex_e h284_).1 (sm_ex_e h284_).2.1) (la_conditional_57 h240_ h241_) la_conditional_78 la_conditional_79 la_conditional_80), ?_⟩
        intro h298_
        have h299_ := (h298_.resolve_left (la_conditional_81 h242_))
        have h300_ := (h250_ r49)
        have e301_ : (if r49 = r49 then 17 * (20 - S 1023 0) + 17 else g38 1100002 r49 : Int) = 17 * (20 - S 1023 0) + 17 := if_pos la_conditional_87
        have h302_ := ((sm_TK_go h6_ (S 1020 0) h4_ h5_) h148_)
        have h303_ := ((sm_TK_go h6_ (g21 1020 0) (la_conditional_48 h4_ h147_ h204_) h168_) (la_conditional_20 h200_))
        have h304_ := ((sm_TK_go h6_ (g5 1020 0) (la_conditional_19 h4_ h147_) h79_) (la_conditional_20 h159_))
        have h305_ := (h303_ (la_conditional_21 h200_))
        have h306_ := (h304_ (la_conditional_21 h159_))
        have e307_ : g21 11 r9 = g21 11 (g45 12 (5 * r49)) := congrArg ((g21 11)) (la_conditional_88 h243_)
        have e308_ : g21 1100001 r9 = g21 1100001 (g45 12 (5 * r49)) := congrArg ((g21 1100001)) (la_conditional_88 h243_)
        have e309_ : g21 1100002 r9 = g21 1100002 (g45 12 (5 * r49)) := congrArg ((g21 1100002)) (la_conditional_88 h243_)
        have e310_ : g21 1100003 r9 = g21 1100003 (g45 12 (5 * r49)) := congrArg ((g21 1100003)) (la_conditional_88 h243_)
        have e311_ : g21 1100004 r9 = g21 1100004 (g45 12 (5 * r49)) := congrArg ((g21 1100004)) (la_conditional_88 h243_)
        have e312_ : g21 1100005 r9 = g21 1100005 (g45 12 (5 * r49)) := congrArg ((g21 1100005)) (la_conditional_88 h243_)
        have e313_ : g21 12 (5 * r9) = g21 12 (5 * g45 12 (5 * r49)) := congrArg ((g21 12)) (la_conditional_89 h243_)
        have e314_ : g21 12 (5 * r9 + 1) = g21 12 (5 * g45 12 (5 * r49) + 1) := congrArg ((g21 12)) (la_conditional_90 h243_)
        have e315_ : g21 12 (5 * r9 + 2) = g21 12 (5 * g45 12 (5 * r49) + 2) := congrArg ((g21 12)) (la_conditional_91 h243_)
        have e316_ : g21 12 (5 * r9 + 3) = g21 12 (5 * g45 12 (5 * r49) + 3) := congrArg ((g21 12)) (la_conditional_92 h243_)
        have e317_ : g21 12 (5 * r9 + 4) = g21 12 (5 * g45 12 (5 * r49) + 4) := congrArg ((g21 12)) (la_conditional_93 h243_)
        have e318_ : g21 13 r9 = g21 13 (g45 12 (5 * r49)) := congrArg ((g21 13)) (la_conditional_88 h243_)
        have e319_ : g38 11 r9 = g38 11 (g45 12 (5 * r49)) := congrArg ((g38 11)) (la_conditional_88 h243_)
        have e320_ : g38 1100001 r9 = g38 1100001 (g45 12 (5 * r49)) := congrArg ((g38 1100001)) (la_conditional_88 h243_)
        have e321_ : g38 1100002 r9 = g38 1100002 (g45 12 (5 * r49)) := congrArg ((g38 1100002)) (la_conditional_88 h243_)
        have e322_ : g38 1100003 r9 = g38 1100003 (g45 12 (5 * r49)) := congrArg ((g38 1100003)) (la_conditional_88 h243_)
        have e323_ : g38 1100004 r9 = g38 1100004 (g45 12 (5 * r49)) := congrArg ((g38 1100004)) (la_conditional_88 h243_)
        have e324_ : g38 1100005 r9 = g38 1100005 (g45 12 (5 * r49)) := congrArg ((g38 1100005)) (la_conditional_88 h243_)
        have e325_ : g38 12 (5 * r9) = g38 12 (5 * g45 12 (5 * r49)) := congrArg ((g38 12)) (la_conditional_89 h243_)
        have e326_ : g38 12 (5 * r9 + 1) = g38 12 (5 * g45 12 (5 * r49) + 1) := congrArg ((g38 12)) (la_conditional_90 h243_)
        have e327_ : g38 12 (5 * r9 + 2) = g38 12 (5 * g45 12 (5 * r49) + 2) := congrArg ((g38 12)) (la_conditional_91 h243_)
        have e328_ : g38 12 (5 * r9 + 3) = g38 12 (5 * g45 12 (5 * r49) + 3) := congrArg ((g38 12)) (la_conditional_92 h243_)
        have e329_ : g38 12 (5 * r9 + 4) = g38 12 (5 * g45 12 (5 * r49) + 4) := congrArg ((g38 12)) (la_conditional_93 h243_)
        have e330_ : g38 13 r9 = g38 13 (g45 12 (5 * r49)) := congrArg ((g38 13)) (la_conditional_88 h243_)
        have e331_ : g45 11 r9 = g45 11 (g45 12 (5 * r49)) := congrArg ((g45 11)) (la_conditional_88 h243_)
        have e332_ : g45 13 r9 = g45 13 (g45 12 (5 * r49)) := congrArg ((g45 13)) (la_conditional_88 h243_)
        have e333_ : g5 11 r9 = g5 11 (g45 12 (5 * r49)) := congrArg ((g5 11)) (la_conditional_88 h243_)
        have e334_ : g5 1100001 r9 = g5 1100001 (g45 12 (5 * r49)) := congrArg ((g5 1100001)) (la_conditional_88 h243_)
        have e335_ : g5 1100002 r9 = g5 1100002 (g45 12 (5 * r49)) := congrArg ((g5 1100002)) (la_conditional_88 h243_)
        have e336_ : g5 1100003 r9 = g5 1100003 (g45 12 (5 * r49)) := congrArg ((g5 1100003)) (la_conditional_88 h243_)
        have e337_ : g5 1100004 r9 = g5 1100004 (g45 12 (5 * r49)) := congrArg ((g5 1100004)) (la_conditional_88 h243_)
        have e338_ : g5 1100005 r9 = g5 1100005 (g45 12 (5 * r49)) := congrArg ((g5 1100005)) (la_conditional_88 h243_)
        have e339_ : g5 12 (5 * r9) = g5 12 (5 * g45 12 (5 * r49)) := congrArg ((g5 12)) (la_conditional_89 h243_)
        have e340_ : g5 12 (5 * r9 + 1) = g5 12 (5 * g45 12 (5 * r49) + 1) := congrArg ((g5 12)) (la_conditional_90 h243_)
        have e341_ : g5 12 (5 * r9 + 2) = g5 12 (5 * g45 12 (5 * r49) + 2) := congrArg ((g5 12)) (la_conditional_91 h243_)
        have e342_ : g5 12 (5 * r9 + 3) = g5 12 (5 * g45 12 (5 * r49) + 3) := congrArg ((g5 12)) (la_conditional_92 h243_)
        have e343_ : g5 12 (5 * r9 + 4) = g5 12 (5 * g45 12 (5 * r49) + 4) := congrArg ((g5 12)) (la_conditional_93 h243_)
        have e344_ : g5 13 r9 = g5 13 (g45 12 (5 * r49)) := congrArg ((g5 13)) (la_conditional_88 h243_)
        exact ((la_conditional_94 h242_ h299_)).elim
      intro h345_
      refine ⟨?_, ?_⟩
      · skip
        have h346_ := (h250_ r49)
        have h347_ := ((sm_TK_go h6_ (g21 1020 0) (la_conditional_48 h4_ h147_ h204_) h168_) (la_conditional_20 h200_))
        have h348_ := ((sm_TK_go h6_ (S 1020 0) h4_ h5_) h148_)
        have h349_ := ((sm_TK_go h6_ (g5 1020 0) (la_conditional_19 h4_ h147_) h79_) (la_conditional_20 h159_))
        have h350_ := (h347_ (la_conditional_21 h200_))
        have h351_ := (h349_ (la_conditional_21 h159_))
        exact ((la_conditional_95 h141_ h345_)).elim
      have h352_ := (h250_ r49)
      have h353_ := ((sm_TK_go h6_ (g21 1020 0) (la_conditional_48 h4_ h147_ h204_) h168_) (la_conditional_20 h200_))
      have h354_ := ((sm_TK_go h6_ (S 1020 0) h4_ h5_) h148_)
      have h355_ := ((sm_TK_go h6_ (g5 1020 0) (la_conditional_19 h4_ h147_) h79_) (la_conditional_20 h159_))
      have h356_ := (h353_ (la_conditional_21 h200_))
      have h357_ := (h355_ (la_conditional_21 h159_))
      exact ((la_conditional_95 h141_ h345_)).elim
    intro h358_
    obtain ⟨h359_, ⟨h360_, h361_⟩⟩ := (h193_.resolve_right (la_conditional_96 h358_))
    refine ⟨(la_conditional_97 h147_ h167_ h361_), ?_⟩
    refine ⟨(la_conditional_82 h168_ h361_), ?_⟩
    refine ⟨(la_conditional_98 h360_), ?_⟩
    refine ⟨(la_conditional_53 h141_), ?_⟩
    refine ⟨(la_conditional_66 h82_ h171_), ?_⟩
    refine ⟨h172_, ?_⟩
    refine ⟨h173_, ?_⟩
    refine ⟨(la_conditional_99 h85_ h174_), ?_⟩
    refine ⟨?_, ?_⟩
    · skip
      intro h362_
      refine ⟨?_, ?_⟩
      · skip
        have h363_ := ((sm_TK_go h6_ (S 1020 0) h4_ h5_) h148_)
        have h364_ := ((sm_TK_go h6_ (g5 1020 0) (la_conditional_19 h4_ h147_) h79_) (la_conditional_20 h159_))
        have h365_ := (h364_ (la_conditional_21 h159_))
        have h366_ : g21 1021 0 = 0 := by
          exact ((la_conditional_14 h360_ h362_)).elim
        obtain ⟨h367_, h368_⟩ := (h175_ h366_)
        exact h367_
      have h369_ := ((sm_TK_go h6_ (S 1020 0) h4_ h5_) h148_)
      have h370_ := ((sm_TK_go h6_ (g5 1020 0) (la_conditional_19 h4_ h147_) h79_) (la_conditional_20 h159_))
      have h371_ := (h370_ (la_conditional_21 h159_))
      exact ((la_conditional_14 h360_ h362_)).elim
    refine ⟨(sm_KL_tr (sm_KL_le h87_ (Int.le_refl _)) (sm_KL_le h176_ (la_conditional_69 h90_)) (Int.le_refl _)), ?_⟩
    refine ⟨h177_, ?_⟩
    refine ⟨h178_, ?_⟩
    refine ⟨(la_conditional_100 h90_ h179_), ?_⟩
    refine ⟨(la_conditional_100 h91_ h180_), ?_⟩
    refine ⟨(la_conditional_100 h92_ h181_), ?_⟩
    refine ⟨(la_conditional_100 h93_ h182_), ?_⟩
    refine ⟨(la_conditional_66 h94_ h183_), ?_⟩
    refine ⟨(la_conditional_101 h184_ h361_), ?_⟩
    refine ⟨h185_, ?_⟩
    refine ⟨(la_conditional_66 h97_ h186_), ?_⟩
    refine ⟨(la_conditional_102 h360_), ?_⟩
    refine ⟨(la_conditional_103 h142_ h143_ e152_ h154_ h169_ h187_ h188_ h361_), ?_⟩
    refine ⟨la_conditional_104, ?_⟩
    refine ⟨la_conditional_105, ?_⟩
    refine ⟨?_, ?_⟩
    · skip
      intro h372_
      refine ⟨(la_conditional_106 h147_ h167_ h361_), ?_⟩
      refine ⟨h148_, ?_⟩
      refine ⟨?_, ?_⟩
      · skip
        have h373_ := ((sm_TK_go h6_ (S 1020 0) h4_ h5_) h148_)
        have h374_ := ((sm_TK_go h6_ (g5 1020 0) (la_conditional_19 h4_ h147_) h79_) (la_conditional_20 h159_))
        have h375_ := (h374_ (la_conditional_21 h159_))
        exact ((la_conditional_14 h360_ h372_)).elim
      intro h376_
      have h377_ := ((sm_TK_go h6_ (S 1020 0) h4_ h5_) h148_)
      have h378_ := ((sm_TK_go h6_ (g5 1020 0) (la_conditional_19 h4_ h147_) h79_) (la_conditional_20 h159_))
      have h379_ := (h378_ (la_conditional_21 h159_))
      exact ((la_conditional_14 h360_ h372_)).elim
    intro h380_
    refine ⟨?_, ?_⟩
    · skip
      have h381_ := ((sm_TK_go h6_ (S 1020 0) h4_ h5_) h148_)
      have h382_ := ((sm_TK_go h6_ (g5 1020 0) (la_conditional_19 h4_ h147_) h79_) (la_conditional_20 h159_))
      have h383_ := (h382_ (la_conditional_21 h159_))
      exact ((la_conditional_95 h141_ h380_)).elim
    have h384_ := ((sm_TK_go h6_ (S 1020 0) h4_ h5_) h148_)
    have h385_ := ((sm_TK_go h6_ (g5 1020 0) (la_conditional_19 h4_ h147_) h79_) (la_conditional_20 h159_))
    have h386_ := (h385_ (la_conditional_21 h159_))
    exact ((la_conditional_95 h141_ h380_)).elim
  intro h387_
  refine ⟨h78_, ?_⟩
  refine ⟨h79_, ?_⟩
  refine ⟨h80_, ?_⟩
  refine ⟨h81_, ?_⟩
  refine ⟨h82_, ?_⟩
  refine ⟨h83_, ?_⟩
  refine ⟨h84_, ?_⟩
  refine ⟨h85_, ?_⟩
  refine ⟨h86_, ?_⟩
  refine ⟨h87_, ?_⟩
  refine ⟨h88_, ?_⟩
  refine ⟨h89_, ?_⟩
  refine ⟨h90_, ?_⟩
  refine ⟨h91_, ?_⟩
  refine ⟨h92_, ?_⟩
  refine ⟨h93_, ?_⟩
  refine ⟨h94_, ?_⟩
  refine ⟨h95_, ?_⟩
  refine ⟨h96_, ?_⟩
  refine ⟨h97_, ?_⟩
  refine ⟨h98_, ?_⟩
  refine ⟨(la_conditional_107 h140_), ?_⟩
  refine ⟨h100_, ?_⟩
  refine ⟨h101_, ?_⟩
  refine ⟨?_, ?_⟩
  · skip
    intro h388_
    refine ⟨h147_, ?_⟩
    refine ⟨h148_, ?_⟩
    refine ⟨(sm_ex_N (sm_ex_w h149_ la_conditional_108 (Int.le_refl _)) (Int.le_refl _)), ?_⟩
    intro h389_
    have h390_ := (h150_ h389_)
    exact h390_
  intro h391_
  refine ⟨?_, ?_⟩
  · skip
    have h392_ := ((sm_TK_go h6_ (S 1020 0) h4_ h5_) h148_)
    exact ((la_conditional_95 h141_ h391_)).elim
  have h393_ := ((sm_TK_go h6_ (S 1020 0) h4_ h5_) h148_)
  exact ((la_conditional_95 h141_ h391_)).elim
set_option maxRecDepth 8000 in
set_option maxHeartbeats 2000000 in
theorem s_conditional (d : Int) (h0 : 0 ≤ d) (IH : ∀ d' : Int, 0 ≤ d' → d' < d → P_P d') : T_conditional d := by
  intro p1 S hok hp1 hpre hd
  have h := f_conditional d p1 S hok hp1 hpre hd
  have hM := sm_h48
  show sv_T sm_XS sm_cs sm_L sm_sh ((if 0 < (S 1021 0) then 11 else 30 * (20 - (S 1023 0)) + 24)).toNat (q_conditional p1 S) 48 0 [(0, .ref 0), (1, sv_I p1)] [] S
  refine sv_aload_n hM dX12_conditional_0 rfl rfl ?_
  refine sv_iconst (d := (0 : Int)) hM dX12_conditional_1 rfl rfl ?_
  refine sv_iload_n hM dX12_conditional_2 rfl rfl ?_
  obtain ⟨o1, h⟩ := h
  obtain ⟨o2, h⟩ := h
  obtain ⟨o3, h⟩ := h
  obtain ⟨o4, h⟩ := h
  refine sv_callV hM dX12_conditional_3 sm_iv_469 (by decide) (sm_a0 _) rfl rfl (Nat.le_of_ble_eq_true rfl) sm_h51 (Nat.le_of_ble_eq_true rfl) (Nat.le_of_ble_eq_true rfl) (F' := (((if 0 < (S 1021 0) then 10 else 30 * (20 - (S 1023 0)) + (23 - (0 : Int))))).toNat) (sv_Fe o4) rfl ((IH ((if 0 < (S 1021 0) then 10 else 30 * (20 - (S 1023 0)) + (23 - (0 : Int)))) o3.1 o3.2).2.2.2.2.1 (0 : Int) p1 S hok (⟨by decide, by decide⟩ : sv_R (0 : Int)) o1 o2 rfl) (fun v S1 hq => ?_)
  obtain ⟨r9, rfl, hr9, ok6, md7, hp8⟩ := hq
  obtain ⟨g5, rfl⟩ : ∃ g, S1 = sv_sts S [1020, 1021, 1022, 1023, 5, 1011, 3, 4, 1007, 1009, 11, 12, 13, 14, 1024, 15, 16, 1031, 1032, 17, 18, 19, 20, 21, 22, 23, 24, 25, 1042, 1043, 1044, 1045, 1100001, 1100002, 1100005, 1100003, 1100004, 1100018] g := ⟨_, md7.eq⟩
  show sv_T sm_XS sm_cs sm_L sm_sh ((if 0 < (S 1021 0) then 11 else 30 * (20 - (S 1023 0)) + 24)).toNat (q_conditional p1 S) 48 6 [(0, .ref 0), (1, sv_I p1)] [sv_I r9] (sv_sts S [1020, 1021, 1022, 1023, 5, 1011, 3, 4, 1007, 1009, 11, 12, 13, 14, 1024, 15, 16, 1031, 1032, 17, 18, 19, 20, 21, 22, 23, 24, 25, 1042, 1043, 1044, 1045, 1100001, 1100002, 1100005, 1100003, 1100004, 1100018] g5)
  have md10 : sv_mod [1020, 1021, 1022, 1023, 5, 1011, 3, 4, 1007, 1009, 11, 12, 13, 14, 1024, 15, 16, 1031, 1032, 17, 18, 19, 20, 21, 22, 23, 24, 25, 1042, 1043, 1044, 1045, 1100001, 1100002, 1100005, 1100003, 1100004, 1100018] S (sv_sts S [1020, 1021, 1022, 1023, 5, 1011, 3, 4, 1007, 1009, 11, 12, 13, 14, 1024, 15, 16, 1031, 1032, 17, 18, 19, 20, 21, 22, 23, 24, 25, 1042, 1043, 1044, 1045, 1100001, 1100002, 1100005, 1100003, 1100004, 1100018] g5) := sv_mod.sts sv_mod.rf (by decide)
  have h := h r9 hr9 g5 hp8
  refine sv_istore_n hM dX12_conditional_6 (by decide) rfl ?_
  show sv_T sm_XS sm_cs sm_L sm_sh ((if 0 < (S 1021 0) then 11 else 30 * (20 - (S 1023 0)) + 24)).toNat (q_conditional p1 S) 48 7 [(0, .ref 0), (1, sv_I p1), (2, sv_I r9)] [] (sv_sts S [1020, 1021, 1022, 1023, 5, 1011, 3, 4, 1007, 1009, 11, 12, 13, 14, 1024, 15, 16, 1031, 1032, 17, 18, 19, 20, 21, 22, 23, 24, 25, 1042, 1043, 1044, 1045, 1100001, 1100002, 1100005, 1100003, 1100004, 1100018] g5)
  refine sv_aload_n hM dX12_conditional_7 rfl rfl ?_
  have k11 : sv_R (g5 1021 0) := sm_okI ok6 sm_r1021 0
  have h := h k11
  refine sv_getI hM dX12_conditional_8 sm_fl_389 (sm_a0 _) sm_k21 rfl (x := (g5 1021 0)) rfl ?_
  refine sv_cond_gt hM dX12_conditional_11 k11 (t := 23) rfl rfl (fun hc => ?_) (fun hc => ?_)
  · have h := h.1 (hc)
    refine sv_iload_n hM dX12_conditional_23 rfl rfl ?_
    exact sv_iret hM dX12_conditional_24 rfl rfl ⟨r9, rfl, hr9, ok6, md10, h⟩
  · have h := h.2 (hc)
    refine sv_aload_n hM dX12_conditional_14 rfl rfl ?_
    refine sv_bipush (d := (45 : Int)) hM dX12_conditional_15 rfl rfl ?_
    obtain ⟨o12, h⟩ := h
    obtain ⟨o13, h⟩ := h
    refine sv_callV hM dX12_conditional_17 sm_iv_398 (by decide) (sm_a0 _) rfl rfl (Nat.le_of_ble_eq_true rfl) sm_h24 (Nat.le_of_ble_eq_true rfl) (Nat.le_of_ble_eq_true rfl) (F' := 0) (sv_Fn (n := 0) o13) rfl (t_isSign (45 : Int) (sv_sts S [1020, 1021, 1022, 1023, 5, 1011, 3, 4, 1007, 1009, 11, 12, 13, 14, 1024, 15, 16, 1031, 1032, 17, 18, 19, 20, 21, 22, 23, 24, 25, 1042, 1043, 1044, 1045, 1100001, 1100002, 1100005, 1100003, 1100004, 1100018] g5) ok6 (⟨by decide, by decide⟩ : sv_R (45 : Int)) o12) (fun v S1 hq => ?_)
    obtain ⟨rfl, hS1⟩ := hq
    obtain rfl : (sv_sts S [1020, 1021, 1022, 1023, 5, 1011, 3, 4, 1007, 1009, 11, 12, 13, 14, 1024, 15, 16, 1031, 1032, 17, 18, 19, 20, 21, 22, 23, 24, 25, 1042, 1043, 1044, 1045, 1100001, 1100002, 1100005, 1100003, 1100004, 1100018] g5) = S1 := hS1.symm
    show sv_T sm_XS sm_cs sm_L sm_sh ((if 0 < (S 1021 0) then 11 else 30 * (20 - (S 1023 0)) + 24)).toNat (q_conditional p1 S) 48 20 [(0, .ref 0), (1, sv_I p1), (2, sv_I r9)] [sv_I (if (S 6 (g5 1020 0)) = 5 ∧ (S 7 (g5 1020 0)) = (45 : Int) then 1 else 0)] (sv_sts S [1020, 1021, 1022, 1023, 5, 1011, 3, 4, 1007, 1009, 11, 12, 13, 14, 1024, 15, 16, 1031, 1032, 17, 18, 19, 20, 21, 22, 23, 24, 25, 1042, 1043, 1044, 1045, 1100001, 1100002, 1100005, 1100003, 1100004, 1100018] g5)
    refine sv_cond_ne hM dX12_conditional_20 (sv_Rite : sv_R (if (S 6 (g5 1020 0)) = 5 ∧ (S 7 (g5 1020 0)) = (45 : Int) then 1 else 0)) (t := 25) rfl rfl (fun hc => ?_) (fun hc => ?_)
    · have h := h.1 (sv_itep hc)
      refine sv_aload_n hM dX12_conditional_25 rfl rfl ?_
      refine sv_dupA hM dX12_conditional_26 rfl ?_
      have k14 : sv_R (g5 1020 0) := sm_okI ok6 sm_r1020 0
      have h := h k14
      refine sv_getI hM dX12_conditional_27 sm_fl_392 (sm_a0 _) sm_k20 rfl (x := (g5 1020 0)) rfl ?_
      refine sv_iconst (d := (1 : Int)) hM dX12_conditional_30 rfl rfl ?_
      refine sv_iadd hM dX12_conditional_31 rfl ?_
      obtain ⟨o15, h⟩ := h
      refine sv_putI sm_X hM dX12_conditional_32 sm_fp_392 (sm_a0 _) sm_q20 (Or.inl rfl) rfl rfl rfl rfl ?_
      have ok16 : sm_ok (sv_up (sv_sts S [1020, 1021, 1022, 1023, 5, 1011, 3, 4, 1007, 1009, 11, 12, 13, 14, 1024, 15, 16, 1031, 1032, 17, 18, 19, 20, 21, 22, 23, 24, 25, 1042, 1043, 1044, 1045, 1100001, 1100002, 1100005, 1100003, 1100004, 1100018] g5) 1020 0 ((g5 1020 0) + (1 : Int))) := sm_upI ok6 sm_r1020 o15
      have md17 : sv_mod [1020, 1021, 1022, 1023, 5, 1011, 3, 4, 1007, 1009, 11, 12, 13, 14, 1024, 15, 16, 1031, 1032, 17, 18, 19, 20, 21, 22, 23, 24, 25, 1042, 1043, 1044, 1045, 1100001, 1100002, 1100005, 1100003, 1100004, 1100018] S (sv_up (sv_sts S [1020, 1021, 1022, 1023, 5, 1011, 3, 4, 1007, 1009, 11, 12, 13, 14, 1024, 15, 16, 1031, 1032, 17, 18, 19, 20, 21, 22, 23, 24, 25, 1042, 1043, 1044, 1045, 1100001, 1100002, 1100005, 1100003, 1100004, 1100018] g5) 1020 0 ((g5 1020 0) + (1 : Int))) := sv_mod.up md10 (by decide)
      refine sv_aload_n hM dX12_conditional_35 rfl rfl ?_
      refine sv_iload_n hM dX12_conditional_36 rfl rfl ?_
      obtain ⟨o18, h⟩ := h
      obtain ⟨o19, h⟩ := h
      obtain ⟨o20, h⟩ := h
      refine sv_callV hM dX12_conditional_37 sm_iv_466 (by decide) (sm_a0 _) rfl rfl (Nat.le_of_ble_eq_true rfl) sm_h46 (Nat.le_of_ble_eq_true rfl) (Nat.le_of_ble_eq_true rfl) (F' := ((30 * (20 - (g5 1023 0)) + 14)).toNat) (sv_Fe o20) rfl ((IH (30 * (20 - (g5 1023 0)) + 14) o19.1 o19.2).2.1 p1 (sv_up (sv_sts S [1020, 1021, 1022, 1023, 5, 1011, 3, 4, 1007, 1009, 11, 12, 13, 14, 1024, 15, 16, 1031, 1032, 17, 18, 19, 20, 21, 22, 23, 24, 25, 1042, 1043, 1044, 1045, 1100001, 1100002, 1100005, 1100003, 1100004, 1100018] g5) 1020 0 ((g5 1020 0) + (1 : Int))) ok16 o1 o18 rfl) (fun v S1 hq => ?_)
      obtain ⟨r25, rfl, hr25, ok22, md23, hp24⟩ := hq
      obtain ⟨g21, rfl⟩ : ∃ g, S1 = sv_sts (sv_up (sv_sts S [1020, 1021, 1022, 1023, 5, 1011, 3, 4, 1007, 1009, 11, 12, 13, 14, 1024, 15, 16, 1031, 1032, 17, 18, 19, 20, 21, 22, 23, 24, 25, 1042, 1043, 1044, 1045, 1100001, 1100002, 1100005, 1100003, 1100004, 1100018] g5) 1020 0 ((g5 1020 0) + (1 : Int))) [1020, 1021, 1022, 1023, 5, 1011, 3, 4, 1007, 1009, 11, 12, 13, 14, 1024, 15, 16, 1031, 1032, 17, 18, 19, 20, 21, 22, 23, 24, 25, 1042, 1043, 1044, 1045, 1100001, 1100002, 1100005, 1100003, 1100004, 1100018] g := ⟨_, md23.eq⟩
      show sv_T sm_XS sm_cs sm_L sm_sh ((if 0 < (S 1021 0) then 11 else 30 * (20 - (S 1023 0)) + 24)).toNat (q_conditional p1 S) 48 40 [(0, .ref 0), (1, sv_I p1), (2, sv_I r9)] [sv_I r25] (sv_sts (sv_up (sv_sts S [1020, 1021, 1022, 1023, 5, 1011, 3, 4, 1007, 1009, 11, 12, 13, 14, 1024, 15, 16, 1031, 1032, 17, 18, 19, 20, 21, 22, 23, 24, 25, 1042, 1043, 1044, 1045, 1100001, 1100002, 1100005, 1100003, 1100004, 1100018] g5) 1020 0 ((g5 1020 0) + (1 : Int))) [1020, 1021, 1022, 1023, 5, 1011, 3, 4, 1007, 1009, 11, 12, 13, 14, 1024, 15, 16, 1031, 1032, 17, 18, 19, 20, 21, 22, 23, 24, 25, 1042, 1043, 1044, 1045, 1100001, 1100002, 1100005, 1100003, 1100004, 1100018] g21)
      have md26 : sv_mod [1020, 1021, 1022, 1023, 5, 1011, 3, 4, 1007, 1009, 11, 12, 13, 14, 1024, 15, 16, 1031, 1032, 17, 18, 19, 20, 21, 22, 23, 24, 25, 1042, 1043, 1044, 1045, 1100001, 1100002, 1100005, 1100003, 1100004, 1100018] S (sv_sts (sv_up (sv_sts S [1020, 1021, 1022, 1023, 5, 1011, 3, 4, 1007, 1009, 11, 12, 13, 14, 1024, 15, 16, 1031, 1032, 17, 18, 19, 20, 21, 22, 23, 24, 25, 1042, 1043, 1044, 1045, 1100001, 1100002, 1100005, 1100003, 1100004, 1100018] g5) 1020 0 ((g5 1020 0) + (1 : Int))) [1020, 1021, 1022, 1023, 5, 1011, 3, 4, 1007, 1009, 11, 12, 13, 14, 1024, 15, 16, 1031, 1032, 17, 18, 19, 20, 21, 22, 23, 24, 25, 1042, 1043, 1044, 1045, 1100001, 1100002, 1100005, 1100003, 1100004, 1100018] g21) := sv_mod.sts md17 (by decide)
      have h := h r25 hr25 g21 hp24
      refine sv_istore_n hM dX12_conditional_40 (by decide) rfl ?_
      show sv_T sm_XS sm_cs sm_L sm_sh ((if 0 < (S 1021 0) then 11 else 30 * (20 - (S 1023 0)) + 24)).toNat (q_conditional p1 S) 48 41 [(0, .ref 0), (1, sv_I p1), (2, sv_I r9), (3, sv_I r25)] [] (sv_sts (sv_up (sv_sts S [1020, 1021, 1022, 1023, 5, 1011, 3, 4, 1007, 1009, 11, 12, 13, 14, 1024, 15, 16, 1031, 1032, 17, 18, 19, 20, 21, 22, 23, 24, 25, 1042, 1043, 1044, 1045, 1100001, 1100002, 1100005, 1100003, 1100004, 1100018] g5) 1020 0 ((g5 1020 0) + (1 : Int))) [1020, 1021, 1022, 1023, 5, 1011, 3, 4, 1007, 1009, 11, 12, 13, 14, 1024, 15, 16, 1031, 1032, 17, 18, 19, 20, 21, 22, 23, 24, 25, 1042, 1043, 1044, 1045, 1100001, 1100002, 1100005, 1100003, 1100004, 1100018] g21)
      refine sv_aload_n hM dX12_conditional_41 rfl rfl ?_
      refine sv_bipush (d := (46 : Int)) hM dX12_conditional_42 rfl rfl ?_
      obtain ⟨o27, h⟩ := h
      obtain ⟨o28, h⟩ := h
      refine sv_callV hM dX12_conditional_44 sm_iv_473 (by decide) (sm_a0 _) rfl rfl (Nat.le_of_ble_eq_true rfl) sm_h26 (Nat.le_of_ble_eq_true rfl) (Nat.le_of_ble_eq_true rfl) (F' := 1) (sv_Fn (n := 1) o28) rfl (t_must (46 : Int) (sv_sts (sv_up (sv_sts S [1020, 1021, 1022, 1023, 5, 1011, 3, 4, 1007, 1009, 11, 12, 13, 14, 1024, 15, 16, 1031, 1032, 17, 18, 19, 20, 21, 22, 23, 24, 25, 1042, 1043, 1044, 1045, 1100001, 1100002, 1100005, 1100003, 1100004, 1100018] g5) 1020 0 ((g5 1020 0) + (1 : Int))) [1020, 1021, 1022, 1023, 5, 1011, 3, 4, 1007, 1009, 11, 12, 13, 14, 1024, 15, 16, 1031, 1032, 17, 18, 19, 20, 21, 22, 23, 24, 25, 1042, 1043, 1044, 1045, 1100001, 1100002, 1100005, 1100003, 1100004, 1100018] g21) ok22 (⟨by decide, by decide⟩ : sv_R (46 : Int)) o27) (fun v S1 hq => ?_)
      obtain ⟨r33, rfl, hr33, ok30, md31, hp32⟩ := hq
      obtain ⟨g29, rfl⟩ : ∃ g, S1 = sv_sts (sv_sts (sv_up (sv_sts S [1020, 1021, 1022, 1023, 5, 1011, 3, 4, 1007, 1009, 11, 12, 13, 14, 1024, 15, 16, 1031, 1032, 17, 18, 19, 20, 21, 22, 23, 24, 25, 1042, 1043, 1044, 1045, 1100001, 1100002, 1100005, 1100003, 1100004, 1100018] g5) 1020 0 ((g5 1020 0) + (1 : Int))) [1020, 1021, 1022, 1023, 5, 1011, 3, 4, 1007, 1009, 11, 12, 13, 14, 1024, 15, 16, 1031, 1032, 17, 18, 19, 20, 21, 22, 23, 24, 25, 1042, 1043, 1044, 1045, 1100001, 1100002, 1100005, 1100003, 1100004, 1100018] g21) [1021, 1022, 1020] g := ⟨_, md31.eq⟩
      show sv_T sm_XS sm_cs sm_L sm_sh ((if 0 < (S 1021 0) then 11 else 30 * (20 - (S 1023 0)) + 24)).toNat (q_conditional p1 S) 48 47 [(0, .ref 0), (1, sv_I p1), (2, sv_I r9), (3, sv_I r25)] [sv_I r33] (sv_sts (sv_sts (sv_up (sv_sts S [1020, 1021, 1022, 1023, 5, 1011, 3, 4, 1007, 1009, 11, 12, 13, 14, 1024, 15, 16, 1031, 1032, 17, 18, 19, 20, 21, 22, 23, 24, 25, 1042, 1043, 1044, 1045, 1100001, 1100002, 1100005, 1100003, 1100004, 1100018] g5) 1020 0 ((g5 1020 0) + (1 : Int))) [1020, 1021, 1022, 1023, 5, 1011, 3, 4, 1007, 1009, 11, 12, 13, 14, 1024, 15, 16, 1031, 1032, 17, 18, 19, 20, 21, 22, 23, 24, 25, 1042, 1043, 1044, 1045, 1100001, 1100002, 1100005, 1100003, 1100004, 1100018] g21) [1021, 1022, 1020] g29)
      have md34 : sv_mod [1020, 1021, 1022, 1023, 5, 1011, 3, 4, 1007, 1009, 11, 12, 13, 14, 1024, 15, 16, 1031, 1032, 17, 18, 19, 20, 21, 22, 23, 24, 25, 1042, 1043, 1044, 1045, 1100001, 1100002, 1100005, 1100003, 1100004, 1100018] S (sv_sts (sv_sts (sv_up (sv_sts S [1020, 1021, 1022, 1023, 5, 1011, 3, 4, 1007, 1009, 11, 12, 13, 14, 1024, 15, 16, 1031, 1032, 17, 18, 19, 20, 21, 22, 23, 24, 25, 1042, 1043, 1044, 1045, 1100001, 1100002, 1100005, 1100003, 1100004, 1100018] g5) 1020 0 ((g5 1020 0) + (1 : Int))) [1020, 1021, 1022, 1023, 5, 1011, 3, 4, 1007, 1009, 11, 12, 13, 14, 1024, 15, 16, 1031, 1032, 17, 18, 19, 20, 21, 22, 23, 24, 25, 1042, 1043, 1044, 1045, 1100001, 1100002, 1100005, 1100003, 1100004, 1100018] g21) [1021, 1022, 1020] g29) := sv_mod.sts md26 (by decide)
      have h := h r33 hr33 g29 hp32
      refine sv_cond_ne hM dX12_conditional_47 hr33 (t := 52) rfl rfl (fun hc => ?_) (fun hc => ?_)
      · have h := h.1 (hc)
        refine sv_aload_n hM dX12_conditional_52 rfl rfl ?_
        refine sv_bipush (d := (14 : Int)) hM dX12_conditional_53 rfl rfl ?_
        refine sv_iload_n hM dX12_conditional_55 rfl rfl ?_
        refine sv_iload_n hM dX12_conditional_56 rfl rfl ?_
        refine sv_aload_n hM dX12_conditional_57 rfl rfl ?_
        refine sv_iload_n hM dX12_conditional_58 rfl rfl ?_
        obtain ⟨o35, h⟩ := h
        obtain ⟨o36, h⟩ := h
        obtain ⟨o37, h⟩ := h
        refine sv_callV hM dX12_conditional_59 sm_iv_466 (by decide) (sm_a0 _) rfl rfl (Nat.le_of_ble_eq_true rfl) sm_h46 (Nat.le_of_ble_eq_true rfl) (Nat.le_of_ble_eq_true rfl) (F' := ((30 * (20 - (g21 1023 0)) + 14)).toNat) (sv_Fe o37) rfl ((IH (30 * (20 - (g21 1023 0)) + 14) o36.1 o36.2).2.1 p1 (sv_sts (sv_sts (sv_up (sv_sts S [1020, 1021, 1022, 1023, 5, 1011, 3, 4, 1007, 1009, 11, 12, 13, 14, 1024, 15, 16, 1031, 1032, 17, 18, 19, 20, 21, 22, 23, 24, 25, 1042, 1043, 1044, 1045, 1100001, 1100002, 1100005, 1100003, 1100004, 1100018] g5) 1020 0 ((g5 1020 0) + (1 : Int))) [1020, 1021, 1022, 1023, 5, 1011, 3, 4, 1007, 1009, 11, 12, 13, 14, 1024, 15, 16, 1031, 1032, 17, 18, 19, 20, 21, 22, 23, 24, 25, 1042, 1043, 1044, 1045, 1100001, 1100002, 1100005, 1100003, 1100004, 1100018] g21) [1021, 1022, 1020] g29) ok30 o1 o35 rfl) (fun v S1 hq => ?_)
        obtain ⟨r42, rfl, hr42, ok39, md40, hp41⟩ := hq
        obtain ⟨g38, rfl⟩ : ∃ g, S1 = sv_sts (sv_sts (sv_sts (sv_up (sv_sts S [1020, 1021, 1022, 1023, 5, 1011, 3, 4, 1007, 1009, 11, 12, 13, 14, 1024, 15, 16, 1031, 1032, 17, 18, 19, 20, 21, 22, 23, 24, 25, 1042, 1043, 1044, 1045, 1100001, 1100002, 1100005, 1100003, 1100004, 1100018] g5) 1020 0 ((g5 1020 0) + (1 : Int))) [1020, 1021, 1022, 1023, 5, 1011, 3, 4, 1007, 1009, 11, 12, 13, 14, 1024, 15, 16, 1031, 1032, 17, 18, 19, 20, 21, 22, 23, 24, 25, 1042, 1043, 1044, 1045, 1100001, 1100002, 1100005, 1100003, 1100004, 1100018] g21) [1021, 1022, 1020] g29) [1020, 1021, 1022, 1023, 5, 1011, 3, 4, 1007, 1009, 11, 12, 13, 14, 1024, 15, 16, 1031, 1032, 17, 18, 19, 20, 21, 22, 23, 24, 25, 1042, 1043, 1044, 1045, 1100001, 1100002, 1100005, 1100003, 1100004, 1100018] g := ⟨_, md40.eq⟩
        show sv_T sm_XS sm_cs sm_L sm_sh ((if 0 < (S 1021 0) then 11 else 30 * (20 - (S 1023 0)) + 24)).toNat (q_conditional p1 S) 48 62 [(0, .ref 0), (1, sv_I p1), (2, sv_I r9), (3, sv_I r25)] [sv_I r42, sv_I r25, sv_I r9, sv_I (14 : Int), .ref 0] (sv_sts (sv_sts (sv_sts (sv_up (sv_sts S [1020, 1021, 1022, 1023, 5, 1011, 3, 4, 1007, 1009, 11, 12, 13, 14, 1024, 15, 16, 1031, 1032, 17, 18, 19, 20, 21, 22, 23, 24, 25, 1042, 1043, 1044, 1045, 1100001, 1100002, 1100005, 1100003, 1100004, 1100018] g5) 1020 0 ((g5 1020 0) + (1 : Int))) [1020, 1021, 1022, 1023, 5, 1011, 3, 4, 1007, 1009, 11, 12, 13, 14, 1024, 15, 16, 1031, 1032, 17, 18, 19, 20, 21, 22, 23, 24, 25, 1042, 1043, 1044, 1045, 1100001, 1100002, 1100005, 1100003, 1100004, 1100018] g21) [1021, 1022, 1020] g29) [1020, 1021, 1022, 1023, 5, 1011, 3, 4, 1007, 1009, 11, 12, 13, 14, 1024, 15, 16, 1031, 1032, 17, 18, 19, 20, 21, 22, 23, 24, 25, 1042, 1043, 1044, 1045, 1100001, 1100002, 1100005, 1100003, 1100004, 1100018] g38)
        have md43 : sv_mod [1020, 1021, 1022, 1023, 5, 1011, 3, 4, 1007, 1009, 11, 12, 13, 14, 1024, 15, 16, 1031, 1032, 17, 18, 19, 20, 21, 22, 23, 24, 25, 1042, 1043, 1044, 1045, 1100001, 1100002, 1100005, 1100003, 1100004, 1100018] S (sv_sts (sv_sts (sv_sts (sv_up (sv_sts S [1020, 1021, 1022, 1023, 5, 1011, 3, 4, 1007, 1009, 11, 12, 13, 14, 1024, 15, 16, 1031, 1032, 17, 18, 19, 20, 21, 22, 23, 24, 25, 1042, 1043, 1044, 1045, 1100001, 1100002, 1100005, 1100003, 1100004, 1100018] g5) 1020 0 ((g5 1020 0) + (1 : Int))) [1020, 1021, 1022, 1023, 5, 1011, 3, 4, 1007, 1009, 11, 12, 13, 14, 1024, 15, 16, 1031, 1032, 17, 18, 19, 20, 21, 22, 23, 24, 25, 1042, 1043, 1044, 1045, 1100001, 1100002, 1100005, 1100003, 1100004, 1100018] g21) [1021, 1022, 1020] g29) [1020, 1021, 1022, 1023, 5, 1011, 3, 4, 1007, 1009, 11, 12, 13, 14, 1024, 15, 16, 1031, 1032, 17, 18, 19, 20, 21, 22, 23, 24, 25, 1042, 1043, 1044, 1045, 1100001, 1100002, 1100005, 1100003, 1100004, 1100018] g38) := sv_mod.sts md34 (by decide)
        have h := h r42 hr42 g38 hp41
        obtain ⟨o44, h⟩ := h
        refine sv_callV hM dX12_conditional_62 sm_iv_446 (by decide) (sm_a0 _) rfl rfl (Nat.le_of_ble_eq_true rfl) sm_h33 (Nat.le_of_ble_eq_true rfl) (Nat.le_of_ble_eq_true rfl) (F' := 0) (sv_Fn (n := 0) o13) rfl (t_node (14 : Int) r9 r25 r42 (sv_sts (sv_sts (sv_sts (sv_up (sv_sts S [1020, 1021, 1022, 1023, 5, 1011, 3, 4, 1007, 1009, 11, 12, 13, 14, 1024, 15, 16, 1031, 1032, 17, 18, 19, 20, 21, 22, 23, 24, 25, 1042, 1043, 1044, 1045, 1100001, 1100002, 1100005, 1100003, 1100004, 1100018] g5) 1020 0 ((g5 1020 0) + (1 : Int))) [1020, 1021, 1022, 1023, 5, 1011, 3, 4, 1007, 1009, 11, 12, 13, 14, 1024, 15, 16, 1031, 1032, 17, 18, 19, 20, 21, 22, 23, 24, 25, 1042, 1043, 1044, 1045, 1100001, 1100002, 1100005, 1100003, 1100004, 1100018] g21) [1021, 1022, 1020] g29) [1020, 1021, 1022, 1023, 5, 1011, 3, 4, 1007, 1009, 11, 12, 13, 14, 1024, 15, 16, 1031, 1032, 17, 18, 19, 20, 21, 22, 23, 24, 25, 1042, 1043, 1044, 1045, 1100001, 1100002, 1100005, 1100003, 1100004, 1100018] g38) ok39 (⟨by decide, by decide⟩ : sv_R (14 : Int)) hr9 hr25 hr42 o44) (fun v S1 hq => ?_)
        obtain ⟨r49, rfl, hr49, ok46, md47, hp48⟩ := hq
        obtain ⟨g45, rfl⟩ : ∃ g, S1 = sv_sts (sv_sts (sv_sts (sv_sts (sv_up (sv_sts S [1020, 1021, 1022, 1023, 5, 1011, 3, 4, 1007, 1009, 11, 12, 13, 14, 1024, 15, 16, 1031, 1032, 17, 18, 19, 20, 21, 22, 23, 24, 25, 1042, 1043, 1044, 1045, 1100001, 1100002, 1100005, 1100003, 1100004, 1100018] g5) 1020 0 ((g5 1020 0) + (1 : Int))) [1020, 1021, 1022, 1023, 5, 1011, 3, 4, 1007, 1009, 11, 12, 13, 14, 1024, 15, 16, 1031, 1032, 17, 18, 19, 20, 21, 22, 23, 24, 25, 1042, 1043, 1044, 1045, 1100001, 1100002, 1100005, 1100003, 1100004, 1100018] g21) [1021, 1022, 1020] g29) [1020, 1021, 1022, 1023, 5, 1011, 3, 4, 1007, 1009, 11, 12, 13, 14, 1024, 15, 16, 1031, 1032, 17, 18, 19, 20, 21, 22, 23, 24, 25, 1042, 1043, 1044, 1045, 1100001, 1100002, 1100005, 1100003, 1100004, 1100018] g38) [1024, 11, 12, 13, 14] g := ⟨_, md47.eq⟩
        show sv_T sm_XS sm_cs sm_L sm_sh ((if 0 < (S 1021 0) then 11 else 30 * (20 - (S 1023 0)) + 24)).toNat (q_conditional p1 S) 48 65 [(0, .ref 0), (1, sv_I p1), (2, sv_I r9), (3, sv_I r25)] [sv_I r49] (sv_sts (sv_sts (sv_sts (sv_sts (sv_up (sv_sts S [1020, 1021, 1022, 1023, 5, 1011, 3, 4, 1007, 1009, 11, 12, 13, 14, 1024, 15, 16, 1031, 1032, 17, 18, 19, 20, 21, 22, 23, 24, 25, 1042, 1043, 1044, 1045, 1100001, 1100002, 1100005, 1100003, 1100004, 1100018] g5) 1020 0 ((g5 1020 0) + (1 : Int))) [1020, 1021, 1022, 1023, 5, 1011, 3, 4, 1007, 1009, 11, 12, 13, 14, 1024, 15, 16, 1031, 1032, 17, 18, 19, 20, 21, 22, 23, 24, 25, 1042, 1043, 1044, 1045, 1100001, 1100002, 1100005, 1100003, 1100004, 1100018] g21) [1021, 1022, 1020] g29) [1020, 1021, 1022, 1023, 5, 1011, 3, 4, 1007, 1009, 11, 12, 13, 14, 1024, 15, 16, 1031, 1032, 17, 18, 19, 20, 21, 22, 23, 24, 25, 1042, 1043, 1044, 1045, 1100001, 1100002, 1100005, 1100003, 1100004, 1100018] g38) [1024, 11, 12, 13, 14] g45)
        have md50 : sv_mod [1020, 1021, 1022, 1023, 5, 1011, 3, 4, 1007, 1009, 11, 12, 13, 14, 1024, 15, 16, 1031, 1032, 17, 18, 19, 20, 21, 22, 23, 24, 25, 1042, 1043, 1044, 1045, 1100001, 1100002, 1100005, 1100003, 1100004, 1100018] S (sv_sts (sv_sts (sv_sts (sv_sts (sv_up (sv_sts S [1020, 1021, 1022, 1023, 5, 1011, 3, 4, 1007, 1009, 11, 12, 13, 14, 1024, 15, 16, 1031, 1032, 17, 18, 19, 20, 21, 22, 23, 24, 25, 1042, 1043, 1044, 1045, 1100001, 1100002, 1100005, 1100003, 1100004, 1100018] g5) 1020 0 ((g5 1020 0) + (1 : Int))) [1020, 1021, 1022, 1023, 5, 1011, 3, 4, 1007, 1009, 11, 12, 13, 14, 1024, 15, 16, 1031, 1032, 17, 18, 19, 20, 21, 22, 23, 24, 25, 1042, 1043, 1044, 1045, 1100001, 1100002, 1100005, 1100003, 1100004, 1100018] g21) [1021, 1022, 1020] g29) [1020, 1021, 1022, 1023, 5, 1011, 3, 4, 1007, 1009, 11, 12, 13, 14, 1024, 15, 16, 1031, 1032, 17, 18, 19, 20, 21, 22, 23, 24, 25, 1042, 1043, 1044, 1045, 1100001, 1100002, 1100005, 1100003, 1100004, 1100018] g38) [1024, 11, 12, 13, 14] g45) := sv_mod.sts md43 (by decide)
        have h := h r49 hr49 g45 hp48
        refine sv_ghost sm_X 1100001 r49 (1 : Int) (by decide) ?_
        have ok51 : sm_ok (sv_up (sv_sts (sv_sts (sv_sts (sv_sts (sv_up (sv_sts S [1020, 1021, 1022, 1023, 5, 1011, 3, 4, 1007, 1009, 11, 12, 13, 14, 1024, 15, 16, 1031, 1032, 17, 18, 19, 20, 21, 22, 23, 24, 25, 1042, 1043, 1044, 1045, 1100001, 1100002, 1100005, 1100003, 1100004, 1100018] g5) 1020 0 ((g5 1020 0) + (1 : Int))) [1020, 1021, 1022, 1023, 5, 1011, 3, 4, 1007, 1009, 11, 12, 13, 14, 1024, 15, 16, 1031, 1032, 17, 18, 19, 20, 21, 22, 23, 24, 25, 1042, 1043, 1044, 1045, 1100001, 1100002, 1100005, 1100003, 1100004, 1100018] g21) [1021, 1022, 1020] g29) [1020, 1021, 1022, 1023, 5, 1011, 3, 4, 1007, 1009, 11, 12, 13, 14, 1024, 15, 16, 1031, 1032, 17, 18, 19, 20, 21, 22, 23, 24, 25, 1042, 1043, 1044, 1045, 1100001, 1100002, 1100005, 1100003, 1100004, 1100018] g38) [1024, 11, 12, 13, 14] g45) 1100001 r49 (1 : Int)) := sm_upI ok46 sm_r1100001 (⟨by decide, by decide⟩ : sv_R (1 : Int))
        have md52 : sv_mod [1020, 1021, 1022, 1023, 5, 1011, 3, 4, 1007, 1009, 11, 12, 13, 14, 1024, 15, 16, 1031, 1032, 17, 18, 19, 20, 21, 22, 23, 24, 25, 1042, 1043, 1044, 1045, 1100001, 1100002, 1100005, 1100003, 1100004, 1100018] S (sv_up (sv_sts (sv_sts (sv_sts (sv_sts (sv_up (sv_sts S [1020, 1021, 1022, 1023, 5, 1011, 3, 4, 1007, 1009, 11, 12, 13, 14, 1024, 15, 16, 1031, 1032, 17, 18, 19, 20, 21, 22, 23, 24, 25, 1042, 1043, 1044, 1045, 1100001, 1100002, 1100005, 1100003, 1100004, 1100018] g5) 1020 0 ((g5 1020 0) + (1 : Int))) [1020, 1021, 1022, 1023, 5, 1011, 3, 4, 1007, 1009, 11, 12, 13, 14, 1024, 15, 16, 1031, 1032, 17, 18, 19, 20, 21, 22, 23, 24, 25, 1042, 1043, 1044, 1045, 1100001, 1100002, 1100005, 1100003, 1100004, 1100018] g21) [1021, 1022, 1020] g29) [1020, 1021, 1022, 1023, 5, 1011, 3, 4, 1007, 1009, 11, 12, 13, 14, 1024, 15, 16, 1031, 1032, 17, 18, 19, 20, 21, 22, 23, 24, 25, 1042, 1043, 1044, 1045, 1100001, 1100002, 1100005, 1100003, 1100004, 1100018] g38) [1024, 11, 12, 13, 14] g45) 1100001 r49 (1 : Int)) := sv_mod.up md50 (by decide)
        obtain ⟨o53, h⟩ := h
        refine sv_ghost sm_X 1100002 r49 ((17 * (20 - (S 1023 0)) + 17)) (by decide) ?_
        have ok54 : sm_ok (sv_up (sv_up (sv_sts (sv_sts (sv_sts (sv_sts (sv_up (sv_sts S [1020, 1021, 1022, 1023, 5, 1011, 3, 4, 1007, 1009, 11, 12, 13, 14, 1024, 15, 16, 1031, 1032, 17, 18, 19, 20, 21, 22, 23, 24, 25, 1042, 1043, 1044, 1045, 1100001, 1100002, 1100005, 1100003, 1100004, 1100018] g5) 1020 0 ((g5 1020 0) + (1 : Int))) [1020, 1021, 1022, 1023, 5, 1011, 3, 4, 1007, 1009, 11, 12, 13, 14, 1024, 15, 16, 1031, 1032, 17, 18, 19, 20, 21, 22, 23, 24, 25, 1042, 1043, 1044, 1045, 1100001, 1100002, 1100005, 1100003, 1100004, 1100018] g21) [1021, 1022, 1020] g29) [1020, 1021, 1022, 1023, 5, 1011, 3, 4, 1007, 1009, 11, 12, 13, 14, 1024, 15, 16, 1031, 1032, 17, 18, 19, 20, 21, 22, 23, 24, 25, 1042, 1043, 1044, 1045, 1100001, 1100002, 1100005, 1100003, 1100004, 1100018] g38) [1024, 11, 12, 13, 14] g45) 1100001 r49 (1 : Int)) 1100002 r49 ((17 * (20 - (S 1023 0)) + 17))) := sm_upI ok51 sm_r1100002 o53
        have md55 : sv_mod [1020, 1021, 1022, 1023, 5, 1011, 3, 4, 1007, 1009, 11, 12, 13, 14, 1024, 15, 16, 1031, 1032, 17, 18, 19, 20, 21, 22, 23, 24, 25, 1042, 1043, 1044, 1045, 1100001, 1100002, 1100005, 1100003, 1100004, 1100018] S (sv_up (sv_up (sv_sts (sv_sts (sv_sts (sv_sts (sv_up (sv_sts S [1020, 1021, 1022, 1023, 5, 1011, 3, 4, 1007, 1009, 11, 12, 13, 14, 1024, 15, 16, 1031, 1032, 17, 18, 19, 20, 21, 22, 23, 24, 25, 1042, 1043, 1044, 1045, 1100001, 1100002, 1100005, 1100003, 1100004, 1100018] g5) 1020 0 ((g5 1020 0) + (1 : Int))) [1020, 1021, 1022, 1023, 5, 1011, 3, 4, 1007, 1009, 11, 12, 13, 14, 1024, 15, 16, 1031, 1032, 17, 18, 19, 20, 21, 22, 23, 24, 25, 1042, 1043, 1044, 1045, 1100001, 1100002, 1100005, 1100003, 1100004, 1100018] g21) [1021, 1022, 1020] g29) [1020, 1021, 1022, 1023, 5, 1011, 3, 4, 1007, 1009, 11, 12, 13, 14, 1024, 15, 16, 1031, 1032, 17, 18, 19, 20, 21, 22, 23, 24, 25, 1042, 1043, 1044, 1045, 1100001, 1100002, 1100005, 1100003, 1100004, 1100018] g38) [1024, 11, 12, 13, 14] g45) 1100001 r49 (1 : Int)) 1100002 r49 ((17 * (20 - (S 1023 0)) + 17))) := sv_mod.up md52 (by decide)
        obtain ⟨o56, h⟩ := h
        refine sv_ghost sm_X 1100005 r49 ((20 - (S 1023 0))) (by decide) ?_
        have ok57 : sm_ok (sv_up (sv_up (sv_up (sv_sts (sv_sts (sv_sts (sv_sts (sv_up (sv_sts S [1020, 1021, 1022, 1023, 5, 1011, 3, 4, 1007, 1009, 11, 12, 13, 14, 1024, 15, 16, 1031, 1032, 17, 18, 19, 20, 21, 22, 23, 24, 25, 1042, 1043, 1044, 1045, 1100001, 1100002, 1100005, 1100003, 1100004, 1100018] g5) 1020 0 ((g5 1020 0) + (1 : Int))) [1020, 1021, 1022, 1023, 5, 1011, 3, 4, 1007, 1009, 11, 12, 13, 14, 1024, 15, 16, 1031, 1032, 17, 18, 19, 20, 21, 22, 23, 24, 25, 1042, 1043, 1044, 1045, 1100001, 1100002, 1100005, 1100003, 1100004, 1100018] g21) [1021, 1022, 1020] g29) [1020, 1021, 1022, 1023, 5, 1011, 3, 4, 1007, 1009, 11, 12, 13, 14, 1024, 15, 16, 1031, 1032, 17, 18, 19, 20, 21, 22, 23, 24, 25, 1042, 1043, 1044, 1045, 1100001, 1100002, 1100005, 1100003, 1100004, 1100018] g38) [1024, 11, 12, 13, 14] g45) 1100001 r49 (1 : Int)) 1100002 r49 ((17 * (20 - (S 1023 0)) + 17))) 1100005 r49 ((20 - (S 1023 0)))) := sm_upI ok54 sm_r1100005 o56
        have md58 : sv_mod [1020, 1021, 1022, 1023, 5, 1011, 3, 4, 1007, 1009, 11, 12, 13, 14, 1024, 15, 16, 1031, 1032, 17, 18, 19, 20, 21, 22, 23, 24, 25, 1042, 1043, 1044, 1045, 1100001, 1100002, 1100005, 1100003, 1100004, 1100018] S (sv_up (sv_up (sv_up (sv_sts (sv_sts (sv_sts (sv_sts (sv_up (sv_sts S [1020, 1021, 1022, 1023, 5, 1011, 3, 4, 1007, 1009, 11, 12, 13, 14, 1024, 15, 16, 1031, 1032, 17, 18, 19, 20, 21, 22, 23, 24, 25, 1042, 1043, 1044, 1045, 1100001, 1100002, 1100005, 1100003, 1100004, 1100018] g5) 1020 0 ((g5 1020 0) + (1 : Int))) [1020, 1021, 1022, 1023, 5, 1011, 3, 4, 1007, 1009, 11, 12, 13, 14, 1024, 15, 16, 1031, 1032, 17, 18, 19, 20, 21, 22, 23, 24, 25, 1042, 1043, 1044, 1045, 1100001, 1100002, 1100005, 1100003, 1100004, 1100018] g21) [1021, 1022, 1020] g29) [1020, 1021, 1022, 1023, 5, 1011, 3, 4, 1007, 1009, 11, 12, 13, 14, 1024, 15, 16, 1031, 1032, 17, 18, 19, 20, 21, 22, 23, 24, 25, 1042, 1043, 1044, 1045, 1100001, 1100002, 1100005, 1100003, 1100004, 1100018] g38) [1024, 11, 12, 13, 14] g45) 1100001 r49 (1 : Int)) 1100002 r49 ((17 * (20 - (S 1023 0)) + 17))) 1100005 r49 ((20 - (S 1023 0)))) := sv_mod.up md55 (by decide)
        refine sv_ghost sm_X 1100003 r49 (0 : Int) (by decide) ?_
        have ok59 : sm_ok (sv_up (sv_up (sv_up (sv_up (sv_sts (sv_sts (sv_sts (sv_sts (sv_up (sv_sts S [1020, 1021, 1022, 1023, 5, 1011, 3, 4, 1007, 1009, 11, 12, 13, 14, 1024, 15, 16, 1031, 1032, 17, 18, 19, 20, 21, 22, 23, 24, 25, 1042, 1043, 1044, 1045, 1100001, 1100002, 1100005, 1100003, 1100004, 1100018] g5) 1020 0 ((g5 1020 0) + (1 : Int))) [1020, 1021, 1022, 1023, 5, 1011, 3, 4, 1007, 1009, 11, 12, 13, 14, 1024, 15, 16, 1031, 1032, 17, 18, 19, 20, 21, 22, 23, 24, 25, 1042, 1043, 1044, 1045, 1100001, 1100002, 1100005, 1100003, 1100004, 1100018] g21) [1021, 1022, 1020] g29) [1020, 1021, 1022, 1023, 5, 1011, 3, 4, 1007, 1009, 11, 12, 13, 14, 1024, 15, 16, 1031, 1032, 17, 18, 19, 20, 21, 22, 23, 24, 25, 1042, 1043, 1044, 1045, 1100001, 1100002, 1100005, 1100003, 1100004, 1100018] g38) [1024, 11, 12, 13, 14] g45) 1100001 r49 (1 : Int)) 1100002 r49 ((17 * (20 - (S 1023 0)) + 17))) 1100005 r49 ((20 - (S 1023 0)))) 1100003 r49 (0 : Int)) := sm_upI ok57 sm_r1100003 (⟨by decide, by decide⟩ : sv_R (0 : Int))
        have md60 : sv_mod [1020, 1021, 1022, 1023, 5, 1011, 3, 4, 1007, 1009, 11, 12, 13, 14, 1024, 15, 16, 1031, 1032, 17, 18, 19, 20, 21, 22, 23, 24, 25, 1042, 1043, 1044, 1045, 1100001, 1100002, 1100005, 1100003, 1100004, 1100018] S (sv_up (sv_up (sv_up (sv_up (sv_sts (sv_sts (sv_sts (sv_sts (sv_up (sv_sts S [1020, 1021, 1022, 1023, 5, 1011, 3, 4, 1007, 1009, 11, 12, 13, 14, 1024, 15, 16, 1031, 1032, 17, 18, 19, 20, 21, 22, 23, 24, 25, 1042, 1043, 1044, 1045, 1100001, 1100002, 1100005, 1100003, 1100004, 1100018] g5) 1020 0 ((g5 1020 0) + (1 : Int))) [1020, 1021, 1022, 1023, 5, 1011, 3, 4, 1007, 1009, 11, 12, 13, 14, 1024, 15, 16, 1031, 1032, 17, 18, 19, 20, 21, 22, 23, 24, 25, 1042, 1043, 1044, 1045, 1100001, 1100002, 1100005, 1100003, 1100004, 1100018] g21) [1021, 1022, 1020] g29) [1020, 1021, 1022, 1023, 5, 1011, 3, 4, 1007, 1009, 11, 12, 13, 14, 1024, 15, 16, 1031, 1032, 17, 18, 19, 20, 21, 22, 23, 24, 25, 1042, 1043, 1044, 1045, 1100001, 1100002, 1100005, 1100003, 1100004, 1100018] g38) [1024, 11, 12, 13, 14] g45) 1100001 r49 (1 : Int)) 1100002 r49 ((17 * (20 - (S 1023 0)) + 17))) 1100005 r49 ((20 - (S 1023 0)))) 1100003 r49 (0 : Int)) := sv_mod.up md58 (by decide)
        refine sv_ghost sm_X 1100004 r49 (0 : Int) (by decide) ?_
        have ok61 : sm_ok (sv_up (sv_up (sv_up (sv_up (sv_up (sv_sts (sv_sts (sv_sts (sv_sts (sv_up (sv_sts S [1020, 1021, 1022, 1023, 5, 1011, 3, 4, 1007, 1009, 11, 12, 13, 14, 1024, 15, 16, 1031, 1032, 17, 18, 19, 20, 21, 22, 23, 24, 25, 1042, 1043, 1044, 1045, 1100001, 1100002, 1100005, 1100003, 1100004, 1100018] g5) 1020 0 ((g5 1020 0) + (1 : Int))) [1020, 1021, 1022, 1023, 5, 1011, 3, 4, 1007, 1009, 11, 12, 13, 14, 1024, 15, 16, 1031, 1032, 17, 18, 19, 20, 21, 22, 23, 24, 25, 1042, 1043, 1044, 1045, 1100001, 1100002, 1100005, 1100003, 1100004, 1100018] g21) [1021, 1022, 1020] g29) [1020, 1021, 1022, 1023, 5, 1011, 3, 4, 1007, 1009, 11, 12, 13, 14, 1024, 15, 16, 1031, 1032, 17, 18, 19, 20, 21, 22, 23, 24, 25, 1042, 1043, 1044, 1045, 1100001, 1100002, 1100005, 1100003, 1100004, 1100018] g38) [1024, 11, 12, 13, 14] g45) 1100001 r49 (1 : Int)) 1100002 r49 ((17 * (20 - (S 1023 0)) + 17))) 1100005 r49 ((20 - (S 1023 0)))) 1100003 r49 (0 : Int)) 1100004 r49 (0 : Int)) := sm_upI ok59 sm_r1100004 (⟨by decide, by decide⟩ : sv_R (0 : Int))
        have md62 : sv_mod [1020, 1021, 1022, 1023, 5, 1011, 3, 4, 1007, 1009, 11, 12, 13, 14, 1024, 15, 16, 1031, 1032, 17, 18, 19, 20, 21, 22, 23, 24, 25, 1042, 1043, 1044, 1045, 1100001, 1100002, 1100005, 1100003, 1100004, 1100018] S (sv_up (sv_up (sv_up (sv_up (sv_up (sv_sts (sv_sts (sv_sts (sv_sts (sv_up (sv_sts S [1020, 1021, 1022, 1023, 5, 1011, 3, 4, 1007, 1009, 11, 12, 13, 14, 1024, 15, 16, 1031, 1032, 17, 18, 19, 20, 21, 22, 23, 24, 25, 1042, 1043, 1044, 1045, 1100001, 1100002, 1100005, 1100003, 1100004, 1100018] g5) 1020 0 ((g5 1020 0) + (1 : Int))) [1020, 1021, 1022, 1023, 5, 1011, 3, 4, 1007, 1009, 11, 12, 13, 14, 1024, 15, 16, 1031, 1032, 17, 18, 19, 20, 21, 22, 23, 24, 25, 1042, 1043, 1044, 1045, 1100001, 1100002, 1100005, 1100003, 1100004, 1100018] g21) [1021, 1022, 1020] g29) [1020, 1021, 1022, 1023, 5, 1011, 3, 4, 1007, 1009, 11, 12, 13, 14, 1024, 15, 16, 1031, 1032, 17, 18, 19, 20, 21, 22, 23, 24, 25, 1042, 1043, 1044, 1045, 1100001, 1100002, 1100005, 1100003, 1100004, 1100018] g38) [1024, 11, 12, 13, 14] g45) 1100001 r49 (1 : Int)) 1100002 r49 ((17 * (20 - (S 1023 0)) + 17))) 1100005 r49 ((20 - (S 1023 0)))) 1100003 r49 (0 : Int)) 1100004 r49 (0 : Int)) := sv_mod.up md60 (by decide)
        have k63 : ((g38 1021 0) = 0 → sm_WF (g45 11) (g45 12) (g45 13) (g38 1100001) (g38 1100002) (g38 1100005) (g38 1100003) (g38 1100004) (g45 1024 0) (g38 1007 0) (g38 1009 0) (g38 1032 0) → (g38 1100001 r49) = 0 → 0 ≤ r49 → r49 < (g45 1024 0) → (g45 13 r49) = -1 → (g45 11 r49) = 14 → (sm_ex (g38 1100001) (g38 1100002) (g38 1100005) (g45 1024 0) 1 (g45 12 (5 * r49)) ((17 * (20 - (S 1023 0)) + 17) - 2) (20 - (S 1023 0))) → (sm_ex (g38 1100001) (g38 1100002) (g38 1100005) (g45 1024 0) 1 (g45 12 (5 * r49 + 1)) ((17 * (20 - (S 1023 0)) + 17) - 2) (20 - (S 1023 0))) → (sm_ex (g38 1100001) (g38 1100002) (g38 1100005) (g45 1024 0) 1 (g45 12 (5 * r49 + 2)) ((17 * (20 - (S 1023 0)) + 17) - 2) (20 - (S 1023 0))) → sm_WF (g45 11) (g45 12) (g45 13) (fun i' : Int => if i' = r49 then (1 : Int) else (g38 1100001) i') (fun i' : Int => if i' = r49 then ((17 * (20 - (S 1023 0)) + 17)) else (g38 1100002) i') (fun i' : Int => if i' = r49 then ((20 - (S 1023 0))) else (g38 1100005) i') (fun i' : Int => if i' = r49 then (0 : Int) else (g38 1100003) i') (fun i' : Int => if i' = r49 then (0 : Int) else (g38 1100004) i') (g45 1024 0) (g38 1007 0) (g38 1009 0) (g38 1032 0)) := fun a0 aW a1 a2 a3 a4 aS c1 c2 c3 => (sm_mk1 aW a1 a2 a3 a4 (Or.inr ⟨rfl, sm_c1_14 aS c1 c2 c3⟩)).1
        have h := h k63
        exact sv_iret hM dX12_conditional_65 rfl rfl ⟨r49, rfl, hr49, ok61, md62, h⟩
      · have h := h.2 (hc)
        refine sv_iconst (d := (-1 : Int)) hM dX12_conditional_50 rfl rfl ?_
        exact sv_iret hM dX12_conditional_51 rfl rfl ⟨(-1 : Int), rfl, (⟨by decide, by decide⟩ : sv_R (-1 : Int)), ok30, md34, h⟩
    · have h := h.2 (fun q => hc (by rw [if_pos q]; decide))
      refine sv_iload_n hM dX12_conditional_23 rfl rfl ?_
      exact sv_iret hM dX12_conditional_24 rfl rfl ⟨r9, rfl, hr9, ok6, md10, h⟩
